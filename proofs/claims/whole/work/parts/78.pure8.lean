/-! all classes, and those that the machine throws -/
theorem a_lt {b : Nat} (h : b < 256) : b < 2 ^ 31 := by omega
theorem Tab.cong {C c : Nat} {pt : Nat → Nat} {σ τ σ' τ' : St} (h : Tab C c pt σ τ) (x3 : σ' 3 = σ 3) (x9 : σ' 9 = σ 9) (x10 : σ' 10 = σ 10) (x11 : σ' 11 = σ 11) (x12 : σ' 12 = σ 12) (x13 : σ' 13 = σ 13) (m0 : τ' 0 8 = τ 0 8) (m4 : τ' 4 = τ 4) (m5 : τ' 5 = τ 5) (m6 : τ' 6 = τ 6) (m7 : τ' 7 = τ 7) (m8 : τ' 8 = τ 8) : Tab C c pt σ' τ' := by
  unfold Tab Cls Slots at *
  rw [x3, x9, x10, x11, x12, x13, m0, m4, m5, m6, m7, m8]
  exact h
/-- the five classes below fault k -/
def Thr (C k : Nat) (σ τ : St) : Prop := ∀ j, j < k → σ 14 j = τ 9 j
theorem faults_stop {n q : Nat} {B : Nat → Nat} : ∀ (j k m : Nat) (σ : St), k + j = 5 → j < m → Sp n B q σ → ∃ σ', F_X0_read_46 m (nI k) σ = some σ' ∧ Sp n B q σ' ∧ FrX [14] σ σ' := by
  intro j
  induction j with
  | zero =>
    intro k m σ hk hm h
    obtain ⟨m, rfl⟩ : ∃ m', m = m' + 1 := ⟨m - 1, by omega⟩
    exact ⟨σ, by rw [F_X0_read_46, show (5 : Int32) = nI 5 from rfl, if_le (by omega) (by omega), if_pos (by omega)], h, FrX.rf⟩
  | succ j ih =>
    intro k m σ hk hm h
    obtain ⟨m, rfl⟩ : ∃ m', m = m' + 1 := ⟨m - 1, by omega⟩
    rw [F_X0_read_46, show (5 : Int32) = nI 5 from rfl, if_le (by omega) (by omega), if_neg (by omega), stopped_number h, b2_some, ix_in (by omega) (by omega), nm_eq, nm_eq, nI_clamp (by omega), show nI k + 1 = nI (k + 1) from nI_1 k]
    obtain ⟨σ', e, h', fr⟩ := ih (k + 1) m _ (by omega) (by omega) (h.put (c := 14) (k := k) (v := -1) (by decide))
    exact ⟨σ', e, h', (FrX.st (Or.inr (by simp))).tr fr⟩
theorem faults_both {n C : Nat} {B : Nat → Nat} (hC : C ≤ 32) : ∀ (j k p m1 m2 : Nat) (σ τ : St), k + j = 5 → j < m1 → j < m2 → Sy n B p σ τ → σ 3 0 = nI C → τ 0 8 = nI C → Thr C k σ τ →
    ∃ σ' : St, F_X0_read_46 m1 (nI k) σ = some σ' ∧ FrX [14] σ σ' ∧
      ((∃ (τ' : St) (p' : Nat), F_X8_readAll_48 m2 (nI k) τ = F_X8_readAll_48 1 (nI 5) τ' ∧ FrM [9] τ τ' ∧ p ≤ p' ∧ Sy n B p' σ' τ' ∧ Thr C 5 σ' τ') ∨ (∃ (q : Nat) (τ' : St), F_X8_readAll_48 m2 (nI k) τ = some (0, τ') ∧ Sp n B q σ' ∧ Wr q τ')) := by
  intro j
  induction j with
  | zero =>
    intro k p m1 m2 σ τ hk hm1 hm2 hS h3 h8 hT
    obtain ⟨m1, rfl⟩ : ∃ m', m1 = m' + 1 := ⟨m1 - 1, by omega⟩
    obtain ⟨m2, rfl⟩ : ∃ m', m2 = m' + 1 := ⟨m2 - 1, by omega⟩
    refine ⟨σ, ?_, FrX.rf, Or.inl ⟨τ, p, ?_, FrM.rf, Nat.le_refl _, hS, by rw [show 5 = k by omega]; exact hT⟩⟩
    · rw [F_X0_read_46, show (5 : Int32) = nI 5 from rfl, if_le (by omega) (by omega), if_pos (by omega)]
    · rw [show k = 5 by omega, F_X8_readAll_48, F_X8_readAll_48, if_pos (show (5 : Int32) ≤ nI 5 from nI_le (Nat.le_refl 5) (by omega)), if_pos (show (5 : Int32) ≤ nI 5 from nI_le (Nat.le_refl 5) (by omega))]
  | succ j ih =>
    intro k p m1 m2 σ τ hk hm1 hm2 hS h3 h8 hT
    obtain ⟨m1, rfl⟩ : ∃ m', m1 = m' + 1 := ⟨m1 - 1, by omega⟩
    obtain ⟨m2, rfl⟩ : ∃ m', m2 = m' + 1 := ⟨m2 - 1, by omega⟩
    have c5 : ¬ (5 : Int32) ≤ nI k := nI_ge (a := k) (b := 5) (by omega) (by omega)
    rw [F_X0_read_46, if_neg c5, F_X8_readAll_48, if_neg c5]
    unfold F_X8_overClass
    rw [h3, h8]
    rcases read_both hS 0 (nI C - 1) with ⟨hp, hb, g1, g2, e1, e2⟩ | ⟨-, e1, e2⟩
    · rw [e1, e2, b2_some, b2_some, bo_1, b2_some, if_neg (by decide)]
      have hS1 := hS.step hp
      rw [last_M hS1, b1_some, ix_in (by omega) (by omega), ix_in (by omega) (by omega), nm_eq, nm_eq, nm_eq, nm_eq, nI_clamp (by omega), show nI k + 1 = nI (k + 1) from nI_1 k]
      have hS2 := (hS1.putX (c := 14) (k := k) (v := nI (B p)) (by decide)).putM (c := 9) (k := k) (v := nI (B p)) ⟨by decide, Or.inl (by decide)⟩
      obtain ⟨σ', f1, frx, hcase⟩ := ih (k + 1) (p + 1) m1 m2 _ _ (by omega) (by omega) (by omega) hS2 (by rw [st_mis (Or.inl (by decide)), st_mis (Or.inl (by decide)), h3]) (by rw [st_mis (Or.inl (by decide)), st_mis (Or.inr (by decide)), h8]) (by
        intro i hi
        by_cases a : i = k
        · subst a; rw [st_hit, st_hit]
        · rw [st_mis (Or.inr a), st_mis (Or.inr a), st_row (by decide), st_row (by decide)]
          exact hT i (by omega))
      refine ⟨σ', f1, ((FrX.st (Or.inl rfl)).tr (FrX.st (Or.inr (by simp)))).tr frx, ?_⟩
      rcases hcase with ⟨τ', p', f2, frm, hp', hS', hT'⟩ | hbad
      · exact Or.inl ⟨τ', p', f2, ((FrM.st (Or.inl ⟨rfl, Or.inl rfl⟩)).tr (FrM.st (Or.inr ⟨by decide, by simp⟩))).tr frm, by omega, hS', hT'⟩
      · exact Or.inr hbad
    · rw [e1, e2, b2_some, b2_some, bo_0, b2_some, if_pos rfl, ix_in (by omega) (by omega), nm_eq, nm_eq, nI_clamp (by omega), show nI k + 1 = nI (k + 1) from nI_1 k]
      obtain ⟨σ', f1, hSp, frx⟩ := faults_stop j (k + 1) m1 _ (by omega) (by omega) (hS.stop.put (c := 14) (k := k) (v := -1) (by decide))
      exact ⟨σ', f1, ((FrX.st (Or.inl rfl)).tr (FrX.st (Or.inr (by simp)))).tr frx, Or.inr ⟨p, _, rfl, hSp, hS.wrong p⟩⟩
/-- the classes' loop -/
theorem classes_both {n C : Nat} {B : Nat → Nat} : ∀ (j c p m1 m2 : Nat) (pt : Nat → Nat) (σ τ : St), c + j = C → j < m1 → j < m2 → pt c = p → Sy n B p σ τ → Tab C c pt σ τ →
    ∃ σ' : St, F_X0_read_17 m1 (nI c) σ = F_X0_read_44 σ' ∧ FrX [9, 10, 11, 12, 13] σ σ' ∧
      ((∃ (τ' : St) (p' : Nat) (pt' : Nat → Nat), F_X8_readAll_22 m2 (nI c) τ = F_X8_readAll_48 fu 0 τ' ∧ FrM [4, 5, 6, 7, 8] τ τ' ∧ Sy n B p' σ' τ' ∧ Tab C C pt' σ' τ' ∧ pt' C = p') ∨ (∃ (q : Nat) (τ' : St), F_X8_readAll_22 m2 (nI c) τ = some (0, τ') ∧ Sp n B q σ' ∧ Wr q τ')) := by
  intro j
  induction j with
  | zero =>
    intro c p m1 m2 pt σ τ hk hm1 hm2 hpt hS hT
    obtain ⟨m1, rfl⟩ : ∃ m', m1 = m' + 1 := ⟨m1 - 1, by omega⟩
    obtain ⟨m2, rfl⟩ : ∃ m', m2 = m' + 1 := ⟨m2 - 1, by omega⟩
    have hc : c = C := by omega
    subst hc
    have hC := hT.2.2.1
    refine ⟨σ, ?_, FrX.rf, Or.inl ⟨τ, p, pt, ?_, FrM.rf, hS, hT, hpt⟩⟩
    · rw [F_X0_read_17, hT.1, if_le (by omega) (by omega), if_pos (by omega)]
    · rw [F_X8_readAll_22, hT.2.1, if_le (by omega) (by omega), if_pos (by omega)]
  | succ j ih =>
    intro c p m1 m2 pt σ τ hk hm1 hm2 hpt hS hT
    obtain ⟨m1, rfl⟩ : ∃ m', m1 = m' + 1 := ⟨m1 - 1, by omega⟩
    obtain ⟨m2, rfl⟩ : ∃ m', m2 = m' + 1 := ⟨m2 - 1, by omega⟩
    have hC := hT.2.2.1
    obtain ⟨σ1, r, τ1, e1, e2, frx, hcase⟩ := class_both hS hT (by omega) hpt
    rw [F_X0_read_17, hT.1, if_le (by omega) (by omega), if_neg (by omega), hS.run, b1_some, if_pos rfl, e1, b1_some, nm_eq, show nI c + 1 = nI (c + 1) from nI_1 c]
    rw [F_X8_readAll_22, hT.2.1, if_le (by omega) (by omega), if_neg (by omega), e2, b2_some]
    rcases hcase with ⟨rfl, frm, p', hp', hS', hT'⟩ | ⟨rfl, q, hSp, hW⟩
    · rw [if_neg (by decide), nm_eq, show nI c + 1 = nI (c + 1) from nI_1 c]
      obtain ⟨σ', f1, frx2, hc2⟩ := ih (c + 1) p' m1 m2 (ptSet pt (c + 1) p') σ1 τ1 (by omega) (by omega) (by omega) (by unfold ptSet; rw [if_pos rfl]) hS' hT'
      refine ⟨σ', f1, frx.tr frx2, ?_⟩
      rcases hc2 with ⟨τ', p2, pt2, f2, frm2, rest⟩ | hbad
      · exact Or.inl ⟨τ', p2, pt2, f2, frm.tr frm2, rest⟩
      · exact Or.inr hbad
    · rw [if_pos rfl]
      obtain ⟨m1, rfl⟩ : ∃ m', m1 = m' + 1 := ⟨m1 - 1, by omega⟩
      refine ⟨σ1, ?_, frx, Or.inr ⟨q, τ1, rfl, hSp, hW⟩⟩
      rw [F_X0_read_17, frx 3 (by decide) (by decide), hT.1, if_le (by omega) (by omega)]
      by_cases a : C ≤ c + 1
      · rw [if_pos a]
      · rw [if_neg a, hSp.halt, b1_some, if_neg (by decide)]
/-- classes and faults: the first part of an image -/
theorem part1 {n : Nat} {B : Nat → Nat} {σ τ : St} (hS : Sy n B 0 σ τ) : ∃ σ' : St, F_X0_read σ = some σ' ∧ FrX [3, 9, 10, 11, 12, 13, 14] σ σ' ∧
      ((∃ (τ' : St) (C p' : Nat) (pt : Nat → Nat), F_X8_readAll τ = F_X8_readAll_48 1 (nI 5) τ' ∧ (∀ d, d ≠ 0 → d ∉ [4, 5, 6, 7, 8, 9] → τ' d = τ d) ∧ (∀ k, k ≠ 5 → k ≠ 6 → k ≠ 8 → τ' 0 k = τ 0 k) ∧ 1 ≤ C ∧ Sy n B p' σ' τ' ∧ Tab C C pt σ' τ' ∧ pt C ≤ p' ∧ Thr C 5 σ' τ') ∨ (∃ (q : Nat) (τ' : St), F_X8_readAll τ = some (0, τ') ∧ Sp n B q σ' ∧ Wr q τ')) := by
  have hfu : fu = 9000 := rfl
  unfold F_X0_read F_X8_readAll
  rcases read_both hS 1 32 with ⟨hp, hb, g1, g2, e1, e2⟩ | ⟨-, e1, e2⟩
  · rw [e1, e2, b2_some, b2_some, if_neg (show ¬ (1 : Int32) = 0 by decide)]
    have hS1 := hS.step hp
    rw [last_M hS1, b1_some, nm_eq, nm_eq, if_neg (nI_pos (a_lt hb))]
    have hC : B 0 ≤ 32 := (nI_leI (b := 32) (by omega) (by omega)).mp g2
    have hC1 : 1 ≤ B 0 := by
      rcases Nat.lt_or_ge (B 0) 1 with z | z
      · exact absurd (nI_lt (b := 1) z (by omega)) g1
      · exact z
    have hS2 := (hS1.putX (c := 3) (k := 0) (v := nI (B 0)) (by decide)).putM (c := 0) (k := 8) (v := nI (B 0)) (by decide)
    have hT0 : Tab (B 0) 0 (fun _ => 0 + 1) (st (st σ 2 2 (nI (0 + 1))) 3 0 (nI (B 0))) (st (st τ 0 5 (nI (0 + 1))) 0 8 (nI (B 0))) := ⟨st_hit, st_hit, hC, by omega, fun d hd => by omega, fun d hd => by omega⟩
    obtain ⟨σ1, f1, frx, hcase⟩ := classes_both (C := B 0) (B 0) 0 (0 + 1) fu fu (fun _ => 0 + 1) _ _ (by omega) (by omega) (by omega) rfl hS2 hT0
    have f1' : F_X0_read_17 fu 0 (st (st σ 2 2 (nI (0 + 1))) 3 0 (nI (B 0))) = _ := f1
    rw [f1']
    unfold F_X0_read_44
    have frx1 : FrX [3, 9, 10, 11, 12, 13, 14] σ σ1 := FrX.tr (b := st (st σ 2 2 (nI (0 + 1))) 3 0 (nI (B 0))) ((FrX.st (Or.inl rfl)).tr (FrX.st (Or.inr (by simp)))) (frx.mono (by intro d hd; simp at hd ⊢; omega))
    rcases hcase with ⟨τ1, p1, pt, f2, frm, hS3, hT, hpt⟩ | ⟨q, τ1, f2, hSp, hW⟩
    · have f2' : F_X8_readAll_22 fu 0 (st (st τ 0 5 (nI (0 + 1))) 0 8 (nI (B 0))) = _ := f2
      rw [f2']
      obtain ⟨σ2, f3, frx2, hc2⟩ := faults_both hC 5 0 p1 fu fu σ1 τ1 rfl (by omega) (by omega) hS3 hT.1 hT.2.1 (fun j hj => by omega)
      have f3' : F_X0_read_46 fu 0 σ1 = _ := f3
      refine ⟨σ2, f3', frx1.tr (frx2.mono (by intro d hd; simp at hd ⊢; omega)), ?_⟩
      rcases hc2 with ⟨τ2, p2, f4, frm2, hp2, hS4, hTh⟩ | ⟨q, τ2, f4, hSp, hW⟩
      · have f4' : F_X8_readAll_48 fu 0 τ1 = _ := f4
        rw [f4']
        refine Or.inl ⟨τ2, B 0, p2, pt, rfl, ?_, ?_, hC1, hS4, ?_, by omega, hTh⟩
        · intro d h0 hd
          rw [frm2.1 d h0 (by simp at hd ⊢; omega), frm.1 d h0 (by simp at hd ⊢; omega), st_row h0, st_row h0]
        · intro k h5 h6 h8
          rw [frm2.2 k h5 h6, frm.2 k h5 h6, st_mis (Or.inr h8), st_mis (Or.inr h5)]
        · exact hT.cong (frx2 3 (by decide) (by decide)) (frx2 9 (by decide) (by decide)) (frx2 10 (by decide) (by decide)) (frx2 11 (by decide) (by decide)) (frx2 12 (by decide) (by decide)) (frx2 13 (by decide) (by decide)) (frm2.2 8 (by decide) (by decide)) (frm2.1 4 (by decide) (by decide)) (frm2.1 5 (by decide) (by decide)) (frm2.1 6 (by decide) (by decide)) (frm2.1 7 (by decide) (by decide)) (frm2.1 8 (by decide) (by decide))
      · have f4' : F_X8_readAll_48 fu 0 τ1 = _ := f4
        rw [f4']
        exact Or.inr ⟨q, τ2, rfl, hSp, hW⟩
    · have f2' : F_X8_readAll_22 fu 0 (st (st τ 0 5 (nI (0 + 1))) 0 8 (nI (B 0))) = _ := f2
      rw [f2']
      obtain ⟨σ2, f3, hSp2, frx2⟩ := faults_stop 5 0 fu σ1 rfl (by omega) hSp
      have f3' : F_X0_read_46 fu 0 σ1 = _ := f3
      exact ⟨σ2, f3', frx1.tr (frx2.mono (by intro d hd; simp at hd ⊢; omega)), Or.inr ⟨q, τ1, rfl, hSp2, hW⟩⟩
  · rw [e1, e2, b2_some, b2_some, if_pos rfl, nm_eq, if_pos (by decide)]
    have hSp := hS.stop.put (c := 3) (k := 0) (v := 0) (by decide)
    have e17 : F_X0_read_17 fu 0 (st (st σ 2 3 1) 3 0 0) = F_X0_read_44 (st (st σ 2 3 1) 3 0 0) := by
      rw [show fu = 8999 + 1 from rfl, F_X0_read_17, st_hit, if_pos (by decide)]
    rw [e17]
    unfold F_X0_read_44
    obtain ⟨σ2, f3, hSp2, frx2⟩ := faults_stop 5 0 fu _ rfl (by omega) hSp
    have f3' : F_X0_read_46 fu 0 (st (st σ 2 3 1) 3 0 0) = _ := f3
    exact ⟨σ2, f3', ((FrX.st (Or.inl rfl)).tr (FrX.st (Or.inr (by simp)))).tr (frx2.mono (by intro d hd; simp at hd ⊢; omega)), Or.inr ⟨0, _, rfl, hSp2, hS.wrong 0⟩⟩
