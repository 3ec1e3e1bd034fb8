/-! all methods, the first one, the end: an image is read alike -/
theorem fill24 (σ : St) : ∀ (j k m : Nat), k + j = 250 → j < m → F_J7_fill_53178_5 m 0 (nI k) 250 (fill σ 24 0 (0 + k) (fun _ => 0)) = some (fill σ 24 0 (0 + 250) (fun _ => 0)) := by
  intro j
  induction j with
  | zero =>
    intro k m hk hm
    obtain ⟨m, rfl⟩ : ∃ m', m = m' + 1 := ⟨m - 1, by omega⟩
    rw [F_J7_fill_53178_5, show (250 : Int32) = nI 250 from rfl, if_le (by omega) (by omega), if_pos (by omega), show k = 250 by omega]
  | succ j ih =>
    intro k m hk hm
    obtain ⟨m, rfl⟩ : ∃ m', m = m' + 1 := ⟨m - 1, by omega⟩
    have c : ¬ (250 : Int32) ≤ nI k := nI_ge (a := k) (b := 250) (by omega) (by omega)
    rw [F_J7_fill_53178_5, if_neg c, ix_in (by omega) (by omega), nm_eq, nm_eq, nI_clamp (by omega), show nI k + 1 = nI (k + 1) from nI_1 k]
    have e := fill_st (σ := σ) (r := 24) (lo := 0) (k := k) (g := fun _ => (0 : Int32)) rfl
    rw [show 0 + k = k by omega] at e ⊢
    rw [e]
    exact ih (k + 1) m (by omega) (by omega)
def clr (σ : St) : St := fill (st (st (st σ 4 0 0) 4 1 (-1)) 5 0 0) 24 0 250 (fun _ => 0)
theorem clear_X (σ : St) : F_X3_clear σ = some (clr σ) := by
  unfold F_X3_clear F_X1_clear F_J7_fill_53178
  simp only [nm_eq]
  have e := fill24 (st (st (st σ 4 0 0) 4 1 (-1)) 5 0 0) 250 0 fu rfl (by rw [show fu = 9000 from rfl]; omega)
  rw [show 0 + 0 = 0 from rfl, fill_nil] at e
  have e' : F_J7_fill_53178_5 fu 0 0 250 (st (st (st σ 4 0 0) 4 1 (-1)) 5 0 0) = _ := e
  rw [e', b1_some, b1_some]
  rfl
theorem clr_row {σ : St} {d : Nat} (h : d ≠ 4 ∧ d ≠ 5 ∧ d ≠ 24) : clr σ d = σ d := by
  unfold clr
  rw [fill_row h.2.2, st_row h.2.1, st_row h.1, st_row h.1]
theorem clr_bit {σ : St} {q : Nat} (h : q < 8000) : ¬ bitX (clr σ) q := by
  unfold bitX clr
  have := fill_in (σ := st (st (st σ 4 0 0) 4 1 (-1)) 5 0 0) (r := 24) (lo := 0) (hi := 250) (g := fun _ => (0 : Int32)) (k := q / 32) (by omega)
  rw [show 0 + q / 32 = q / 32 by omega] at this
  rw [this, b_0]
  simp
/-- all methods below m are read, method d begins at pm d -/
def Mths (C : Nat) (B : Nat → Nat) (m : Nat) (pm : Nat → Nat) (σ τ : St) : Prop := (∀ d, d < m → pm d < pm (d + 1)) ∧ ∀ d, d < m → MethOK C B d (pm d) (pm (d + 1)) σ τ
theorem methods_both {n C M : Nat} {B : Nat → Nat} {pt : Nat → Nat} (hM : M ≤ 64) : ∀ (j m p m1 m2 : Nat) (pm : Nat → Nat) (σ τ : St), m + j = M → j < m1 → j < m2 → pm m = p → Sy n B p σ τ → Tab C C pt σ τ → Begs n p σ τ → Mths C B m pm σ τ → σ 4 0 = nI M → τ 0 15 = nI M → σ 5 0 = τ 0 26 →
    ∃ σ' : St, F_X3_read_21 m1 (nI m) σ = F_X3_read_81 σ' ∧ FrX [5, 15, 16, 17, 18, 19, 20, 21, 22, 23, 24, 25, 26] σ σ' ∧
      ((∃ (τ' : St) (p' : Nat) (pm' : Nat → Nat), F_X8_readAll_100 m2 (nI m) τ = F_X8_readAll_100 1 (nI M) τ' ∧ p ≤ p' ∧ pm' M = p' ∧ (∀ d, d ≤ m → pm' d = pm d) ∧ Sy n B p' σ' τ' ∧ Begs n p' σ' τ' ∧ Mths C B M pm' σ' τ' ∧ (∀ d, d ≠ 0 → d ∉ [3, 10, 11, 12, 13, 14, 15, 16, 17, 18, 19] → τ' d = τ d) ∧ (∀ k, k ≠ 5 → k ≠ 6 → k ≠ 26 → τ' 0 k = τ 0 k) ∧ σ' 5 0 = τ' 0 26) ∨
      (∃ (q : Nat) (τ' : St), F_X8_readAll_100 m2 (nI m) τ = some (0, τ') ∧ Sp n B q σ' ∧ Wr q τ')) := by
  intro j
  induction j with
  | zero =>
    intro m p m1 m2 pm σ τ hk hm1 hm2 hpm hS hT hB hMs h4 h15 h5
    obtain ⟨m1, rfl⟩ : ∃ m', m1 = m' + 1 := ⟨m1 - 1, by omega⟩
    obtain ⟨m2, rfl⟩ : ∃ m', m2 = m' + 1 := ⟨m2 - 1, by omega⟩
    have hmM : m = M := by omega
    subst hmM
    refine ⟨σ, ?_, FrX.rf, Or.inl ⟨τ, p, pm, ?_, Nat.le_refl _, hpm, fun _ _ => rfl, hS, hB, hMs, fun _ _ _ => rfl, fun _ _ _ _ => rfl, h5⟩⟩
    · rw [F_X3_read_21, h4, if_pos (nI_le (Nat.le_refl _) (by omega))]
    · rw [F_X8_readAll_100, F_X8_readAll_100, h15, if_pos (nI_le (Nat.le_refl _) (by omega)), if_pos (nI_le (Nat.le_refl _) (by omega))]
  | succ j ih =>
    intro m p m1 m2 pm σ τ hk hm1 hm2 hpm hS hT hB hMs h4 h15 h5
    obtain ⟨m1, rfl⟩ : ∃ m', m1 = m' + 1 := ⟨m1 - 1, by omega⟩
    obtain ⟨m2, rfl⟩ : ∃ m', m2 = m' + 1 := ⟨m2 - 1, by omega⟩
    obtain ⟨σ1, σ2, σ3, e1, e2, e3, fr3, fr2, hcase⟩ := method_both (m := m) (by omega) hS hT hB
    have hsz : F_X0_size σ2 = some (nI C) := by
      unfold F_X0_size
      rw [fr2 3 (by decide) (by decide), hT.1]
    have eX : F_X3_read_21 (m1 + 1) (nI m) σ = F_X3_read_21 m1 (nI (m + 1)) σ3 := by
      rw [F_X3_read_21, h4, if_le (by omega) (by omega), if_neg (by omega), hS.run, b1_some, if_pos rfl, show F_X0_size σ = some (nI C) by unfold F_X0_size; rw [hT.1], b1_some, e1, b1_some, ix_in (by omega) (by omega), nI_clamp (by omega), e2, b1_some, hsz, b1_some, e3, b1_some, nm_eq, show nI m + 1 = nI (m + 1) from nI_1 m]
    rw [eX, F_X8_readAll_100, h15, if_le (by omega) (by omega), if_neg (by omega)]
    rcases hcase with ⟨τ1, p1, f1, hp1, hS1, hB1, hMe, kx, k17, km, k12, k3, kd, k0, cnt, t5, t26⟩ | ⟨q, τ1, f1, hSp, hW⟩
    · rw [f1, b2_some, if_neg (by decide), nm_eq, show nI m + 1 = nI (m + 1) from nI_1 m]
      have hT1 : Tab C C pt σ3 τ1 := hT.cong (fr3 3 (by decide) (by decide)) (fr3 9 (by decide) (by decide)) (fr3 10 (by decide) (by decide)) (fr3 11 (by decide) (by decide)) (fr3 12 (by decide) (by decide)) (fr3 13 (by decide) (by decide)) (k0 8 (by decide) (by decide) (by decide)) (kd 4 (by decide) (by decide)) (kd 5 (by decide) (by decide)) (kd 6 (by decide) (by decide)) (kd 7 (by decide) (by decide)) (kd 8 (by decide) (by decide))
      have hmono : ∀ d, d ≤ m → pm d ≤ p := by
        intro d hd
        have : ∀ i, d + i = m → pm d ≤ p := by
          intro i
          induction i generalizing d with
          | zero => intro z; rw [show d = m by omega, hpm]; exact Nat.le_refl _
          | succ i ihi =>
            intro z
            have h1 := hMs.1 d (by omega)
            have h2 := ihi (d + 1) (by omega) (by omega)
            omega
        exact this (m - d) (by omega)
      have hMs1 : Mths C B (m + 1) (ptSet pm (m + 1) p1) σ3 τ1 := by
        refine ⟨fun d hd => ?_, fun d hd => ?_⟩
        · unfold ptSet
          by_cases a : d = m
          · subst a; rw [if_neg (by omega), if_pos rfl]; omega
          · rw [if_neg (by omega), if_neg (by omega)]; exact hMs.1 d (by omega)
        · unfold ptSet
          by_cases a : d = m
          · subst a; rw [if_neg (by omega), if_pos rfl, hpm]; exact hMe
          · rw [if_neg (by omega), if_neg (by omega)]
            have hle := hmono (d + 1) (by omega)
            exact (hMs.2 d (by omega)).keep (m := m) (by omega) (fun r a1 a2 a3 a4 _ => kx r d a1 a4 a2 a3 (by omega)) k17 (fun r a1 a2 a3 => km r d a1 a3 a2 (by omega)) k12 (fun q hq => k3 q (by omega))
      obtain ⟨σ', q1, frx, hc2⟩ := ih (m + 1) p1 m1 m2 (ptSet pm (m + 1) p1) σ3 τ1 (by omega) (by omega) (by omega) (by unfold ptSet; rw [if_pos rfl]) hS1 hT1 hB1 hMs1 (by rw [fr3 4 (by decide) (by decide), h4]) (by rw [k0 15 (by decide) (by decide) (by decide), h15]) (by rw [t5, t26, h5])
      refine ⟨σ', q1, fr3.tr frx, ?_⟩
      rcases hc2 with ⟨τ', p', pm', q2, hp', hpm', hpd, hS', hB', hMs', kd', k0', h5'⟩ | hbad
      · refine Or.inl ⟨τ', p', pm', q2, by omega, hpm', ?_, hS', hB', hMs', ?_, ?_, h5'⟩
        · intro d hd
          rw [hpd d (by omega)]
          unfold ptSet
          rw [if_neg (by omega)]
        · intro d a b; rw [kd' d a b, kd d a b]
        · intro k a b c; rw [k0' k a b c, k0 k a b c]
      · exact Or.inr hbad
    · rw [f1, b2_some, if_pos rfl]
      obtain ⟨m1, rfl⟩ : ∃ m', m1 = m' + 1 := ⟨m1 - 1, by omega⟩
      refine ⟨σ3, ?_, fr3, Or.inr ⟨q, τ1, rfl, hSp, hW⟩⟩
      rw [F_X3_read_21, fr3 4 (by decide) (by decide), h4, if_le (by omega) (by omega)]
      by_cases a : M ≤ m + 1
      · rw [if_pos a]
      · rw [if_neg a, hSp.halt, b1_some, if_neg (by decide)]
theorem close_stop {n q : Nat} {B : Nat → Nat} {σ : St} (h : Sp n B q σ) : F_X5_close σ = some σ := by
  unfold F_X5_close
  rw [nm_eq, st_self h.2.2.2.2.1]
  simp only [ite_self]
theorem first_stop {n q : Nat} {B : Nat → Nat} {σ : St} (h : Sp n B q σ) : F_X3_read_81 σ = some σ := by
  unfold F_X3_read_81 F_X3_readFirst
  obtain ⟨r, hr⟩ := next_stop h
  rw [hr, b1_some, h.halt, b1_some, if_neg (by decide), b1_some]
theorem hasM_in {σ : St} {M c : Nat} (hM : M ≤ 64) (h4 : σ 4 0 = nI M) (hc : c < M) : F_X3_has (nI c) σ = some 1 := by
  unfold F_X3_has
  rw [if_neg0 (by omega), h4, if_le (by omega) (by omega), if_neg (by omega), show (64 : Int32) = nI 64 from rfl, if_le (by omega) (by omega), if_neg (by omega)]
theorem hasM_out {σ : St} {M c : Nat} (hM : M ≤ 64) (h4 : σ 4 0 = nI M) (hc : M ≤ c) (hc2 : c < 2 ^ 31) : F_X3_has (nI c) σ = some 0 := by
  unfold F_X3_has
  rw [if_neg0 hc2, h4, if_le (by omega) hc2, if_pos hc]
theorem hasM_m1 {σ : St} : F_X3_has (-1) σ = some 0 := by
  unfold F_X3_has
  rw [if_pos (by decide)]
/-- the first method, and nothing behind it -/
theorem first_both {n C M p : Nat} {B : Nat → Nat} {σ τ : St} {pm : Nat → Nat} (hM : M ≤ 64) (hS : Sy n B p σ τ) (hMs : Mths C B M pm σ τ) (h4 : σ 4 0 = nI M) (h15 : τ 0 15 = nI M) :
    ∃ σ1 σ2 : St, F_X3_read_81 σ = some σ1 ∧ F_X5_close σ1 = some σ2 ∧
      ((F_X8_readAll_100 1 (nI M) τ = some (1, st (st τ 0 27 (nI (B p))) 0 5 (nI (p + 1))) ∧ p + 1 = n ∧ B p < M ∧ σ2 = st (st σ 2 2 (nI (p + 1))) 4 1 (nI (B p))) ∨
      (∃ (q : Nat) (τ' : St), F_X8_readAll_100 1 (nI M) τ = some (0, τ') ∧ Sp n B q σ2 ∧ Wr q τ')) := by
  have hn := hS.1.1
  have hpn := hS.1.2
  rw [F_X8_readAll_100, h15, if_pos (nI_le (Nat.le_refl _) (by omega))]
  have bad156 : F_X8_readAll_156 τ = some (0, st τ 0 6 (nI p)) := by
    unfold F_X8_readAll_156
    rw [hS.2.2.2.1, bad_M hS.2.2.2.2.1, b2_some, bo_0]
  have h40 : F_X3_readFirst_40 σ = some (st σ 2 3 1) := stopAt_here hS
  have fail : ∀ (x : Option (Int32 × St)), F_X3_readFirst σ = some (st σ 2 3 1) → x = some (0, st τ 0 6 (nI p)) → ∃ σ1 σ2 : St, F_X3_read_81 σ = some σ1 ∧ F_X5_close σ1 = some σ2 ∧
      ((x = some (1, st (st τ 0 27 (nI (B p))) 0 5 (nI (p + 1))) ∧ p + 1 = n ∧ B p < M ∧ σ2 = st (st σ 2 2 (nI (p + 1))) 4 1 (nI (B p))) ∨ (∃ (q : Nat) (τ' : St), x = some (0, τ') ∧ Sp n B q σ2 ∧ Wr q τ')) := by
    intro x hX hx
    refine ⟨_, _, ?_, close_stop hS.stop, Or.inr ⟨p, _, hx, hS.stop, hS.wrong p⟩⟩
    unfold F_X3_read_81
    rw [hX, b1_some]
  by_cases hp : p < n
  · have hb := (hS.2.1.2.2.2.1 p hp).1
    rw [here_in hS hp, b1_some, if_le (by omega) (by omega)]
    by_cases hlt : B p < M
    · obtain ⟨⟨P, L, a1, a2, a3, a4, a5, -⟩, -⟩ := hMs.2 _ hlt
      rw [if_neg (by omega), ix_in (by omega) (by omega), ix_in (by omega) (by omega), nI_clamp (by omega), ← a1, a5]
      have eF : F_X3_readFirst σ = if σ 15 (B p) = -1 then (if P = 0 then some (st (st σ 2 2 (nI (p + 1))) 4 1 (nI (B p))) else some (st σ 2 3 1)) else some (st σ 2 3 1) := by
        unfold F_X3_readFirst
        have hX := number_X hS (nI (B p)) (nI (B p))
        rw [if_pos ⟨hp, nI_nlt (Nat.le_refl _) (by omega), nI_le (Nat.le_refl _) (by omega)⟩] at hX
        rw [next_in hS hp, b1_some, hS.run, b1_some, if_pos rfl, hasM_in hM h4 hlt, b1_some, if_neg (by decide), ix_in (by omega) (by omega), ix_in (by omega) (by omega), nI_clamp (by omega), a4, h40, hX, b2_some, nm_eq]
        have z : (nI P = (0 : Int32)) ↔ P = 0 := nI_eq (b := 0) (by omega) (by omega)
        by_cases c1 : σ 15 (B p) = -1
        · rw [if_pos c1, if_pos c1]
          by_cases c2 : P = 0
          · rw [if_pos (z.mpr c2), if_pos c2]
          · rw [if_neg (fun y => c2 (z.mp y)), if_neg c2]
        · rw [if_neg c1, if_neg c1]
      by_cases c1 : σ 15 (B p) = -1
      · rw [if_pos c1] at eF ⊢
        by_cases c2 : P = 0
        · rw [if_pos c2] at eF
          rw [if_pos (show nI P ≤ 0 from nI_le (b := 0) (by omega) (by omega)), nm_eq, nm_eq]
          have z5 : st τ 0 27 (nI (B p)) 0 5 + 1 = nI (p + 1) := by
            rw [st_mis (Or.inr (by decide)), hS.2.2.2.1]
            exact nI_1 p
          have z4 : st (st τ 0 27 (nI (B p))) 0 5 (nI (p + 1)) 0 4 = nI n := by rw [st_mis (Or.inr (by decide)), st_mis (Or.inr (by decide)), hS.2.2.1]
          have z6 : st (st τ 0 27 (nI (B p))) 0 5 (nI (p + 1)) 0 6 = -1 := by rw [st_mis (Or.inr (by decide)), st_mis (Or.inr (by decide)), hS.2.2.2.2.1]
          rw [z5, st_hit, z4, if_eq (by omega) (by omega)]
          have e81 : F_X3_read_81 σ = some (st (st σ 2 2 (nI (p + 1))) 4 1 (nI (B p))) := by
            unfold F_X3_read_81
            rw [eF, b1_some]
          have hS1 := (hS.step hp).putX (c := 4) (k := 1) (v := nI (B p)) (by decide)
          refine ⟨st (st σ 2 2 (nI (p + 1))) 4 1 (nI (B p)), ?_⟩
          by_cases c3 : p + 1 = n
          · refine ⟨st (st σ 2 2 (nI (p + 1))) 4 1 (nI (B p)), e81, ?_, Or.inl ⟨?_, c3, hlt, rfl⟩⟩
            · unfold F_X5_close
              rw [hS1.2.1.1, hS1.2.1.2.1, if_pos (nI_le (by omega) (by omega))]
            · rw [if_pos c3]
              rfl
          · refine ⟨st (st (st σ 2 2 (nI (p + 1))) 4 1 (nI (B p))) 2 3 1, e81, ?_, Or.inr ⟨p + 1, st (st (st τ 0 27 (nI (B p))) 0 5 (nI (p + 1))) 0 6 (nI (p + 1)), ?_, hS1.stop, ?_⟩⟩
            · unfold F_X5_close
              rw [hS1.2.1.1, hS1.2.1.2.1, if_le (by omega) (by omega), if_neg (by omega), nm_eq]
            · rw [if_neg c3, bad_M z6, b2_some, if_pos rfl]
            · refine ⟨st_hit, ?_⟩
              rw [st_mis (Or.inr (by decide)), st_mis (Or.inr (by decide)), st_mis (Or.inr (by decide))]
              exact hS.2.2.2.2.2.2
        · rw [if_neg c2] at eF
          rw [if_neg (show ¬ nI P ≤ 0 from nI_nle (by omega) (by omega))]
          exact fail _ eF bad156
      · rw [if_neg c1] at eF ⊢
        exact fail _ eF bad156
    · rw [if_pos (by omega)]
      refine fail _ ?_ bad156
      unfold F_X3_readFirst
      rw [next_in hS hp, b1_some, hS.run, b1_some, if_pos rfl, hasM_out hM h4 (by omega) (by omega), b1_some, if_pos rfl, h40]
  · rw [here_out hS hp, b1_some, if_pos (show nI M ≤ (256 : Int32) from nI_le (b := 256) (by omega) (by omega))]
    refine fail _ ?_ bad156
    unfold F_X3_readFirst
    rw [next_out hS hp, b1_some, hS.run, b1_some, if_pos rfl, hasM_m1, b1_some, if_pos rfl, h40]
