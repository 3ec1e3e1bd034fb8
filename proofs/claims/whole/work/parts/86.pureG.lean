/-! the code and the handlers of a method, on both sides -/
theorem st_cong {σ σ' : St} {c k : Nat} {v : Int32} (h : σ c = σ' c) : st σ c k v c = st σ' c k v c := by
  funext a
  rw [st_app, st_app, h]
theorem Chain.congX {B : Nat → Nat} {n s i p : Nat} {σ σ' τ : St} (h : Chain B n s i p σ τ) (e : σ' 24 = σ 24) : Chain B n s i p σ' τ := by
  obtain ⟨c1, c2, c3, c4, c5⟩ := h
  refine ⟨c1, c2, fun q hq => ?_, c4, c5⟩
  rw [← c3 q hq]
  unfold bitX
  rw [e]
theorem code_both {n p m C L : Nat} {B : Nat → Nat} {σ τ : St} {pt : Nat → Nat} (hm : m < 64) (hL : L ≤ 12) (hS : Sy n B p σ τ) (hT : Tab C C pt σ τ) (h14 : τ 14 m = nI L) (hbit : ∀ q, q < n → (bitX σ q ↔ τ 3 q ≠ 0)) (hz : ∀ q, p ≤ q → q < n → τ 3 q = 0) :
    ∃ σ' : St, F_X1_read (nI m) (nI L) σ = some σ' ∧ FrX [5, 21, 22, 23, 24] σ σ' ∧
      ((∃ (τ' : St) (len cnt : Nat), M_code (nI m) τ = F_X8_readMethod_332 1 (nI m) (nI (p + 2 + len)) τ' ∧ 1 ≤ len ∧ len ≤ 1000 ∧ Sy n B (p + 2 + len) σ' τ' ∧ (∀ d, d ≠ 0 → d ≠ 3 → d ≠ 16 → d ≠ 17 → τ' d = τ d) ∧ (∀ k, k ≠ 5 → k ≠ 6 → k ≠ 26 → τ' 0 k = τ 0 k) ∧
          τ' 16 = st τ 16 m (nI (p + 2)) 16 ∧ τ' 17 = st τ 17 m (nI len) 17 ∧ σ' 21 = st σ 21 m (nI (p + 2)) 21 ∧ σ' 22 = st σ 22 m (nI len) 22 ∧ σ' 23 = st σ 23 m (nI cnt) 23 ∧ σ' 5 0 = σ 5 0 + nI cnt ∧ τ' 0 26 = τ 0 26 + nI cnt ∧ (∀ q, q < p → τ' 3 q = τ 3 q) ∧ Chain B n (p + 2) cnt (p + 2 + len) σ' τ') ∨
      (∃ (q : Nat) (τ' : St), M_code (nI m) τ = some (0, τ') ∧ Sp n B q σ' ∧ Wr q τ')) := by
  have hfu : fu = 9000 := rfl
  have hn := hS.1.1
  unfold F_X1_read
  rcases pair_both hm hS with ⟨len, l1, l2, hp2, e1, e2, hS1⟩ | ⟨q, σ1, τ1, e1, fr, e2, hSp, hW⟩
  · rw [e1, b2_some, nm_eq, if_neg (nI_pos (by omega)), place_X, b1_some, e2, hS1.2.1.2.1]
    generalize hτ1 : st (st (st τ 0 5 (nI (p + 2))) 17 m (nI len)) 16 m (nI (p + 2)) = τ1
    have m1 : ∀ d, d ≠ 0 → d ≠ 16 → d ≠ 17 → τ1 d = τ d := fun d a b c => by rw [← hτ1, st_row b, st_row c, st_row a]
    have m0 : ∀ k, k ≠ 5 → τ1 0 k = τ 0 k := fun k a => by rw [← hτ1, st_row (by decide), st_row (by decide), st_mis (Or.inr a)]
    have hS2 : Sy n B (p + 2) (st σ 2 2 (nI (p + 2))) τ1 := by
      rw [← hτ1]
      exact (hS1.putM ⟨by decide, Or.inl (by decide)⟩).putM ⟨by decide, Or.inl (by decide)⟩
    have hT2 : Tab C C pt (st σ 2 2 (nI (p + 2))) τ1 := hT.cong (st_row (by decide)) (st_row (by decide)) (st_row (by decide)) (st_row (by decide)) (st_row (by decide)) (st_row (by decide)) (m0 8 (by decide)) (m1 4 (by decide) (by decide) (by decide)) (m1 5 (by decide) (by decide) (by decide)) (m1 6 (by decide) (by decide) (by decide)) (m1 7 (by decide) (by decide) (by decide)) (m1 8 (by decide) (by decide) (by decide))
    have r3 : τ1 3 = τ 3 := m1 3 (by decide) (by decide) (by decide)
    have hCh : Chain B n (p + 2) 0 (p + 2) (st σ 2 2 (nI (p + 2))) τ1 := by
      refine ⟨rfl, fun j hj => by omega, fun q hq => ?_, fun q h1 h2 => ?_, fun q h1 h2 => by omega⟩
      · rw [r3, ← hbit q hq]
        unfold bitX
        rw [st_row (by decide)]
      · rw [r3]; exact hz q (by omega) h2
    obtain ⟨σ', i', q1, fr1, hcase⟩ := code_loop (m := m) (L := L) (s := p + 2) (len := len) hm (by omega) l2 hL len 0 (p + 2) fu fu _ τ1 (by omega) (by omega) (by omega) (by omega) hS2 hT2 (by rw [m1 14 (by decide) (by decide) (by decide)]; exact h14) hCh
    have q1' : F_X1_read_26 fu (nI m) (nI L) (nI len) (nI (p + 2)) 0 0 (st σ 2 2 (nI (p + 2))) = _ := q1
    rw [q1', read74 hm]
    refine ⟨_, rfl, ((FrX.st (Or.inl rfl)).tr (fr1.mono (by intro d hd; simp at hd ⊢; omega))).tr fr74, ?_⟩
    have x5 : σ' 5 = σ 5 := by rw [fr1 5 (by decide) (by decide), st_row (by decide)]
    have x21 : σ' 21 = σ 21 := by rw [fr1 21 (by decide) (by decide), st_row (by decide)]
    have x22 : σ' 22 = σ 22 := by rw [fr1 22 (by decide) (by decide), st_row (by decide)]
    have x23 : σ' 23 = σ 23 := by rw [fr1 23 (by decide) (by decide), st_row (by decide)]
    rcases hcase with ⟨τ', q2, hS', fd, f0, -, t26, low, hCh'⟩ | ⟨q, τ', q2, hSp, hW⟩
    · refine Or.inl ⟨τ', len, i', q2, l1, l2, ?_, ?_, ?_, ?_, ?_, ?_, ?_, ?_, ?_, ?_, ?_, ?_⟩
      · exact (((hS'.putX (by decide)).putX (by decide)).putX (by decide)).putX (by decide)
      · intro d a b c e; rw [fd d a b, m1 d a c e]
      · intro k a b c; rw [f0 k a b c, m0 k a]
      · rw [fd 16 (by decide) (by decide), ← hτ1]
        funext a
        simp only [st_app]
        simp
      · rw [fd 17 (by decide) (by decide), ← hτ1, st_row (by decide)]
        funext a
        simp only [st_app]
        simp
      · rw [st_row (by decide), st_row (by decide), st_row (by decide)]
        exact st_cong x21
      · rw [st_row (by decide), st_row (by decide)]
        exact st_cong (by rw [st_row (by decide), x22])
      · rw [st_row (by decide)]
        exact st_cong (by rw [st_row (by decide), st_row (by decide), x23])
      · rw [st_hit, x5]
      · rw [t26, m0 26 (by decide), show i' - 0 = i' from rfl]
      · intro q hq; rw [low q (by omega), r3]
      · exact hCh'.congX (by rw [st_row (by decide), st_row (by decide), st_row (by decide), st_row (by decide)])
    · refine Or.inr ⟨q, τ', q2, ?_, hW⟩
      exact (((hSp.put (by decide)).put (by decide)).put (by decide)).put (by decide)
  · rw [e1, b2_some, nm_eq, if_pos (by decide), place_X, b1_some, e2, show fu = 8999 + 1 from rfl, F_X1_read_26, if_pos (by decide), read74 hm]
    refine ⟨_, rfl, (fr.mono (by intro d hd; simp at hd)).tr fr74, Or.inr ⟨q, τ1, rfl, ?_, hW⟩⟩
    exact (((hSp.put (by decide)).put (by decide)).put (by decide)).put (by decide)
theorem hloop_stop {n q hc : Nat} {B : Nat → Nat} (x : Int32) (hh : hc ≤ 8) : ∀ (j k m1 : Nat) (σ : St), k + j = hc → j < m1 → Sp n B q σ → F_X2_read_34 m1 x (nI hc) (nI k) σ = some σ := by
  intro j
  induction j with
  | zero =>
    intro k m1 σ hk hm h
    obtain ⟨m1, rfl⟩ : ∃ m', m1 = m' + 1 := ⟨m1 - 1, by omega⟩
    rw [F_X2_read_34, if_le (by omega) (by omega), if_pos (by omega)]
  | succ j ih =>
    intro k m1 σ hk hm h
    obtain ⟨m1, rfl⟩ : ∃ m', m1 = m' + 1 := ⟨m1 - 1, by omega⟩
    rw [F_X2_read_34, if_le (by omega) (by omega), if_neg (by omega), skip_stop h, b1_some, stopped_number h, b2_some, skip_stop h, b1_some, nm_eq, show nI k + 1 = nI (k + 1) from nI_1 k]
    exact ih (k + 1) m1 σ (by omega) (by omega) h
theorem hand_loop {n m C hc : Nat} {B : Nat → Nat} (hm : m < 64) (hC : C ≤ 32) (hh : hc ≤ 8) : ∀ (j k p m1 m2 : Nat) (σ τ : St), k + j = hc → j < m1 → j < m2 → Sy n B p σ τ → τ 18 m = nI hc → τ 0 8 = nI C →
    ∃ σ' : St, F_X2_read_34 m1 (nI C) (nI hc) (nI k) σ = some σ' ∧ FrX [] σ σ' ∧
      ((∃ τ' : St, F_X8_readMethod_388 m2 (nI m) (nI k) τ = some (1, τ') ∧ Sy n B (p + 7 * j) σ' τ' ∧ FrM [] τ τ') ∨ (∃ (q : Nat) (τ' : St), F_X8_readMethod_388 m2 (nI m) (nI k) τ = some (0, τ') ∧ Sp n B q σ' ∧ Wr q τ')) := by
  have hcl : (nI m).toNatClampNeg = m := nI_clamp (by omega)
  intro j
  induction j with
  | zero =>
    intro k p m1 m2 σ τ hk hm1 hm2 hS h18 h8
    obtain ⟨m1, rfl⟩ : ∃ m', m1 = m' + 1 := ⟨m1 - 1, by omega⟩
    obtain ⟨m2, rfl⟩ : ∃ m', m2 = m' + 1 := ⟨m2 - 1, by omega⟩
    refine ⟨σ, ?_, FrX.rf, Or.inl ⟨τ, ?_, hS, FrM.rf⟩⟩
    · rw [F_X2_read_34, if_le (by omega) (by omega), if_pos (by omega)]
    · rw [F_X8_readMethod_388, ix_in hm (by omega), hcl, h18, if_le (by omega) (by omega), if_pos (by omega)]
  | succ j ih =>
    intro k p m1 m2 σ τ hk hm1 hm2 hS h18 h8
    obtain ⟨m1, rfl⟩ : ∃ m', m1 = m' + 1 := ⟨m1 - 1, by omega⟩
    obtain ⟨m2, rfl⟩ : ∃ m', m2 = m' + 1 := ⟨m2 - 1, by omega⟩
    let BAD : St → Option (Int32 × St) := fun u => F_X8_readMethod_476 (F_X8_readMethod_388 m2) (nI m) (nI k) u
    let OKK : St → Option (Int32 × St) := fun u => F_X8_readMethod_477 (F_X8_readMethod_388 m2) (nI m) (nI k) 1 u
    have hBAD : ∀ u, BAD u = some (0, u) := fun u => rfl
    have hOKK : ∀ u, OKK u = F_X8_readMethod_388 m2 (nI m) (nI (k + 1)) u := by
      intro u
      show F_X8_readMethod_477 (F_X8_readMethod_388 m2) (nI m) (nI k) 1 u = _
      unfold F_X8_readMethod_477
      rw [if_neg (by decide), nm_eq, show nI k + 1 = nI (k + 1) from nI_1 k]
    have eM : F_X8_readMethod_388 (m2 + 1) (nI m) (nI k) τ = ovs 4 τ (fun u17 => b2 (F_X8_overClass u17) fun r20 u21 => (if r20 = 0 then BAD u21 else ovs 2 u21 OKK BAD)) BAD := by
      rw [F_X8_readMethod_388, ix_in hm (by omega), hcl, h18, if_le (by omega) (by omega), if_neg (by omega)]
      rfl
    rw [eM, F_X2_read_34, if_le (by omega) (by omega), if_neg (by omega)]
    rcases ovs_both (fun u17 => b2 (F_X8_overClass u17) fun r20 u21 => (if r20 = 0 then BAD u21 else ovs 2 u21 OKK BAD)) BAD 4 p σ τ hS with ⟨a, τ1, b, c, d⟩ | ⟨a, τ1, b, c⟩
    · rw [show (4 : Int32) = nI 4 from rfl, skip_ok hS a, b1_some, b]
      unfold F_X8_overClass
      rw [d.2 8 (by decide) (by decide), h8]
      rcases read_both c 0 (nI C - 1) with ⟨hp, hb, g1, g2, e1, e2⟩ | ⟨-, e1, e2⟩
      · have c2 := c.step hp
        rw [e1, e2, b2_some, b2_some, bo_1, b2_some, if_neg (show ¬ (1 : Int32) = 0 by decide)]
        rcases ovs_both OKK BAD 2 (p + 4 + 1) _ _ c2 with ⟨a2, τ2, b2', c3, d2⟩ | ⟨a2, τ2, b2', c3⟩
        · rw [show (2 : Int32) = nI 2 from rfl, skip_ok c2 a2, b1_some, b2', nm_eq, show nI k + 1 = nI (k + 1) from nI_1 k, hOKK]
          have frm : FrM [] τ τ2 := (d.tr (FrM.st (Or.inl ⟨rfl, Or.inl rfl⟩))).tr d2
          obtain ⟨σ', q1, frx, hcase⟩ := ih (k + 1) (p + 4 + 1 + 2) m1 m2 _ τ2 (by omega) (by omega) (by omega) c3 (by rw [frm.1 18 (by decide) (by simp)]; exact h18) (by rw [frm.2 8 (by decide) (by decide)]; exact h8)
          refine ⟨σ', q1, ((((FrX.st (Or.inl rfl)).tr (FrX.st (Or.inl rfl))).tr (FrX.st (Or.inl rfl))).tr frx), ?_⟩
          rcases hcase with ⟨τ', q2, hS', fm⟩ | hbad
          · exact Or.inl ⟨τ', q2, by rw [show p + 7 * (j + 1) = p + 4 + 1 + 2 + 7 * j by omega]; exact hS', frm.tr fm⟩
          · exact Or.inr hbad
        · rw [show (2 : Int32) = nI 2 from rfl, skip_bad c2 a2 (by omega), b1_some, b2', nm_eq, show nI k + 1 = nI (k + 1) from nI_1 k, hloop_stop _ hh j (k + 1) m1 _ (by omega) (by omega) c2.toEnd]
          exact ⟨_, rfl, (((FrX.st (Or.inl rfl)).tr (FrX.st (Or.inl rfl))).tr (FrX.st (Or.inl rfl))).tr (FrX.st (Or.inl rfl)), Or.inr ⟨n, τ2, hBAD τ2, c2.toEnd, c3⟩⟩
      · rw [e1, e2, b2_some, b2_some, bo_0, b2_some, if_pos rfl, skip_stop c.stop, b1_some, nm_eq, show nI k + 1 = nI (k + 1) from nI_1 k, hloop_stop _ hh j (k + 1) m1 _ (by omega) (by omega) c.stop]
        exact ⟨_, rfl, (FrX.st (Or.inl rfl)).tr (FrX.st (Or.inl rfl)), Or.inr ⟨p + 4, _, hBAD _, c.stop, c.wrong (p + 4)⟩⟩
    · rw [show (4 : Int32) = nI 4 from rfl, skip_bad hS a (by omega), b1_some, stopped_number hS.toEnd, b2_some, skip_stop hS.toEnd, b1_some, nm_eq, show nI k + 1 = nI (k + 1) from nI_1 k, hloop_stop _ hh j (k + 1) m1 _ (by omega) (by omega) hS.toEnd, b]
      exact ⟨_, rfl, (FrX.st (Or.inl rfl)).tr (FrX.st (Or.inl rfl)), Or.inr ⟨n, τ1, hBAD τ1, hS.toEnd, c⟩⟩
theorem hand_stop {n q m : Nat} {B : Nat → Nat} {σ : St} (h : Sp n B q σ) (hm : m < 64) (x : Int32) : ∃ σ', F_X2_read x (nI m) σ = some σ' ∧ Sp n B q σ' ∧ FrX [25, 26] σ σ' := by
  unfold F_X2_read
  have hix : ∀ {α : Type} (y : Option α), ix 64 (nI m) y = y := fun y => ix_in hm (by omega)
  have hcl : (nI m).toNatClampNeg = m := nI_clamp (by omega)
  rw [stopped_number h, b2_some, nm_eq, if_pos (by decide), place_X, b1_some]
  simp only [hix, hcl, nm_eq]
  have h2 := (h.put (c := 25) (k := m) (v := σ 2 2) (by decide)).put (c := 26) (k := m) (v := 0) (by decide)
  have e := hloop_stop (hc := 0) x (by omega) 0 0 fu _ rfl (by rw [show fu = 9000 from rfl]; omega) h2
  exact ⟨_, e, h2, (FrX.st (Or.inr (by simp))).tr (FrX.st (Or.inr (by simp)))⟩
theorem hand_both {n p m C : Nat} {B : Nat → Nat} {σ τ : St} (hm : m < 64) (hC : C ≤ 32) (hS : Sy n B p σ τ) (h8 : τ 0 8 = nI C) :
    ∃ σ' : St, F_X2_read (nI C) (nI m) σ = some σ' ∧ FrX [25, 26] σ σ' ∧
      ((∃ (τ' : St) (hc : Nat), F_X8_readMethod_332 1 (nI m) (nI p) τ = some (1, τ') ∧ hc ≤ 8 ∧ Sy n B (p + 1 + 7 * hc) σ' τ' ∧ FrM [18, 19] τ τ' ∧ σ' 25 = st σ 25 m (nI (p + 1)) 25 ∧ σ' 26 = st σ 26 m (nI hc) 26 ∧ τ' 19 = st τ 19 m (nI (p + 1)) 19 ∧ τ' 18 = st τ 18 m (nI hc) 18) ∨
      (∃ (q : Nat) (τ' : St), F_X8_readMethod_332 1 (nI m) (nI p) τ = some (0, τ') ∧ Sp n B q σ' ∧ Wr q τ')) := by
  have hix : ∀ {α : Type} (y : Option α), ix 64 (nI m) y = y := fun y => ix_in hm (by omega)
  have hcl : (nI m).toNatClampNeg = m := nI_clamp (by omega)
  have hn := hS.1.1
  have hpn := hS.1.2
  unfold F_X2_read
  rw [F_X8_readMethod_332, hS.2.2.2.1, if_pos (nI_le (Nat.le_refl _) (by omega))]
  rcases read_both hS 0 8 with ⟨hp, hb, g1, g2, e1, e2⟩ | ⟨-, e1, e2⟩
  · have hh : B p ≤ 8 := (nI_leI (b := 8) (by omega) (by omega)).mp g2
    have h1 := hS.step hp
    rw [e1, e2, b2_some, b2_some, if_neg (show ¬ (1 : Int32) = 0 by decide), nm_eq, if_neg (nI_pos (a_lt hb)), place_X, b1_some, last_M h1, b1_some, h1.2.1.2.1]
    simp only [hix, hcl, nm_eq]
    have z5 : st (st τ 0 5 (nI (p + 1))) 18 m (nI (B p)) 0 5 = nI (p + 1) := by rw [st_mis (Or.inl (by decide)), st_hit]
    rw [z5]
    have h2 := (((h1.putX (c := 25) (k := m) (v := nI (p + 1)) (by decide)).putX (c := 26) (k := m) (v := nI (B p)) (by decide)).putM (c := 18) (k := m) (v := nI (B p)) ⟨by decide, Or.inl (by decide)⟩).putM (c := 19) (k := m) (v := nI (p + 1)) ⟨by decide, Or.inl (by decide)⟩
    obtain ⟨σ', q1, frx, hcase⟩ := hand_loop hm hC hh (B p) 0 (p + 1) fu fu _ _ (by omega) (by rw [show fu = 9000 from rfl]; omega) (by rw [show fu = 9000 from rfl]; omega) h2 (by rw [st_row (by decide), st_hit]) (by rw [st_mis (Or.inl (by decide)), st_mis (Or.inl (by decide)), st_mis (Or.inr (by decide)), h8])
    refine ⟨σ', q1, (((FrX.st (Or.inl rfl)).tr (FrX.st (Or.inr (by simp)))).tr (FrX.st (Or.inr (by simp)))).tr (frx.mono (by intro d hd; simp at hd)), ?_⟩
    rcases hcase with ⟨τ', q2, hS', fm⟩ | ⟨q, τ', q2, hSp, hW⟩
    · refine Or.inl ⟨τ', B p, q2, hh, hS', (((FrM.st (Or.inl ⟨rfl, Or.inl rfl⟩)).tr (FrM.st (Or.inr ⟨by decide, by simp⟩))).tr (FrM.st (Or.inr ⟨by decide, by simp⟩))).tr (fm.mono (by intro d hd; simp at hd)), ?_, ?_, ?_, ?_⟩
      · rw [frx 25 (by decide) (by simp), st_row (by decide)]
        exact st_cong (st_row (by decide))
      · rw [frx 26 (by decide) (by simp)]
        exact st_cong (by rw [st_row (by decide), st_row (by decide)])
      · rw [fm.1 19 (by decide) (by simp)]
        exact st_cong (by rw [st_row (by decide), st_row (by decide)])
      · rw [fm.1 18 (by decide) (by simp), st_row (by decide)]
        exact st_cong (st_row (by decide))
    · exact Or.inr ⟨q, τ', q2, hSp, hW⟩
  · rw [e1, e2, b2_some, b2_some, if_pos rfl, nm_eq, if_pos (by decide), place_X, b1_some]
    simp only [hix, hcl, nm_eq]
    have hSp := (hS.stop.put (c := 25) (k := m) (v := st σ 2 3 1 2 2) (by decide)).put (c := 26) (k := m) (v := 0) (by decide)
    have e := hloop_stop (hc := 0) (nI C) (by omega) 0 0 fu _ rfl (by rw [show fu = 9000 from rfl]; omega) hSp
    exact ⟨_, e, ((FrX.st (Or.inl rfl)).tr (FrX.st (Or.inr (by simp)))).tr (FrX.st (Or.inr (by simp))), Or.inr ⟨p, _, rfl, hSp, hS.wrong p⟩⟩
