/-! the head of a method -/
theorem nI_bv (n : Nat) : (nI n).toBitVec = BitVec.ofNat 32 n := rfl
theorem nI_or (a b : Nat) : nI a ||| nI b = nI (a ||| b) := by
  apply Int32.toBitVec_inj.mp
  rw [Int32.toBitVec_or, nI_bv, nI_bv, nI_bv]
  apply BitVec.eq_of_toNat_eq
  rw [BitVec.toNat_or, BitVec.toNat_ofNat, BitVec.toNat_ofNat, BitVec.toNat_ofNat, Nat.or_mod_two_pow]
theorem two_val {h l : Nat} (hh : h < 256) (hl : l < 256) : (nI h <<< ((8 : Int32) &&& 31)) ||| nI l = nI (256 * h + l) := by
  rw [pk_shlN _ 8 (by decide) (by omega), nI_or]
  congr 1
  have := Nat.two_pow_add_eq_or_of_lt (b := l) (i := 8) (by omega) h
  rw [Nat.mul_comm h, ← this]
theorem st_head62_stop {n q m : Nat} {B : Nat → Nat} {σ : St} (h : Sp n B q σ) (hm : m < 64) (t : Int32) : ∃ σ', F_X3_readHead_62 (nI m) t (nI m) σ = some σ' ∧ Sp n B q σ' ∧ FrX [18, 19, 20] σ σ' := by
  unfold F_X3_readHead_62
  have hix : ∀ {α : Type} (y : Option α), ix 64 (nI m) y = y := fun y => ix_in (by omega) (by omega)
  have hcl : (nI m).toNatClampNeg = m := nI_clamp (by omega)
  simp only [hix, hcl, nm_eq]
  have h1 := h.put (c := 18) (k := m) (v := t) (by decide)
  rw [stopped_number h1, b2_some]
  have h2 := h1.put (c := 19) (k := m) (v := -1) (by decide)
  rw [stopped_number h2, b2_some]
  exact ⟨_, rfl, h2.put (by decide), ((FrX.st (Or.inr (by simp))).tr (FrX.st (Or.inr (by simp)))).tr (FrX.st (Or.inr (by simp)))⟩
theorem params56_stop {n q m bf t : Nat} {B : Nat → Nat} (x : Int32) (hm : m < 64) (hbf : bf ≤ 1) (ht : t ≤ 7) : ∀ (j i k : Nat) (σ : St), i + j = t → j < k → Sp n B q σ → ∃ σ', F_X3_readParameters_56 k x (nI m) (nI bf) (nI t) (nI i) σ = some σ' ∧ Sp n B q σ' ∧ FrX [16, 17] σ σ' := by
  intro j
  induction j with
  | zero =>
    intro i k σ hi hk h
    obtain ⟨k, rfl⟩ : ∃ k', k = k' + 1 := ⟨k - 1, by omega⟩
    rw [F_X3_readParameters_56, if_le (by omega) (by omega), if_pos (by omega), ix_in (by omega) (by omega), nm_eq]
    exact ⟨_, rfl, h.put (by decide), FrX.st (Or.inr (by simp))⟩
  | succ j ih =>
    intro i k σ hi hk h
    obtain ⟨k, rfl⟩ : ∃ k', k = k' + 1 := ⟨k - 1, by omega⟩
    rw [F_X3_readParameters_56, if_le (by omega) (by omega), if_neg (by omega), type_stop h, b2_some, show (8 : Int32) = nI 8 from rfl, pk_mul, nI_add, nI_add, ix_in (by omega) (by omega), nm_eq, nm_eq, show nI i + 1 = nI (i + 1) from nI_1 i]
    obtain ⟨σ', e, h', fr⟩ := ih (i + 1) k _ (by omega) (by omega) (h.put (c := 17) (k := (nI (m * 8 + bf + i)).toNatClampNeg) (v := -1) (by decide))
    exact ⟨σ', e, h', (FrX.st (Or.inr (by simp))).tr fr⟩
theorem params40_stop {n q m bf : Nat} {B : Nat → Nat} {σ : St} (h : Sp n B q σ) (x : Int32) (hm : m < 64) (hbf : bf ≤ 1) : ∃ σ', F_X3_readParameters_40 x (nI m) (nI bf) σ = some σ' ∧ Sp n B q σ' ∧ FrX [16, 17] σ σ' := by
  unfold F_X3_readParameters_40
  rw [stopped_number h, b2_some, nm_eq, if_pos (by decide)]
  exact params56_stop (t := 0) x hm hbf (by omega) 0 0 fu σ rfl (by rw [show fu = 9000 from rfl]; omega) h
theorem params_stop {n q m : Nat} {B : Nat → Nat} {σ : St} (h : Sp n B q σ) (x : Int32) (hm : m < 64) : ∃ σ', F_X3_readParameters x (nI m) σ = some σ' ∧ Sp n B q σ' ∧ FrX [16, 17] σ σ' := by
  unfold F_X3_readParameters
  rw [ix_in (by omega) (by omega)]
  by_cases a : σ 15 (nI m).toNatClampNeg = -1
  · rw [if_pos a]
    unfold F_X3_readParameters_15
    rw [if_neg (by decide)]
    exact params40_stop h x hm (bf := 0) (by omega)
  · rw [if_neg a]
    unfold F_X3_readParameters_15
    rw [if_pos rfl, ix_in (by omega) (by omega), show (8 : Int32) = nI 8 from rfl, pk_mul, ix_in (by omega) (by omega), nm_eq]
    obtain ⟨σ', e, h', fr⟩ := params40_stop (h.put (c := 17) (k := (nI (m * 8)).toNatClampNeg) (v := σ 15 (nI m).toNatClampNeg + 1) (by decide)) x hm (bf := 1) (by omega)
    exact ⟨σ', e, h', (FrX.st (Or.inr (by simp))).tr fr⟩
theorem head28_stop {n q m : Nat} {B : Nat → Nat} {σ : St} (h : Sp n B q σ) (x t : Int32) (hm : m < 64) : ∃ σ', F_X3_readHead_28 x (nI m) t (nI m) σ = some σ' ∧ Sp n B q σ' ∧ FrX [15, 16, 17, 18, 19, 20] σ σ' := by
  unfold F_X3_readHead_28
  rw [ix_in (by omega) (by omega), nm_eq]
  obtain ⟨σ1, e1, h1, f1⟩ := params_stop (h.put (c := 15) (k := (nI m).toNatClampNeg) (v := t) (by decide)) x hm
  rw [e1, b1_some, typeNothing_stop h1, b2_some, if_neg (by decide)]
  obtain ⟨σ2, e2, h2, f2⟩ := st_head62_stop h1 hm (-1)
  exact ⟨σ2, e2, h2, ((FrX.st (Or.inr (by simp))).tr (f1.mono (by intro d hd; simp at hd ⊢; omega))).tr (f2.mono (by intro d hd; simp at hd ⊢; omega))⟩
/-- the parameters' types, on both sides -/
theorem params_loop {n C m bf t : Nat} {B : Nat → Nat} (hC : C ≤ 32) (hm : m < 64) (hbf : bf ≤ 1) (ht : t ≤ 7) :
    ∀ (j i p m1 m2 : Nat) (σ τ : St), i + j = t → j < m1 → j < m2 → Sy n B p σ τ → τ 0 8 = nI C → (∀ k, k < bf + i → σ 17 (8 * m + k) = τ 12 (8 * m + k)) →
      ∃ σ' : St, F_X3_readParameters_56 m1 (nI C) (nI m) (nI bf) (nI t) (nI i) σ = some σ' ∧ FrX [16, 17] σ σ' ∧
        ((∃ (τ' : St) (p' : Nat), F_X8_readMethod_114 m2 (nI m) (nI t) (nI (bf + i)) (nI i) τ = F_X8_readMethod_114 1 (nI m) (nI t) (nI (bf + t)) (nI t) τ' ∧ p ≤ p' ∧ Sy n B p' σ' τ' ∧ FrM [12] τ τ' ∧ σ' 16 = st σ 16 m (nI (bf + t)) 16 ∧ (∀ i, i < 8 * m → σ' 17 i = σ 17 i ∧ τ' 12 i = τ 12 i) ∧ (∀ k, k < bf + t → σ' 17 (8 * m + k) = τ' 12 (8 * m + k))) ∨
        (∃ (q : Nat) (τ' : St), F_X8_readMethod_114 m2 (nI m) (nI t) (nI (bf + i)) (nI i) τ = some (0, τ') ∧ Sp n B q σ' ∧ Wr q τ')) := by
  intro j
  induction j with
  | zero =>
    intro i p m1 m2 σ τ hi hm1 hm2 hS h8 hR
    obtain ⟨m1, rfl⟩ : ∃ m', m1 = m' + 1 := ⟨m1 - 1, by omega⟩
    obtain ⟨m2, rfl⟩ : ∃ m', m2 = m' + 1 := ⟨m2 - 1, by omega⟩
    have hit : i = t := by omega
    subst hit
    refine ⟨st σ 16 m (nI (bf + i)), ?_, FrX.st (Or.inr (by simp)), Or.inl ⟨τ, p, ?_, Nat.le_refl _, hS.putX (by decide), FrM.rf, rfl, fun a _ => ⟨by rw [st_row (by decide)], rfl⟩, fun k hk => by rw [st_row (by decide)]; exact hR k hk⟩⟩
    · rw [F_X3_readParameters_56, if_le (by omega) (by omega), if_pos (by omega), ix_in (by omega) (by omega), nm_eq, nI_clamp (by omega), nI_add]
    · rw [F_X8_readMethod_114, F_X8_readMethod_114, if_pos (nI_le (Nat.le_refl _) (by omega)), if_pos (nI_le (Nat.le_refl _) (by omega))]
  | succ j ih =>
    intro i p m1 m2 σ τ hi hm1 hm2 hS h8 hR
    obtain ⟨m1, rfl⟩ : ∃ m', m1 = m' + 1 := ⟨m1 - 1, by omega⟩
    obtain ⟨m2, rfl⟩ : ∃ m', m2 = m' + 1 := ⟨m2 - 1, by omega⟩
    rw [F_X3_readParameters_56, if_le (by omega) (by omega), if_neg (by omega), F_X8_readMethod_114, if_le (by omega) (by omega), if_neg (by omega)]
    by_cases hok : p < n ∧ okType C (B p)
    · rw [(type_X hS hC).1 hok, b2_some, (type_M hS hC h8 0 (Or.inl rfl)).1 ⟨hok.1, Or.inl hok.2⟩, b2_some, if_neg (show ¬ (1 : Int32) = 0 by decide)]
      have hS1 := hS.step hok.1
      rw [last_M hS1, b1_some, show (8 : Int32) = nI 8 from rfl, pk_mul, nI_add, nI_add, pk_mul, nI_add, ix_in (by omega) (by omega), ix_in (by omega) (by omega), nm_eq, nm_eq, nm_eq, nm_eq, nm_eq, nI_clamp (by omega), nI_clamp (by omega), show nI i + 1 = nI (i + 1) from nI_1 i, show nI (bf + i) + 1 = nI (bf + (i + 1)) from nI_1 (bf + i), Nat.mul_comm m 8, show 8 * m + bf + i = 8 * m + (bf + i) by omega]
      have hS2 := (hS1.putX (c := 17) (k := 8 * m + (bf + i)) (v := nI (B p)) (by decide)).putM (c := 12) (k := 8 * m + (bf + i)) (v := nI (B p)) ⟨by decide, Or.inl (by decide)⟩
      obtain ⟨σ', e1, fr, hcase⟩ := ih (i + 1) (p + 1) m1 m2 _ _ (by omega) (by omega) (by omega) hS2 (by rw [st_mis (Or.inl (by decide)), st_mis (Or.inr (by decide)), h8]) (by
        intro k hk
        by_cases a : k = bf + i
        · subst a; rw [st_hit, st_hit]
        · have a1 : 8 * m + k ≠ 8 * m + (bf + i) := by omega
          rw [st_mis (Or.inr a1), st_mis (Or.inr a1), st_row (by decide), st_row (by decide)]
          exact hR k (by omega))
      refine ⟨σ', e1, ((FrX.st (Or.inl rfl)).tr (FrX.st (Or.inr (by simp)))).tr fr, ?_⟩
      rcases hcase with ⟨τ', p', e2, hp', hS', frm, x16, low, hi'⟩ | hbad
      · refine Or.inl ⟨τ', p', e2, by omega, hS', ((FrM.st (Or.inl ⟨rfl, Or.inl rfl⟩)).tr (FrM.st (Or.inr ⟨by decide, by simp⟩))).tr frm, ?_, ?_, hi'⟩
        · rw [x16]
          funext a
          simp only [st_app]
          simp
        · intro a ha
          obtain ⟨l1, l2⟩ := low a ha
          rw [st_mis (Or.inr (by omega)), st_row (by decide)] at l1
          rw [st_mis (Or.inr (by omega)), st_row (by decide)] at l2
          exact ⟨l1, l2⟩
      · exact Or.inr hbad
    · rw [(type_X hS hC).2 hok, b2_some, (type_M hS hC h8 0 (Or.inl rfl)).2 (fun z => hok ⟨z.1, z.2.resolve_right (fun y => absurd y.1 (by decide))⟩), b2_some, if_pos rfl]
      rw [show (8 : Int32) = nI 8 from rfl, pk_mul, nI_add, nI_add, ix_in (by omega) (by omega), nm_eq, nm_eq, show nI i + 1 = nI (i + 1) from nI_1 i]
      obtain ⟨σ', e1, hSp, fr⟩ := params56_stop (nI C) hm hbf ht j (i + 1) m1 _ (by omega) (by omega) (hS.stop.put (c := 17) (k := (nI (m * 8 + bf + i)).toNatClampNeg) (v := -1) (by decide))
      exact ⟨σ', e1, ((FrX.st (Or.inl rfl)).tr (FrX.st (Or.inr (by simp)))).tr fr, Or.inr ⟨p, _, rfl, hSp, hS.wrong p⟩⟩
