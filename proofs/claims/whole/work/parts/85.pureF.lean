/-! the length of the code, the code, the handlers -/
theorem pair_stop {n q : Nat} {B : Nat → Nat} {σ : St} (h : Sp n B q σ) : F_X5_pair 1 1000 σ = some (-1, σ) := by
  unfold F_X5_pair
  rw [stopped_number h, b2_some, if_neg (by decide)]
  unfold F_X5_pair_31
  rw [if_neg (by decide)]
  unfold F_X5_pair_50
  rw [stopped_number h, b2_some, h.2.2.2.2.1, if_neg (by decide)]
theorem read74 {σ : St} {m : Nat} (hm : m < 64) (x5 x6 x7 : Int32) : F_X1_read_74 (nI m) x5 x6 x7 σ = some (st (st (st (st σ 21 m x6) 22 m x5) 23 m x7) 5 0 (σ 5 0 + x7)) := by
  unfold F_X1_read_74
  have hix : ∀ {α : Type} (y : Option α), ix 64 (nI m) y = y := fun y => ix_in hm (by omega)
  have hcl : (nI m).toNatClampNeg = m := nI_clamp (by omega)
  simp only [hix, hcl, nm_eq]
  rw [st_mis (Or.inl (by decide)), st_mis (Or.inl (by decide)), st_mis (Or.inl (by decide))]
theorem fr74 {σ : St} {m : Nat} {a b c d : Int32} : FrX [5, 21, 22, 23, 24] σ (st (st (st (st σ 21 m a) 22 m b) 23 m c) 5 0 d) := (((FrX.st (Or.inr (by simp))).tr (FrX.st (Or.inr (by simp)))).tr (FrX.st (Or.inr (by simp)))).tr (FrX.st (Or.inr (by simp)))
theorem code_stop {n q m : Nat} {B : Nat → Nat} {σ : St} (h : Sp n B q σ) (hm : m < 64) (x : Int32) : ∃ σ', F_X1_read (nI m) x σ = some σ' ∧ Sp n B q σ' ∧ FrX [5, 21, 22, 23, 24] σ σ' := by
  unfold F_X1_read
  rw [pair_stop h, b2_some, nm_eq, if_pos (by decide), place_X, b1_some, show fu = 8999 + 1 from rfl, F_X1_read_26, if_pos (by decide), read74 hm]
  exact ⟨_, rfl, (((h.put (by decide)).put (by decide)).put (by decide)).put (by decide), fr74⟩
/-- the length of the code, two bytes -/
theorem pair_both {n p m : Nat} {B : Nat → Nat} {σ τ : St} (hm : m < 64) (h : Sy n B p σ τ) :
    (∃ len, 1 ≤ len ∧ len ≤ 1000 ∧ p + 2 ≤ n ∧ F_X5_pair 1 1000 σ = some (nI len, st σ 2 2 (nI (p + 2))) ∧ M_code (nI m) τ = F_X8_readMethod_332 fu (nI m) (nI (p + 2 + len)) (st (st (st τ 0 5 (nI (p + 2))) 17 m (nI len)) 16 m (nI (p + 2))) ∧ Sy n B (p + 2) (st σ 2 2 (nI (p + 2))) (st τ 0 5 (nI (p + 2)))) ∨
    (∃ (q : Nat) (σ' τ' : St), F_X5_pair 1 1000 σ = some (-1, σ') ∧ FrX [] σ σ' ∧ M_code (nI m) τ = some (0, τ') ∧ Sp n B q σ' ∧ Wr q τ') := by
  unfold F_X5_pair M_code
  rw [show ((1 : Int32) >>> ((8 : Int32) &&& 31)) = 0 by decide, show ((1000 : Int32) >>> ((8 : Int32) &&& 31)) = 3 by decide, show ((1 : Int32) &&& 255) = 1 by decide]
  rcases read_both h 0 3 with ⟨hp, hb, g1, g2, e1, e2⟩ | ⟨-, e1, e2⟩
  · have hhi : B p ≤ 3 := (nI_leI (b := 3) (by omega) (by omega)).mp g2
    have h1 := h.step hp
    rw [e1, e2, b2_some, b2_some, if_neg (show ¬ (1 : Int32) = 0 by decide), last_M h1, b1_some]
    have key : ∀ (lo hi' : Int32), (∀ b, b < 256 → (¬ nI b < lo ∧ nI b ≤ hi') → 1 ≤ 256 * B p + b ∧ 256 * B p + b ≤ 1000) →
      (∃ len, 1 ≤ len ∧ len ≤ 1000 ∧ p + 2 ≤ n ∧ F_X5_pair_50 (nI (B p)) hi' lo (st σ 2 2 (nI (p + 1))) = some (nI len, st σ 2 2 (nI (p + 2))) ∧ F_X8_readMethod_285 (nI m) hi' lo (st τ 0 5 (nI (p + 1))) = F_X8_readMethod_332 fu (nI m) (nI (p + 2 + len)) (st (st (st τ 0 5 (nI (p + 2))) 17 m (nI len)) 16 m (nI (p + 2))) ∧ Sy n B (p + 2) (st σ 2 2 (nI (p + 2))) (st τ 0 5 (nI (p + 2)))) ∨
      (∃ (q : Nat) (σ' τ' : St), F_X5_pair_50 (nI (B p)) hi' lo (st σ 2 2 (nI (p + 1))) = some (-1, σ') ∧ FrX [] σ σ' ∧ F_X8_readMethod_285 (nI m) hi' lo (st τ 0 5 (nI (p + 1))) = some (0, τ') ∧ Sp n B q σ' ∧ Wr q τ') := by
      intro lo hi' hr
      unfold F_X5_pair_50 F_X8_readMethod_285
      rcases read_both h1 lo hi' with ⟨hp2, hb2, g3, g4, e3, e4⟩ | ⟨-, e3, e4⟩
      · left
        have h2 := h1.step hp2
        rw [st_st, st_st] at h2
        rw [st_st] at e3 e4
        obtain ⟨r1, r2⟩ := hr _ hb2 ⟨g3, g4⟩
        have hcl : (nI m).toNatClampNeg = m := nI_clamp (by omega)
        have hix : ∀ {α : Type} (y : Option α), ix 64 (nI m) y = y := fun y => ix_in hm (by omega)
        have hn := h.1.1
        refine ⟨256 * B p + B (p + 1), r1, r2, by omega, ?_, ?_, h2⟩
        · rw [e3, b2_some, h2.2.1.2.2.1, if_pos rfl, two_val (by omega) hb2]
        · rw [e4, b2_some, if_neg (by decide), h2.2.2.2.1]
          have h2w : F_X8_two (nI (p + 1 + 1) - 2) (st τ 0 5 (nI (p + 1 + 1))) = some (nI (256 * B p + B (p + 1))) := by
            rw [show nI (p + 1 + 1) - (2 : Int32) = nI p from pk_sub (a := p + 1 + 1) (b := 2) (by omega)]
            unfold F_X8_two
            rw [show nI p + 1 = nI (p + 1) from nI_1 p, ix_in (by omega) (by omega), ix_in (by omega) (by omega), nI_clamp (by omega), nI_clamp (by omega), h2.2.2.2.2.2.1 p (by omega), h2.2.2.2.2.2.1 (p + 1) (by omega), two_val (by omega) hb2]
          rw [h2w, b1_some]
          simp only [hix, hcl, nm_eq]
          have z5 : st (st τ 0 5 (nI (p + 1 + 1))) 17 m (nI (256 * B p + B (p + 1))) 0 5 = nI (p + 2) := by rw [st_mis (Or.inl (by decide)), st_hit]
          rw [z5]
          have z6 : st (st (st τ 0 5 (nI (p + 1 + 1))) 17 m (nI (256 * B p + B (p + 1)))) 16 m (nI (p + 2)) 0 5 = nI (p + 2) := by rw [st_mis (Or.inl (by decide)), z5]
          have z7 : st (st (st τ 0 5 (nI (p + 1 + 1))) 17 m (nI (256 * B p + B (p + 1)))) 16 m (nI (p + 2)) 17 m = nI (256 * B p + B (p + 1)) := by rw [st_row (by decide), st_hit]
          rw [z6, z7, nI_add]
      · right
        refine ⟨p + 1, _, _, ?_, (FrX.st (Or.inl rfl)).tr (FrX.st (Or.inl rfl)), ?_, h1.stop, h1.wrong (p + 1)⟩
        · rw [e3, b2_some, h1.stop.2.2.2.2.1, if_neg (by decide)]
        · rw [e4, b2_some, if_pos rfl]
    have z0 : (nI (B p) = (0 : Int32)) ↔ B p = 0 := nI_eq (a := B p) (b := 0) (by omega) (by omega)
    have z3 : (nI (B p) = (3 : Int32)) ↔ B p = 3 := nI_eq (a := B p) (b := 3) (by omega) (by omega)
    have e31 : ∀ t0 : Int32, F_X5_pair_31 1000 (nI (B p)) t0 (st σ 2 2 (nI (p + 1))) = if B p = 3 then F_X5_pair_50 (nI (B p)) 232 t0 (st σ 2 2 (nI (p + 1))) else F_X5_pair_50 (nI (B p)) 255 t0 (st σ 2 2 (nI (p + 1))) := by
      intro t0
      unfold F_X5_pair_31
      rw [show ((1000 : Int32) >>> ((8 : Int32) &&& 31)) = 3 by decide, show ((1000 : Int32) &&& 255) = 232 by decide]
      by_cases a : B p = 3
      · rw [if_pos (z3.mpr a), if_pos a]
      · rw [if_neg (fun y => a (z3.mp y)), if_neg a]
    have e268 : ∀ t0 : Int32, F_X8_readMethod_268 (nI m) t0 (st τ 0 5 (nI (p + 1))) = if B p = 3 then F_X8_readMethod_285 (nI m) 232 t0 (st τ 0 5 (nI (p + 1))) else F_X8_readMethod_285 (nI m) 255 t0 (st τ 0 5 (nI (p + 1))) := by
      intro t0
      unfold F_X8_readMethod_268
      rw [last_M h1, b1_some]
      by_cases a : B p = 3
      · rw [if_pos (z3.mpr a), if_pos a]
      · rw [if_neg (fun y => a (z3.mp y)), if_neg a]
    have lt1 : ∀ b, ¬ nI b < (1 : Int32) → b < 256 → 1 ≤ b := by
      intro b hb1 hb2
      rcases Nat.lt_or_ge b 1 with z | z
      · exact absurd (nI_lt (b := 1) z (by omega)) hb1
      · exact z
    by_cases a0 : B p = 0
    · simp only [if_pos (z0.mpr a0)]
      rw [e31, e268, if_neg (show ¬ B p = 3 by omega), if_neg (show ¬ B p = 3 by omega)]
      refine key 1 255 (fun b hb z => ?_)
      have := lt1 b z.1 hb
      omega
    · simp only [if_neg (fun y => a0 (z0.mp y))]
      rw [e31, e268]
      by_cases a3 : B p = 3
      · rw [if_pos a3, if_pos a3]
        refine key 0 232 (fun b hb z => ?_)
        have := (nI_leI (b := 232) (by omega) (by omega)).mp z.2
        omega
      · rw [if_neg a3, if_neg a3]
        refine key 0 255 (fun b hb z => ?_)
        omega
  · right
    rw [e1, e2, b2_some, b2_some, if_pos rfl, if_neg (show ¬ (-1 : Int32) = 0 by decide)]
    unfold F_X5_pair_31
    rw [if_neg (by decide)]
    unfold F_X5_pair_50
    rw [stopped_number h.stop, b2_some, h.stop.2.2.2.2.1, if_neg (by decide)]
    exact ⟨p, _, _, rfl, FrX.st (Or.inl rfl), rfl, h.stop, h.wrong p⟩
