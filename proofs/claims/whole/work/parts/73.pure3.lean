/-! reading a class: its fields -/
def FrX (R : List Nat) (σ σ' : St) : Prop := ∀ d, d ≠ 2 → d ∉ R → σ' d = σ d
def FrM (R : List Nat) (τ τ' : St) : Prop := (∀ d, d ≠ 0 → d ∉ R → τ' d = τ d) ∧ ∀ k, k ≠ 5 → k ≠ 6 → τ' 0 k = τ 0 k
theorem FrX.rf {R : List Nat} {σ : St} : FrX R σ σ := fun _ _ _ => rfl
theorem FrM.rf {R : List Nat} {τ : St} : FrM R τ τ := ⟨fun _ _ _ => rfl, fun _ _ _ => rfl⟩
theorem FrX.tr {R : List Nat} {a b c : St} (h1 : FrX R a b) (h2 : FrX R b c) : FrX R a c := fun d h h' => (h2 d h h').trans (h1 d h h')
theorem FrM.tr {R : List Nat} {a b c : St} (h1 : FrM R a b) (h2 : FrM R b c) : FrM R a c := ⟨fun d h h' => (h2.1 d h h').trans (h1.1 d h h'), fun k h h' => (h2.2 k h h').trans (h1.2 k h h')⟩
theorem FrX.mono {R R' : List Nat} {a b : St} (h : FrX R a b) (hs : ∀ d, d ∈ R → d ∈ R') : FrX R' a b := fun d h1 h2 => h d h1 (fun q => h2 (hs d q))
theorem FrM.mono {R R' : List Nat} {a b : St} (h : FrM R a b) (hs : ∀ d, d ∈ R → d ∈ R') : FrM R' a b := ⟨fun d h1 h2 => h.1 d h1 (fun q => h2 (hs d q)), h.2⟩
theorem FrX.st {R : List Nat} {σ : St} {c k : Nat} {v : Int32} (h : c = 2 ∨ c ∈ R) : FrX R σ (st σ c k v) := fun d h1 h2 => st_row (by
  intro e
  subst e
  exact h.elim h1 h2)
theorem FrM.st {R : List Nat} {τ : St} {c k : Nat} {v : Int32} (h : (c = 0 ∧ (k = 5 ∨ k = 6)) ∨ (c ≠ 0 ∧ c ∈ R)) : FrM R τ (st τ c k v) := by
  refine ⟨fun d h1 h2 => st_row (by
    intro e
    subst e
    rcases h with h | h
    · exact h1 h.1
    · exact h2 h.2), fun j h1 h2 => st_mis ?_⟩
  rcases h with h | h
  · right
    rintro rfl
    omega
  · exact Or.inl (Ne.symm h.1)
theorem stopped_X {σ : St} {v : Int32} (h : σ 2 3 = v) (hv : v = 0 ∨ v = 1) : F_X5_stopped σ = some v := by
  unfold F_X5_stopped
  rw [h]
  rcases hv with rfl | rfl
  · exact bo_0 _
  · exact bo_1 _
theorem Sy.run {n p : Nat} {B : Nat → Nat} {σ τ : St} (h : Sy n B p σ τ) : F_X5_stopped σ = some 0 := stopped_X h.2.1.2.2.1 (Or.inl rfl)
theorem Sp.halt {n q : Nat} {B : Nat → Nat} {σ : St} (h : Sp n B q σ) : F_X5_stopped σ = some 1 := stopped_X h.2.2.2.2.1 (Or.inr rfl)
/-- the fields' types, on both sides -/
theorem types_loop {n C c f o : Nat} {B : Nat → Nat} (hC : C ≤ 32) (hc : c < C) (hfo : f + o ≤ 15) (x : Int32) :
    ∀ (j i p m1 m2 : Nat) (σ τ : St), i + j = o → j < m1 → j < m2 → Sy n B p σ τ → σ 3 0 = nI C → τ 0 8 = nI C → τ 5 c = nI (f + o) →
      ∃ σ' : St, F_X0_readFields_21 m1 (nI c) (nI f) (nI o) (nI i) σ = F_X0_readFields_63 (nI c) (nI f) (nI o) σ' ∧ FrX [11] σ σ' ∧
        ((∃ τ' : St, F_X8_readClass_151 m2 (nI c) x (nI (f + i)) τ = F_X8_readClass_197 fu (nI c) x 0 τ' ∧ Sy n B (p + j) σ' τ' ∧ FrM [6] τ τ' ∧ σ' 11 = fill σ 11 (15 * c + f + i) (15 * c + f + o) (fun k => nI (B (p + k))) 11 ∧ τ' 6 = fill τ 6 (15 * c + f + i) (15 * c + f + o) (fun k => nI (B (p + k))) 6) ∨
        (∃ (q : Nat) (τ' : St), F_X8_readClass_151 m2 (nI c) x (nI (f + i)) τ = some (0, τ') ∧ Sp n B q σ' ∧ Wr q τ')) := by
  intro j
  induction j with
  | zero =>
    intro i p m1 m2 σ τ hi hm1 hm2 hS h3 h8 h5
    obtain ⟨m1, rfl⟩ : ∃ m', m1 = m' + 1 := ⟨m1 - 1, by omega⟩
    obtain ⟨m2, rfl⟩ : ∃ m', m2 = m' + 1 := ⟨m2 - 1, by omega⟩
    refine ⟨σ, ?_, FrX.rf, Or.inl ⟨τ, ?_, hS, FrM.rf, ?_, ?_⟩⟩
    · rw [F_X0_readFields_21, if_le (by omega) (by omega), if_pos (by omega)]
    · rw [F_X8_readClass_151, ix_in (by omega) (by omega), nI_clamp (by omega), h5, if_le (by omega) (by omega), if_pos (by omega)]
    · rw [show i = o by omega, fill_nil]
    · rw [show i = o by omega, fill_nil]
  | succ j ih =>
    intro i p m1 m2 σ τ hi hm1 hm2 hS h3 h8 h5
    obtain ⟨m1, rfl⟩ : ∃ m', m1 = m' + 1 := ⟨m1 - 1, by omega⟩
    obtain ⟨m2, rfl⟩ : ∃ m', m2 = m' + 1 := ⟨m2 - 1, by omega⟩
    rw [F_X0_readFields_21, if_le (by omega) (by omega), if_neg (by omega), hS.run, b1_some, if_pos rfl, h3]
    rw [F_X8_readClass_151, ix_in (by omega) (by omega), nI_clamp (by omega), h5, if_le (by omega) (by omega), if_neg (by omega)]
    by_cases hok : p < n ∧ okType C (B p)
    · rw [(type_X hS hC).1 hok, b2_some, (type_M hS hC h8 0 (Or.inl rfl)).1 ⟨hok.1, Or.inl hok.2⟩, b2_some, if_neg (by decide)]
      have hS1 := hS.step hok.1
      rw [last_M hS1, b1_some]
      rw [show (15 : Int32) = nI 15 from rfl, pk_mul, nI_add, nI_add, pk_mul, nI_add, ix_in (by omega) (by omega), ix_in (by omega) (by omega), nm_eq, nm_eq, nm_eq, nm_eq, nI_clamp (by omega), nI_clamp (by omega), show nI i + 1 = nI (i + 1) from nI_1 i, show nI (f + i) + 1 = nI (f + (i + 1)) from nI_1 (f + i), Nat.mul_comm c 15, show 15 * c + (f + i) = 15 * c + f + i by omega]
      have hS2 := (hS1.putX (c := 11) (k := 15 * c + f + i) (v := nI (B p)) (by decide)).putM (c := 6) (k := 15 * c + f + i) (v := nI (B p)) ⟨by decide, Or.inl (by decide)⟩
      obtain ⟨σ', e1, fr, hcase⟩ := ih (i + 1) (p + 1) m1 m2 _ _ (by omega) (by omega) (by omega) hS2 (by rw [st_mis (Or.inl (by decide)), st_mis (Or.inl (by decide)), h3]) (by rw [st_mis (Or.inl (by decide)), st_mis (Or.inr (by decide)), h8]) (by rw [st_mis (Or.inl (by decide)), st_mis (Or.inl (by decide)), h5])
      have frx : FrX [11] σ σ' := ((FrX.st (Or.inl rfl)).tr (FrX.st (Or.inr (by simp)))).tr fr
      have rowEq : ∀ (ρ ρ1 : St) (r : Nat), ρ1 r = fill (st ρ r (15 * c + f + i) (nI (B p))) r (15 * c + f + (i + 1)) (15 * c + f + o) (fun k => nI (B (p + 1 + k))) r → ρ1 r = fill ρ r (15 * c + f + i) (15 * c + f + o) (fun k => nI (B (p + k))) r := by
        intro ρ ρ1 r hr
        rw [hr]
        funext a
        unfold fill
        by_cases a1 : a = 15 * c + f + i
        · rw [if_neg (by omega), if_pos ⟨rfl, by omega, by omega⟩, a1, st_hit]
          rw [show 15 * c + f + i - (15 * c + f + i) = 0 by omega]
          rfl
        · by_cases a2 : 15 * c + f + (i + 1) ≤ a ∧ a < 15 * c + f + o
          · rw [if_pos ⟨rfl, a2.1, a2.2⟩, if_pos ⟨rfl, by omega, a2.2⟩]
            show nI (B (p + 1 + (a - (15 * c + f + (i + 1))))) = nI (B (p + (a - (15 * c + f + i))))
            rw [show p + 1 + (a - (15 * c + f + (i + 1))) = p + (a - (15 * c + f + i)) by omega]
          · rw [if_neg (fun q => a2 q.2), if_neg (fun q => a2 (by omega)), st_mis (Or.inr a1)]
      refine ⟨σ', e1, frx, ?_⟩
      rcases hcase with ⟨τ', e2, hS', frm, hx, hm⟩ | ⟨q, τ', e2, hSp, hW⟩
      · refine Or.inl ⟨τ', e2, by rw [show p + (j + 1) = p + 1 + j by omega]; exact hS', ((FrM.st (Or.inl ⟨rfl, Or.inl rfl⟩)).tr (FrM.st (Or.inr ⟨by decide, by simp⟩))).tr frm, ?_, ?_⟩
        · refine (rowEq (st σ 2 2 (nI (p + 1))) σ' 11 hx).trans ?_
          funext a
          unfold fill
          rw [st_row (by decide)]
        · refine (rowEq (st τ 0 5 (nI (p + 1))) τ' 6 hm).trans ?_
          funext a
          unfold fill
          rw [st_row (by decide)]
      · exact Or.inr ⟨q, τ', e2, hSp, hW⟩
    · rw [(type_X hS hC).2 hok, b2_some, (type_M hS hC h8 0 (Or.inl rfl)).2 (fun z => hok ⟨z.1, z.2.resolve_right (fun y => absurd y.1 (by decide))⟩), b2_some, if_pos rfl]
      rw [show (15 : Int32) = nI 15 from rfl, pk_mul, nI_add, nI_add, ix_in (by omega) (by omega), nm_eq, nm_eq]
      have hSp : Sp n B p (st (st σ 2 3 1) 11 (nI (c * 15 + f + i)).toNatClampNeg (-1)) := hS.stop.put (by decide)
      refine ⟨_, ?_, (FrX.st (Or.inl rfl)).tr (FrX.st (Or.inr (by simp))), Or.inr ⟨p, _, rfl, hSp, hS.wrong p⟩⟩
      cases m1 with
      | zero => omega
      | succ m1 =>
        rw [F_X0_readFields_21, show nI i + 1 = nI (i + 1) from nI_1 i, if_le (by omega) (by omega)]
        by_cases a1 : o ≤ i + 1
        · rw [if_pos a1]
        · rw [if_neg a1, hSp.halt, b1_some, if_neg (by decide)]
