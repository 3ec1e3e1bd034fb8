/-! Pure rows: the tables, small numbers, the two readers -/
theorem st_app (σ : St) (c k : Nat) (v : Int32) (d j : Nat) : st σ c k v d j = if d = c ∧ j = k then v else σ d j := by
  unfold st upd
  by_cases h1 : d = c
  · subst h1
    by_cases h2 : j = k
    · simp [h2]
    · simp [h2]
  · simp [h1]
theorem st_self {σ : St} {c k : Nat} {v : Int32} (h : σ c k = v) : st σ c k v = σ := by
  funext d j
  rw [st_app]
  split
  · rename_i q; rw [q.1, q.2, h]
  · rfl
theorem st_row {σ : St} {c k : Nat} {v : Int32} {d : Nat} (h : d ≠ c) : st σ c k v d = σ d := if_neg h
theorem st_hit {σ : St} {c k : Nat} {v : Int32} : st σ c k v c k = v := by rw [st_app, if_pos ⟨rfl, rfl⟩]
theorem st_mis {σ : St} {c k : Nat} {v : Int32} {d j : Nat} (h : d ≠ c ∨ j ≠ k) : st σ c k v d j = σ d j := by
  rw [st_app, if_neg]
  intro q
  rcases h with h | h
  · exact h q.1
  · exact h q.2
theorem b1_some {β α : Type} (r : β) (k : β → Option α) : b1 (some r) k = k r := rfl
theorem b2_some {α : Type} (r : Int32) (σ : St) (k : Int32 → St → Option α) : b2 (some (r, σ)) k = k r σ := rfl
theorem nm_eq {α β : Type} (e : α) (k : α → β) : nm e k = k e := rfl
theorem ix_in {α : Type} {n j : Nat} {x : Option α} (h : j < n) (hn : n < 2 ^ 31) : ix n (nI j) x = x := by
  unfold ix
  rw [if_neg]
  exact nI_in h hn
theorem bo_0 {α : Type} (x : Option α) : bo 0 x = x := if_pos (Or.inl rfl)
theorem bo_1 {α : Type} (x : Option α) : bo 1 x = x := if_pos (Or.inr rfl)
theorem if_le {α : Type} {a b : Nat} {x y : α} (ha : a < 2 ^ 31) (hb : b < 2 ^ 31) : (if nI a ≤ nI b then x else y) = if a ≤ b then x else y := by simp only [nI_leI ha hb]
theorem if_lt {α : Type} {a b : Nat} {x y : α} (ha : a < 2 ^ 31) (hb : b < 2 ^ 31) : (if nI a < nI b then x else y) = if a < b then x else y := by simp only [nI_ltI ha hb]
theorem if_eq {α : Type} {a b : Nat} {x y : α} (ha : a < 2 ^ 31) (hb : b < 2 ^ 31) : (if nI a = nI b then x else y) = if a = b then x else y := by simp only [nI_eq ha hb]
theorem if_neg0 {α : Type} {a : Nat} {x y : α} (ha : a < 2 ^ 31) : (if nI a < 0 then x else y) = y := if_neg (nI_pos ha)
theorem ne_m1 {a : Nat} (ha : a < 2 ^ 31) : ¬ nI a = -1 := by
  intro h
  have h2 : (nI a).toInt = -1 := by rw [h]; rfl
  rw [nI_toInt ha] at h2
  omega
theorem m1_lt {a : Nat} (ha : a < 2 ^ 31) : (-1 : Int32) < nI a := by
  rw [Int32.lt_iff_toInt_lt, nI_toInt ha]
  show (-1 : Int) < a
  omega
theorem shr2 {k : Nat} (h : k < 2 ^ 31) : nI k >>> ((2 : Int32) &&& 31) = nI (k / 4) := pk_shrN h _ 2 (by decide)
theorem shr5 {k : Nat} (h : k < 2 ^ 31) : nI k >>> ((5 : Int32) &&& 31) = nI (k / 32) := pk_shrN h _ 5 (by decide)
/-- the bytes that lie in a source -/
def BX (σ : St) (n : Nat) (B : Nat → Nat) : Prop := ∀ k, k < n → B k < 256 ∧ (ushr (σ 8 (k / 4)) (24 - (8 * (nI k &&& 3)))) &&& 255 = nI (B k)
def BM (τ : St) (n : Nat) (B : Nat → Nat) : Prop := ∀ k, k < n → τ 2 k = nI (B k)
theorem byteAt_in {σ : St} {n : Nat} {B : Nat → Nat} (hn : n ≤ 8000) (h1 : σ 2 1 = nI n) (hB : BX σ n B) {k : Nat} (hk : k < n) : F_X5_byteAt (nI k) σ = some (nI (B k)) := by
  unfold F_X5_byteAt
  rw [nm_eq, shr2 (by omega), if_neg0 (by omega), h1, if_le (by omega) (by omega), if_neg (by omega)]
  rw [show (2000 : Int32) = nI 2000 from rfl, if_lt (by omega) (by omega), if_pos (by omega), ix_in (by omega) (by omega), nI_clamp (by omega), (hB k hk).2]
theorem byteAt_out {σ : St} {n : Nat} (hn : n ≤ 8000) (h1 : σ 2 1 = nI n) {k : Nat} (hk : n ≤ k) (hk2 : k < 2 ^ 31) : F_X5_byteAt (nI k) σ = some (-1) := by
  unfold F_X5_byteAt
  rw [nm_eq, shr2 (by omega), if_neg0 (by omega), h1, if_le (by omega) (by omega), if_pos (by omega)]
theorem byteAt_neg {σ : St} {x : Int32} (h : x < 0) : F_X5_byteAt x σ = some (-1) := by
  unfold F_X5_byteAt
  rw [nm_eq, if_pos h]
theorem byteAt_some {σ : St} {n : Nat} (hn : n ≤ 8000) (h1 : σ 2 1 = nI n) {k : Nat} (hk : k < 2 ^ 31) : ∃ r, F_X5_byteAt (nI k) σ = some r := by
  unfold F_X5_byteAt
  rw [nm_eq, shr2 (by omega), if_neg0 (by omega), h1, if_le (by omega) (by omega)]
  by_cases h : n ≤ k
  · rw [if_pos h]; exact ⟨_, rfl⟩
  · rw [if_neg h, show (2000 : Int32) = nI 2000 from rfl, if_lt (by omega) (by omega), if_pos (by omega), ix_in (by omega) (by omega)]
    exact ⟨_, rfl⟩
/-- both sides read on at byte p of n -/
def Sy (n : Nat) (B : Nat → Nat) (p : Nat) (σ τ : St) : Prop :=
  (n ≤ 8000 ∧ p ≤ n) ∧ (σ 2 1 = nI n ∧ σ 2 2 = nI p ∧ σ 2 3 = 0 ∧ BX σ n B ∧ σ 1 1 = 0) ∧ (τ 0 4 = nI n ∧ τ 0 5 = nI p ∧ τ 0 6 = -1 ∧ BM τ n B ∧ τ 0 1 = 0)
/-- the source has stopped at byte q -/
def Sp (n : Nat) (B : Nat → Nat) (q : Nat) (σ : St) : Prop := n ≤ 8000 ∧ q ≤ n ∧ σ 2 1 = nI n ∧ σ 2 2 = nI q ∧ σ 2 3 = 1 ∧ BX σ n B ∧ σ 1 1 = 0
def Wr (q : Nat) (τ : St) : Prop := τ 0 6 = nI q ∧ τ 0 1 = 0
theorem stopped_number {n q : Nat} {B : Nat → Nat} {σ : St} (h : Sp n B q σ) (l u : Int32) : F_X5_number l u σ = some (-1, σ) := by
  obtain ⟨h1, h2, h3, h4, h5, h6, h7⟩ := h
  unfold F_X5_number
  obtain ⟨r, hr⟩ := byteAt_some (σ := σ) (k := q) h1 h3 (by omega)
  rw [h4, hr, b1_some, h5, if_neg (by decide)]
  unfold F_X5_number_31
  rw [nm_eq, st_self h5]
theorem Sy.stop {n p : Nat} {B : Nat → Nat} {σ τ : St} (h : Sy n B p σ τ) : Sp n B p (st σ 2 3 1) := by
  obtain ⟨⟨h1, h2⟩, ⟨h3, h4, h5, h6, h7⟩, -⟩ := h
  refine ⟨h1, h2, ?_, ?_, st_hit, ?_, ?_⟩
  · rw [st_mis (Or.inr (by decide)), h3]
  · rw [st_mis (Or.inr (by decide)), h4]
  · intro k hk
    rw [st_row (by decide)]
    exact h6 k hk
  · rw [st_mis (Or.inl (by decide)), h7]
theorem Sy.wrong {n p : Nat} {B : Nat → Nat} {σ τ : St} (h : Sy n B p σ τ) (q : Nat) : Wr q (st τ 0 6 (nI q)) := by
  refine ⟨st_hit, ?_⟩
  rw [st_mis (Or.inr (by decide))]
  exact h.2.2.2.2.2.2
theorem bad_M {τ : St} (h : τ 0 6 = -1) (x : Int32) : F_X8_bad x τ = some (0, st τ 0 6 x) := by
  unfold F_X8_bad
  rw [h, if_neg (by decide), nm_eq]
theorem here_in {n p : Nat} {B : Nat → Nat} {σ τ : St} (h : Sy n B p σ τ) (hp : p < n) : F_X8_here τ = some (nI (B p)) := by
  obtain ⟨⟨h1, h2⟩, -, ⟨h3, h4, h5, h6, h7⟩⟩ := h
  unfold F_X8_here
  rw [h3, h4, if_le (by omega) (by omega), if_neg (by omega), ix_in (by omega) (by omega), nI_clamp (by omega), h6 p hp]
theorem here_out {n p : Nat} {B : Nat → Nat} {σ τ : St} (h : Sy n B p σ τ) (hp : ¬ p < n) : F_X8_here τ = some 256 := by
  obtain ⟨⟨h1, h2⟩, -, ⟨h3, h4, h5, h6, h7⟩⟩ := h
  unfold F_X8_here
  rw [h3, h4, if_le (by omega) (by omega), if_pos (by omega)]
theorem Sy.step {n p : Nat} {B : Nat → Nat} {σ τ : St} (h : Sy n B p σ τ) (hp : p < n) : Sy n B (p + 1) (st σ 2 2 (nI (p + 1))) (st τ 0 5 (nI (p + 1))) := by
  obtain ⟨⟨h1, h2⟩, ⟨h3, h4, h5, h6, h7⟩, ⟨h8, h9, h10, h11, h12⟩⟩ := h
  refine ⟨⟨h1, by omega⟩, ⟨?_, st_hit, ?_, ?_, ?_⟩, ?_, st_hit, ?_, ?_, ?_⟩
  · rw [st_mis (Or.inr (by decide)), h3]
  · rw [st_mis (Or.inr (by decide)), h5]
  · intro k hk; rw [st_row (by decide)]; exact h6 k hk
  · rw [st_mis (Or.inl (by decide)), h7]
  · rw [st_mis (Or.inr (by decide)), h8]
  · rw [st_mis (Or.inr (by decide)), h10]
  · intro k hk; rw [st_row (by decide)]; exact h11 k hk
  · rw [st_mis (Or.inr (by decide)), h12]
/-- one byte, in its range or not -/
theorem read_both {n p : Nat} {B : Nat → Nat} {σ τ : St} (h : Sy n B p σ τ) (l u : Int32) :
    (p < n ∧ B p < 256 ∧ ¬ nI (B p) < l ∧ nI (B p) ≤ u ∧ F_X5_number l u σ = some (nI (B p), st σ 2 2 (nI (p + 1))) ∧ F_X8_over l u τ = some (1, st τ 0 5 (nI (p + 1)))) ∨
    ((¬ p < n ∨ nI (B p) < l ∨ ¬ nI (B p) ≤ u) ∧ F_X5_number l u σ = some (-1, st σ 2 3 1) ∧ F_X8_over l u τ = some (0, st τ 0 6 (nI p))) := by
  have hh := h
  obtain ⟨⟨h1, h2⟩, ⟨h3, h4, h5, h6, h7⟩, ⟨h8, h9, h10, h11, h12⟩⟩ := hh
  have hbad : F_X8_over_26 τ = some (0, st τ 0 6 (nI p)) := by
    unfold F_X8_over_26
    rw [h9, bad_M h10, b2_some, bo_0]
  have hst : F_X5_number_31 σ = some (-1, st σ 2 3 1) := rfl
  by_cases hp : p < n
  · have hb := (h6 p hp).1
    unfold F_X5_number F_X8_over
    rw [h4, byteAt_in h1 h3 h6 hp, b1_some, h5, if_pos rfl, if_neg (ne_m1 (by omega)), here_in h hp, b1_some, b1_some, b1_some, hbad, hst]
    by_cases ha : nI (B p) < l
    · right
      exact ⟨Or.inr (Or.inl ha), by rw [if_pos ha], by rw [if_pos ha]⟩
    · by_cases hu : nI (B p) ≤ u
      · left
        refine ⟨hp, hb, ha, hu, ?_, ?_⟩
        · rw [if_neg ha, if_pos hu, nm_eq]
          show some (nI (B p), st σ 2 2 (nI p + nI 1)) = _
          rw [nI_add]
        · rw [if_neg ha, if_neg (Int32.not_lt.mpr hu), show (256 : Int32) = nI 256 from rfl, if_eq (by omega) (by omega), if_neg (by omega), nm_eq, h9]
          show some (1, st τ 0 5 (nI p + nI 1)) = _
          rw [nI_add]
      · right
        refine ⟨Or.inr (Or.inr hu), ?_, ?_⟩
        · rw [if_neg ha, if_neg hu]
        · rw [if_neg ha, if_pos (Int32.not_le.mp hu)]
  · right
    refine ⟨Or.inl hp, ?_, ?_⟩
    · unfold F_X5_number
      rw [h4, byteAt_out h1 h3 (by omega) (by omega), b1_some, h5, if_pos rfl, if_pos rfl, hst]
    · unfold F_X8_over
      rw [here_out h hp, b1_some, b1_some, b1_some, hbad]
      by_cases ha : (256 : Int32) < l
      · rw [if_pos ha]
      · rw [if_neg ha]
        by_cases hu : u < 256
        · rw [if_pos hu]
        · rw [if_neg hu, if_pos rfl]
theorem last_M {n p : Nat} {B : Nat → Nat} {σ τ : St} (h : Sy n B (p + 1) σ τ) : F_X8_last τ = some (nI (B p)) := by
  obtain ⟨⟨h1, h2⟩, -, ⟨h3, h4, h5, h6, h7⟩⟩ := h
  unfold F_X8_last
  rw [h4, show nI (p + 1) - 1 = nI p from nI_pred p, ix_in (by omega) (by omega), nI_clamp (by omega), h6 p (by omega)]
