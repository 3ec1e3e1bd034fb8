/-! more of the readers: nothing or a number, types; rows that don't touch the readers; filled stretches of a table -/
theorem le_pred {b c : Nat} (hb : b < 2 ^ 30) (hc : c < 2 ^ 30) : nI b ≤ nI c - 1 ↔ b < c := by
  rw [Int32.le_iff_toInt_le]
  show (nI b).toInt ≤ (nI c - nI 1).toInt ↔ _
  rw [pk_sub_toInt hc (by decide), nI_toInt (by omega)]
  omega
theorem not0 (b : Nat) (hb : b < 2 ^ 31) : ¬ nI b < 0 := nI_pos hb
theorem next_in {n p : Nat} {B : Nat → Nat} {σ τ : St} (h : Sy n B p σ τ) (hp : p < n) : F_X5_next σ = some (nI (B p)) := by
  obtain ⟨⟨h1, h2⟩, ⟨h3, h4, h5, h6, h7⟩, -⟩ := h
  unfold F_X5_next
  rw [h4, byteAt_in h1 h3 h6 hp, b1_some]
theorem next_out {n p : Nat} {B : Nat → Nat} {σ τ : St} (h : Sy n B p σ τ) (hp : ¬ p < n) : F_X5_next σ = some (-1) := by
  obtain ⟨⟨h1, h2⟩, ⟨h3, h4, h5, h6, h7⟩, -⟩ := h
  unfold F_X5_next
  rw [h4, byteAt_out h1 h3 (by omega) (by omega), b1_some]
theorem next_stop {n q : Nat} {B : Nat → Nat} {σ : St} (h : Sp n B q σ) : ∃ r, F_X5_next σ = some r := by
  obtain ⟨h1, h2, h3, h4, h5, h6, h7⟩ := h
  unfold F_X5_next
  obtain ⟨r, hr⟩ := byteAt_some (σ := σ) (k := q) h1 h3 (by omega)
  rw [h4, hr, b1_some]
  exact ⟨r, rfl⟩
/-- number alone, on the class' side -/
theorem number_X {n p : Nat} {B : Nat → Nat} {σ τ : St} (h : Sy n B p σ τ) (l u : Int32) : F_X5_number l u σ = if p < n ∧ ¬ nI (B p) < l ∧ nI (B p) ≤ u then some (nI (B p), st σ 2 2 (nI (p + 1))) else some (-1, st σ 2 3 1) := by
  rcases read_both h l u with ⟨h1, h2, h3, h4, h5, h6⟩ | ⟨h1, h2, h3⟩
  · rw [if_pos ⟨h1, h3, h4⟩, h5]
  · rw [if_neg, h2]
    intro q
    rcases h1 with h1 | h1 | h1
    · exact h1 q.1
    · exact q.2.1 h1
    · exact h1 q.2.2
theorem orNothing_X {n p : Nat} {B : Nat → Nat} {σ τ : St} (h : Sy n B p σ τ) {c : Nat} (hc : c ≤ 255) : F_X5_numberOrNothing (nI c - 1) σ = if p < n ∧ (B p = 255 ∨ B p < c) then some (nI (B p), st σ 2 2 (nI (p + 1))) else some (-1, st σ 2 3 1) := by
  unfold F_X5_numberOrNothing
  by_cases hp : p < n
  · have hb := (h.2.1.2.2.2.1 p hp).1
    rw [next_in h hp, b1_some, show (255 : Int32) = nI 255 from rfl, if_eq (by omega) (by omega), number_X h, number_X h]
    by_cases h255 : B p = 255
    · rw [if_pos h255, if_pos ⟨hp, by rw [h255]; exact nI_nlt (by omega) (by omega), by rw [h255]; exact nI_le (by omega) (by omega)⟩, b2_some, if_pos ⟨hp, Or.inl h255⟩]
    · rw [if_neg h255]
      by_cases hlt : B p < c
      · rw [if_pos ⟨hp, not0 _ (by omega), (le_pred (by omega) (by omega)).mpr hlt⟩, b2_some, if_pos ⟨hp, Or.inr hlt⟩]
      · rw [if_neg (fun q => hlt ((le_pred (by omega) (by omega)).mp q.2.2)), b2_some, if_neg (fun q => q.2.elim h255 hlt)]
  · rw [next_out h hp, b1_some, if_neg (by decide), number_X h, if_neg (fun q => hp q.1), b2_some, if_neg (fun q => hp q.1)]
theorem orNothing_stop {n q : Nat} {B : Nat → Nat} {σ : St} (h : Sp n B q σ) (x : Int32) : F_X5_numberOrNothing x σ = some (-1, σ) := by
  unfold F_X5_numberOrNothing
  obtain ⟨r, hr⟩ := next_stop h
  rw [hr, b1_some, stopped_number h, stopped_number h, b2_some]
  simp only [ite_self]
def okType (C b : Nat) : Prop := b ≤ C ∨ (64 ≤ b ∧ b ≤ 64 + C)
theorem type_X {n p : Nat} {B : Nat → Nat} {σ τ : St} (h : Sy n B p σ τ) {C : Nat} (hC : C ≤ 32) : (p < n ∧ okType C (B p) → F_X5_type (nI C) σ = some (nI (B p), st σ 2 2 (nI (p + 1)))) ∧ (¬ (p < n ∧ okType C (B p)) → F_X5_type (nI C) σ = some (-1, st σ 2 3 1)) := by
  unfold F_X5_type
  by_cases hp : p < n
  · have hb := (h.2.1.2.2.2.1 p hp).1
    rw [next_in h hp, b1_some, show (64 : Int32) = nI 64 from rfl, if_le (by omega) (by omega), number_X h, number_X h, nI_add]
    by_cases h64 : 64 ≤ B p
    · rw [if_pos h64]
      constructor
      · rintro ⟨-, q⟩
        rw [if_pos ⟨hp, nI_nlt h64 (by omega), nI_le (by unfold okType at q; omega) (by omega)⟩, b2_some]
      · intro q
        rw [if_neg (fun z => q ⟨hp, Or.inr ⟨h64, (nI_leI (by omega) (by omega)).mp z.2.2⟩⟩), b2_some]
    · rw [if_neg h64]
      constructor
      · rintro ⟨-, q⟩
        rw [if_pos ⟨hp, not0 _ (by omega), nI_le (by unfold okType at q; omega) (by omega)⟩, b2_some]
      · intro q
        rw [if_neg (fun z => q ⟨hp, Or.inl ((nI_leI (by omega) (by omega)).mp z.2.2)⟩), b2_some]
  · rw [next_out h hp, b1_some, if_neg (by decide), number_X h, if_neg (fun q => hp q.1), b2_some]
    exact ⟨fun q => absurd q.1 hp, fun _ => rfl⟩
theorem type_stop {n q : Nat} {B : Nat → Nat} {σ : St} (h : Sp n B q σ) (x : Int32) : F_X5_type x σ = some (-1, σ) := by
  unfold F_X5_type
  obtain ⟨r, hr⟩ := next_stop h
  rw [hr, b1_some, stopped_number h, stopped_number h, b2_some]
  simp only [ite_self]
theorem typeNothing_X {n p : Nat} {B : Nat → Nat} {σ τ : St} (h : Sy n B p σ τ) {C : Nat} (hC : C ≤ 32) : (p < n ∧ (B p = 255 ∨ okType C (B p)) → F_X5_typeOrNothing (nI C) σ = some (nI (B p), st σ 2 2 (nI (p + 1)))) ∧ (¬ (p < n ∧ (B p = 255 ∨ okType C (B p))) → F_X5_typeOrNothing (nI C) σ = some (-1, st σ 2 3 1)) := by
  unfold F_X5_typeOrNothing
  by_cases hp : p < n
  · have hb := (h.2.1.2.2.2.1 p hp).1
    rw [next_in h hp, b1_some, show (255 : Int32) = nI 255 from rfl, if_eq (by omega) (by omega), number_X h]
    by_cases h255 : B p = 255
    · rw [if_pos h255, if_pos ⟨hp, by rw [h255]; exact nI_nlt (by omega) (by omega), by rw [h255]; exact nI_le (by omega) (by omega)⟩, b2_some]
      exact ⟨fun _ => rfl, fun q => absurd ⟨hp, Or.inl h255⟩ q⟩
    · rw [if_neg h255]
      constructor
      · rintro ⟨-, q⟩
        rw [(type_X h hC).1 ⟨hp, q.resolve_left h255⟩, b2_some]
      · intro q
        rw [(type_X h hC).2 (fun z => q ⟨z.1, Or.inr z.2⟩), b2_some]
  · rw [next_out h hp, b1_some, if_neg (by decide), (type_X h hC).2 (fun q => hp q.1), b2_some]
    exact ⟨fun q => absurd q.1 hp, fun _ => rfl⟩
theorem typeNothing_stop {n q : Nat} {B : Nat → Nat} {σ : St} (h : Sp n B q σ) (x : Int32) : F_X5_typeOrNothing x σ = some (-1, σ) := by
  unfold F_X5_typeOrNothing
  obtain ⟨r, hr⟩ := next_stop h
  rw [hr, b1_some, stopped_number h, type_stop h, b2_some]
  simp only [ite_self]
/-- the reference's side: over a type -/
theorem type_M {n p : Nat} {B : Nat → Nat} {σ τ : St} (h : Sy n B p σ τ) {C : Nat} (hC : C ≤ 32) (h8 : τ 0 8 = nI C) (x : Int32) (hx : x = 0 ∨ x = 1) : (p < n ∧ (okType C (B p) ∨ x = 1 ∧ B p = 255) → F_X8_overType x τ = some (1, st τ 0 5 (nI (p + 1)))) ∧ (¬ (p < n ∧ (okType C (B p) ∨ x = 1 ∧ B p = 255)) → F_X8_overType x τ = some (0, st τ 0 6 (nI p))) := by
  have h41 : F_X8_overType_41 τ = some (1, st τ 0 5 (nI (p + 1))) := by
    unfold F_X8_overType_41 F_X8_overType_46
    rw [if_neg (by decide), nm_eq, h.2.2.2.1]
    show some (1, st τ 0 5 (nI p + nI 1)) = _
    rw [nI_add]
  have h45 : F_X8_overType_45 τ = some (0, st τ 0 6 (nI p)) := by
    unfold F_X8_overType_45 F_X8_overType_46
    rw [if_pos rfl, h.2.2.2.1, bad_M h.2.2.2.2.1, b2_some, bo_0]
  have h30 : ∀ b : Nat, b < 2 ^ 31 → (x = 1 ∧ b = 255 → F_X8_overType_30 x (nI b) τ = some (1, st τ 0 5 (nI (p + 1)))) ∧ (¬ (x = 1 ∧ b = 255) → F_X8_overType_30 x (nI b) τ = some (0, st τ 0 6 (nI p))) := by
    intro b hb
    unfold F_X8_overType_30
    rw [h41, h45, show (255 : Int32) = nI 255 from rfl, if_eq hb (by omega)]
    constructor
    · rintro ⟨rfl, q⟩
      rw [if_neg (by decide), if_pos q]
    · intro q
      rcases hx with rfl | rfl
      · rw [if_pos rfl]
      · rw [if_neg (by decide), if_neg (fun z => q ⟨rfl, z⟩)]
  unfold F_X8_overType
  rw [h8, h41]
  by_cases hp : p < n
  · have hb := (h.2.1.2.2.2.1 p hp).1
    rw [here_in h hp, b1_some, if_le (by omega) (by omega), show (64 : Int32) = nI 64 from rfl, if_lt (by omega) (by omega), nI_add, if_le (by omega) (by omega)]
    have k := h30 (B p) (by omega)
    constructor
    · rintro ⟨-, q⟩
      by_cases a1 : B p ≤ C
      · rw [if_pos a1]
      · rw [if_neg a1]
        by_cases a2 : B p < 64
        · rw [if_pos a2]
          exact k.1 (q.resolve_left (fun z => by unfold okType at z; omega))
        · rw [if_neg a2]
          by_cases a3 : B p ≤ 64 + C
          · rw [if_pos a3]
          · rw [if_neg a3]
            exact k.1 (q.resolve_left (fun z => by unfold okType at z; omega))
    · intro q
      have q1 : ¬ okType C (B p) := fun z => q ⟨hp, Or.inl z⟩
      have q2 : ¬ (x = 1 ∧ B p = 255) := fun z => q ⟨hp, Or.inr z⟩
      unfold okType at q1
      rw [if_neg (by omega)]
      by_cases a2 : B p < 64
      · rw [if_pos a2]; exact k.2 q2
      · rw [if_neg a2, if_neg (by omega)]; exact k.2 q2
  · rw [here_out h hp, b1_some, show (256 : Int32) = nI 256 from rfl, if_le (by omega) (by omega), if_neg (by omega), show (64 : Int32) = nI 64 from rfl, if_lt (by omega) (by omega), if_neg (by omega), nI_add, if_le (by omega) (by omega), if_neg (by omega)]
    exact ⟨fun q => absurd q.1 hp, fun _ => (h30 256 (by omega)).2 (fun z => by omega)⟩
/-- rows that the readers don't look at -/
theorem Sy.cong {n p : Nat} {B : Nat → Nat} {σ τ σ' τ' : St} (h : Sy n B p σ τ) (h1 : σ' 1 = σ 1) (h2 : σ' 2 = σ 2) (h8 : σ' 8 = σ 8) (m0 : ∀ k, k = 1 ∨ k = 4 ∨ k = 5 ∨ k = 6 → τ' 0 k = τ 0 k) (m2 : τ' 2 = τ 2) : Sy n B p σ' τ' := by
  obtain ⟨a, ⟨b1, b2, b3, b4, b5⟩, ⟨c1, c2, c3, c4, c5⟩⟩ := h
  refine ⟨a, ⟨by rw [h2]; exact b1, by rw [h2]; exact b2, by rw [h2]; exact b3, ?_, by rw [h1]; exact b5⟩, by rw [m0 4 (by simp)]; exact c1, by rw [m0 5 (by simp)]; exact c2, by rw [m0 6 (by simp)]; exact c3, ?_, by rw [m0 1 (by simp)]; exact c5⟩
  · intro k hk; rw [h8]; exact b4 k hk
  · intro k hk; rw [m2]; exact c4 k hk
theorem Sp.cong {n q : Nat} {B : Nat → Nat} {σ σ' : St} (h : Sp n B q σ) (h1 : σ' 1 = σ 1) (h2 : σ' 2 = σ 2) (h8 : σ' 8 = σ 8) : Sp n B q σ' := by
  obtain ⟨a1, a2, a3, a4, a5, a6, a7⟩ := h
  refine ⟨a1, a2, by rw [h2]; exact a3, by rw [h2]; exact a4, by rw [h2]; exact a5, ?_, by rw [h1]; exact a7⟩
  intro k hk; rw [h8]; exact a6 k hk
theorem Sp.put {n q : Nat} {B : Nat → Nat} {σ : St} (h : Sp n B q σ) {c k : Nat} {v : Int32} (hc : c ≠ 1 ∧ c ≠ 2 ∧ c ≠ 8) : Sp n B q (st σ c k v) := h.cong (st_row (Ne.symm hc.1)) (st_row (Ne.symm hc.2.1)) (st_row (Ne.symm hc.2.2))
theorem Sy.putX {n p : Nat} {B : Nat → Nat} {σ τ : St} (h : Sy n B p σ τ) {c k : Nat} {v : Int32} (hc : c ≠ 1 ∧ c ≠ 2 ∧ c ≠ 8) : Sy n B p (st σ c k v) τ := h.cong (st_row (Ne.symm hc.1)) (st_row (Ne.symm hc.2.1)) (st_row (Ne.symm hc.2.2)) (fun _ _ => rfl) rfl
theorem Sy.putM {n p : Nat} {B : Nat → Nat} {σ τ : St} (h : Sy n B p σ τ) {c k : Nat} {v : Int32} (hc : c ≠ 2 ∧ (c ≠ 0 ∨ (k ≠ 1 ∧ k ≠ 4 ∧ k ≠ 5 ∧ k ≠ 6))) : Sy n B p σ (st τ c k v) := by
  refine h.cong rfl rfl rfl (fun j hj => ?_) (st_row (Ne.symm hc.1))
  rw [st_mis]
  rcases hc.2 with h0 | h0
  · exact Or.inl (Ne.symm h0)
  · right; intro e; subst e; omega
/-- a stretch of a row, filled -/
def fill (σ : St) (r lo hi : Nat) (g : Nat → Int32) : St := fun d i => if d = r ∧ lo ≤ i ∧ i < hi then g (i - lo) else σ d i
theorem fill_nil (σ : St) (r lo : Nat) (g : Nat → Int32) : fill σ r lo lo g = σ := by
  funext d i
  unfold fill
  rw [if_neg (by omega)]
theorem fill_row {σ : St} {r lo hi : Nat} {g : Nat → Int32} {d : Nat} (h : d ≠ r) : fill σ r lo hi g d = σ d := by
  funext i
  unfold fill
  rw [if_neg (fun q => h q.1)]
theorem fill_in {σ : St} {r lo hi : Nat} {g : Nat → Int32} {k : Nat} (h : lo + k < hi) : fill σ r lo hi g r (lo + k) = g k := by
  unfold fill
  rw [if_pos ⟨rfl, by omega, h⟩, show lo + k - lo = k by omega]
theorem fill_out {σ : St} {r lo hi : Nat} {g : Nat → Int32} {i : Nat} (h : i < lo ∨ hi ≤ i) : fill σ r lo hi g r i = σ r i := by
  unfold fill
  rw [if_neg (by omega)]
theorem fill_st {σ : St} {r lo k : Nat} {g : Nat → Int32} {v : Int32} (hv : v = g k) : st (fill σ r lo (lo + k) g) r (lo + k) v = fill σ r lo (lo + (k + 1)) g := by
  funext d i
  rw [st_app]
  unfold fill
  by_cases h : d = r ∧ i = lo + k
  · rw [if_pos h, if_pos ⟨h.1, by omega, by omega⟩, hv, h.2, show lo + k - lo = k by omega]
  · rw [if_neg h]
    by_cases h2 : d = r ∧ lo ≤ i ∧ i < lo + k
    · rw [if_pos h2, if_pos ⟨h2.1, h2.2.1, by omega⟩]
    · rw [if_neg h2, if_neg (fun q => h2 ⟨q.1, q.2.1, by
        rcases Nat.lt_or_ge i (lo + k) with z | z
        · exact z
        · exact absurd ⟨q.1, by omega⟩ h⟩)]
