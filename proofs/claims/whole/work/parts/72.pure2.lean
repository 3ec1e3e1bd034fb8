/-! the classes' tables: what a class has from above -/
theorem has_in {σ : St} {C c : Nat} (hC : C ≤ 32) (h3 : σ 3 0 = nI C) (hc : c < C) : F_X0_has (nI c) σ = some 1 := by
  unfold F_X0_has
  rw [if_neg0 (by omega), h3, if_le (by omega) (by omega), if_neg (by omega), show (32 : Int32) = nI 32 from rfl, if_le (by omega) (by omega), if_neg (by omega)]
theorem has_m1 {σ : St} : F_X0_has (-1) σ = some 0 := by
  unfold F_X0_has
  rw [if_pos (by decide)]
theorem fields_in {σ : St} {C c : Nat} (hC : C ≤ 32) (h3 : σ 3 0 = nI C) (hc : c < C) : F_X0_fields (nI c) σ = some (σ 10 c) := by
  unfold F_X0_fields
  rw [has_in hC h3 hc, b1_some, if_neg (by decide), ix_in (by omega) (by omega), nI_clamp (by omega)]
theorem fields_m1 {σ : St} : F_X0_fields (-1) σ = some (-1) := by
  unfold F_X0_fields
  rw [has_m1, b1_some, if_pos rfl]
theorem slotMethod_in {σ : St} {C c k : Nat} (hC : C ≤ 32) (h3 : σ 3 0 = nI C) (hc : c < C) (hk : k < 16) : F_X0_slotMethod (nI c) (nI k) σ = some (σ 12 (16 * c + k)) := by
  unfold F_X0_slotMethod
  rw [has_in hC h3 hc, b1_some, if_neg (by decide), if_neg0 (by omega), show (16 : Int32) = nI 16 from rfl, if_le (by omega) (by omega), if_neg (by omega), pk_mul, nI_add, ix_in (by omega) (by omega), nI_clamp (by omega), Nat.mul_comm c 16]
theorem slotMethod_m1 {σ : St} {x : Int32} : F_X0_slotMethod (-1) x σ = some (-1) := by
  unfold F_X0_slotMethod
  rw [has_m1, b1_some, if_pos rfl]
theorem fieldType_in {σ : St} {C c f k : Nat} (hC : C ≤ 32) (h3 : σ 3 0 = nI C) (hc : c < C) (hf : f ≤ 15) (h10 : σ 10 c = nI f) (hk : k < f) : F_X0_fieldType (nI c) (nI k) σ = some (σ 11 (15 * c + k)) := by
  unfold F_X0_fieldType
  rw [if_neg0 (by omega), fields_in hC h3 hc, b1_some, h10, if_le (by omega) (by omega), if_neg (by omega), show (15 : Int32) = nI 15 from rfl, pk_mul, nI_add, ix_in (by omega) (by omega), nI_clamp (by omega), Nat.mul_comm c 15]
/-- the upper class of class c, as both tables have it -/
def Up (c : Nat) (x : Int32) (e : Option Nat) : Prop := (x = -1 ∧ e = none) ∨ ∃ k, k < c ∧ x = nI k ∧ e = some k
/-- what comes from above into slot k -/
def slotUp (row : Nat → Int32) (e : Option Nat) (k : Nat) : Int32 := match e with
  | none => -1
  | some u => row (16 * u + k)
theorem inherit_slots {C c : Nat} (hC : C ≤ 32) (hc : c < C) {x : Int32} {e : Option Nat} (hU : Up c x e) (σ : St) (h3 : σ 3 0 = nI C) :
    ∀ (j k m : Nat), k + j = 16 → j < m → F_X0_inherit_61 m (nI c) x (nI k) (fill (fill σ 12 (16 * c) (16 * c + k) (slotUp (σ 12) e)) 13 (16 * c) (16 * c + k) (fun _ => -1)) = some (fill (fill σ 12 (16 * c) (16 * c + 16) (slotUp (σ 12) e)) 13 (16 * c) (16 * c + 16) (fun _ => -1)) := by
  intro j
  induction j with
  | zero =>
    intro k m hk hm
    obtain ⟨m, rfl⟩ : ∃ m', m = m' + 1 := ⟨m - 1, by omega⟩
    rw [F_X0_inherit_61, show (16 : Int32) = nI 16 from rfl, if_le (by omega) (by omega), if_pos (by omega)]
    rw [show k = 16 by omega]
  | succ j ih =>
    intro k m hk hm
    obtain ⟨m, rfl⟩ : ∃ m', m = m' + 1 := ⟨m - 1, by omega⟩
    rw [F_X0_inherit_61, show (16 : Int32) = nI 16 from rfl, if_le (by omega) (by omega), if_neg (by omega)]
    generalize hσ' : fill (fill σ 12 (16 * c) (16 * c + k) (slotUp (σ 12) e)) 13 (16 * c) (16 * c + k) (fun _ => -1) = σ'
    have h3' : σ' 3 0 = nI C := by rw [← hσ', fill_row (by decide), fill_row (by decide), h3]
    have hsl : F_X0_slotMethod x (nI k) σ' = some (slotUp (σ 12) e k) := by
      rcases hU with ⟨rfl, rfl⟩ | ⟨u, hu, rfl, rfl⟩
      · exact slotMethod_m1
      · rw [slotMethod_in hC h3' (by omega) (by omega), ← hσ', fill_row (by decide), fill_out (by omega)]
        rfl
    rw [hsl, b1_some, pk_mul, nI_add, ix_in (by omega) (by omega), nm_eq, ix_in (by omega) (by omega), nm_eq, nm_eq, nI_clamp (by omega), Nat.mul_comm c 16]
    have e1 : st (st σ' 12 (16 * c + k) (slotUp (σ 12) e k)) 13 (16 * c + k) (-1) = fill (fill σ 12 (16 * c) (16 * c + (k + 1)) (slotUp (σ 12) e)) 13 (16 * c) (16 * c + (k + 1)) (fun _ => -1) := by
      rw [← hσ', ← fill_st (σ := σ) (r := 12) (lo := 16 * c) (k := k) (g := slotUp (σ 12) e) rfl]
      rw [← fill_st (σ := st (fill σ 12 (16 * c) (16 * c + k) (slotUp (σ 12) e)) 12 (16 * c + k) (slotUp (σ 12) e k)) (r := 13) (lo := 16 * c) (k := k) (g := fun _ => (-1 : Int32)) rfl]
      congr 1
      funext d i
      simp only [st_app, fill]
      by_cases a1 : d = 12 ∧ i = 16 * c + k
      · rw [if_pos a1, if_neg (by omega), if_pos a1]
      · rw [if_neg a1]
        by_cases a2 : d = 13 ∧ 16 * c ≤ i ∧ i < 16 * c + k
        · rw [if_pos a2, if_pos a2]
        · rw [if_neg a2, if_neg a2, if_neg a1]
    rw [e1, show nI k + 1 = nI (k + 1) from nI_1 k]
    exact ih (k + 1) m (by omega) (by omega)
def fieldUp (row : Nat → Int32) (e : Option Nat) (k : Nat) : Int32 := match e with
  | none => 0
  | some u => row (15 * u + k)
/-- how many fields come from above -/
def cntUp (row : Nat → Int32) (e : Option Nat) (f : Nat) : Prop := match e with
  | none => f = 0
  | some u => row u = nI f
theorem inherit_fields {C c f : Nat} (hC : C ≤ 32) (hc : c < C) (hf : f ≤ 15) {x : Int32} {e : Option Nat} (hU : Up c x e) (σ : St) (h3 : σ 3 0 = nI C) (hF : cntUp (σ 10) e f) :
    ∀ (j k m : Nat), k + j = f → j < m → F_X0_inherit_27 m (nI c) x (nI f) (nI k) (fill σ 11 (15 * c) (15 * c + k) (fieldUp (σ 11) e)) = F_X0_inherit_61 fu (nI c) x 0 (fill σ 11 (15 * c) (15 * c + f) (fieldUp (σ 11) e)) := by
  intro j
  induction j with
  | zero =>
    intro k m hk hm
    obtain ⟨m, rfl⟩ : ∃ m', m = m' + 1 := ⟨m - 1, by omega⟩
    rw [F_X0_inherit_27, if_le (by omega) (by omega), if_pos (by omega), show k = f by omega]
  | succ j ih =>
    intro k m hk hm
    obtain ⟨m, rfl⟩ : ∃ m', m = m' + 1 := ⟨m - 1, by omega⟩
    rw [F_X0_inherit_27, if_le (by omega) (by omega), if_neg (by omega)]
    rcases hU with ⟨rfl, rfl⟩ | ⟨u, hu, rfl, rfl⟩
    · have h0 : f = 0 := hF
      omega
    · have hF' : σ 10 u = nI f := hF
      have hft : F_X0_fieldType (nI u) (nI k) (fill σ 11 (15 * c) (15 * c + k) (fieldUp (σ 11) (some u))) = some (fieldUp (σ 11) (some u) k) := by
        rw [fieldType_in hC (by rw [fill_row (by decide), h3]) (by omega) hf (by rw [fill_row (by decide), hF']) (by omega), fill_out (by omega)]
        rfl
      rw [hft, b1_some, show (15 : Int32) = nI 15 from rfl, pk_mul, nI_add, ix_in (by omega) (by omega), nm_eq, nm_eq, nI_clamp (by omega), Nat.mul_comm c 15, fill_st rfl, show nI k + 1 = nI (k + 1) from nI_1 k]
      exact ih (k + 1) m (by omega) (by omega)
/-- the class' tables when its upper class is known: what inherit makes -/
def inh (σ : St) (c f : Nat) (e : Option Nat) : St := fill (fill (fill (st σ 10 c (nI f)) 11 (15 * c) (15 * c + f) (fieldUp (σ 11) e)) 12 (16 * c) (16 * c + 16) (slotUp (σ 12) e)) 13 (16 * c) (16 * c + 16) (fun _ => -1)
theorem inherit_X {C c f : Nat} (hC : C ≤ 32) (hc : c < C) (hf : f ≤ 15) {e : Option Nat} (σ : St) (hU : Up c (σ 9 c) e) (h3 : σ 3 0 = nI C) (hF : cntUp (σ 10) e f) : F_X0_inherit (nI c) σ = some (inh σ c f e) := by
  unfold F_X0_inherit
  rw [ix_in (by omega) (by omega), nm_eq, nI_clamp (by omega)]
  have hfl : ∃ r, F_X0_fields (σ 9 c) σ = some r ∧ (if r < 0 then (0 : Int32) else r) = nI f := by
    rcases hU with ⟨h1, rfl⟩ | ⟨u, hu, h1, rfl⟩
    · have h0 : f = 0 := hF
      subst h0
      rw [h1]
      exact ⟨-1, fields_m1, rfl⟩
    · have hF' : σ 10 u = nI f := hF
      rw [h1]
      exact ⟨nI f, by rw [fields_in hC h3 (by omega), hF'], by rw [if_neg (nI_pos (by omega))]⟩
  obtain ⟨r, hr1, hr2⟩ := hfl
  rw [hr1, b1_some, nm_eq, hr2, ix_in (by omega) (by omega), nm_eq]
  have hF2 : cntUp ((st σ 10 c (nI f)) 10) e f := by
    cases e with
    | none => exact hF
    | some u =>
      rcases hU with ⟨-, q⟩ | ⟨u', hu, -, q⟩
      · cases q
      · cases q
        show st σ 10 c (nI f) 10 u = nI f
        rw [st_mis (Or.inr (by omega))]
        exact hF
  have k1 := inherit_fields hC hc hf hU (st σ 10 c (nI f)) (by rw [st_mis (Or.inl (by decide)), h3]) hF2 f 0 fu (by omega) (by rw [show fu = 9000 from rfl]; omega)
  rw [show (15 * c + 0) = 15 * c from rfl, fill_nil] at k1
  rw [show (0 : Int32) = nI 0 from rfl, k1]
  have k2 := inherit_slots hC hc hU (fill (st σ 10 c (nI f)) 11 (15 * c) (15 * c + f) (fieldUp ((st σ 10 c (nI f)) 11) e)) (by rw [fill_row (by decide), st_mis (Or.inl (by decide)), h3]) 16 0 fu rfl (by rw [show fu = 9000 from rfl]; omega)
  rw [show (16 * c + 0) = 16 * c from rfl, fill_nil, fill_nil] at k2
  rw [show (0 : Int32) = nI 0 from rfl, k2]
  unfold inh
  rw [fill_row (by decide), st_row (by decide), st_row (by decide)]
