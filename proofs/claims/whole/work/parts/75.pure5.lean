/-! a class is read -/
/-- class d as both tables have it: its upper class, its fields, its slots; e its upper class, [lo, hi) its bytes -/
def Cls (C d lo hi : Nat) (σ τ : St) : Prop := ∃ (e : Option Nat) (f : Nat), Up d (σ 9 d) e ∧ τ 4 d = σ 9 d ∧ f ≤ 15 ∧ σ 10 d = nI f ∧ τ 5 d = nI f ∧ (∀ k, k < f → σ 11 (15 * d + k) = τ 6 (15 * d + k)) ∧ Slots d lo hi 16 (slotUp (σ 12) e) σ τ
/-- all classes below c are read; pt d is where class d begins -/
def Tab (C c : Nat) (pt : Nat → Nat) (σ τ : St) : Prop := σ 3 0 = nI C ∧ τ 0 8 = nI C ∧ C ≤ 32 ∧ c ≤ C ∧ (∀ d, d < c → pt d ≤ pt (d + 1)) ∧ ∀ d, d < c → Cls C d (pt d) (pt (d + 1)) σ τ
theorem slotUp_eq {r r' : Nat → Int32} {c d : Nat} {x : Int32} {e : Option Nat} (hU : Up d x e) (hd : d ≤ c) (h : ∀ i, i < 16 * c → r' i = r i) : ∀ k, k < 16 → slotUp r' e k = slotUp r e k := by
  intro k hk
  rcases hU with ⟨-, rfl⟩ | ⟨u, hu, -, rfl⟩
  · rfl
  · exact h _ (by omega)
theorem Slots.up {c lo p s : Nat} {up up' : Nat → Int32} {σ τ : St} (h : Slots c lo p s up σ τ) (he : ∀ k, k < 16 → up k = up' k) : Slots c lo p s up' σ τ := by
  refine ⟨fun k hk => ?_, h.2⟩
  obtain ⟨a, b, d⟩ := h.1 k hk
  refine ⟨a, b, d.imp (fun z => ⟨z.1, by rw [← he k hk]; exact z.2⟩) id⟩
/-- classes below c stay as they are when only rows from class c on change -/
theorem Cls.keep {C c d lo hi : Nat} {σ τ σ' τ' : St} (h : Cls C d lo hi σ τ) (hd : d < c) (x9 : ∀ i, i < c → σ' 9 i = σ 9 i) (x10 : ∀ i, i < c → σ' 10 i = σ 10 i) (x11 : ∀ i, i < 15 * c → σ' 11 i = σ 11 i) (x12 : ∀ i, i < 16 * c → σ' 12 i = σ 12 i) (x13 : ∀ i, i < 16 * c → σ' 13 i = σ 13 i) (m4 : ∀ i, i < c → τ' 4 i = τ 4 i) (m5 : ∀ i, i < c → τ' 5 i = τ 5 i) (m6 : ∀ i, i < 15 * c → τ' 6 i = τ 6 i) (m7 : ∀ i, i < 16 * c → τ' 7 i = τ 7 i) (m8 : ∀ i, i < 16 * c → τ' 8 i = τ 8 i) : Cls C d lo hi σ' τ' := by
  obtain ⟨e, f, h1, h2, h3, h4, h5, h6, h7⟩ := h
  refine ⟨e, f, by rw [x9 d hd]; exact h1, by rw [m4 d hd, x9 d hd]; exact h2, h3, by rw [x10 d hd]; exact h4, by rw [m5 d hd]; exact h5, ?_, ?_⟩
  · intro k hk
    rw [x11 _ (by omega), m6 _ (by omega)]
    exact h6 k hk
  · have h8 := h7.up (up' := slotUp (σ' 12) e) (fun k hk => (slotUp_eq h1 (Nat.le_of_lt hd) x12 k hk).symm)
    refine ⟨fun k hk => ?_, fun k k' hkk hk' => ?_⟩
    · rw [x12 _ (by omega), x13 _ (by omega), m7 _ (by omega), m8 _ (by omega)]
      exact h8.1 k hk
    · rw [x13 _ (by omega), x13 _ (by omega)]
      exact h8.2 k k' hkk hk'
theorem readFields63 {σ : St} {c f o : Nat} (hc : c < 32) (hfo : f + o ≤ 15) : F_X0_readFields_63 (nI c) (nI f) (nI o) σ = some (st σ 10 c (nI (f + o))) := by
  unfold F_X0_readFields_63
  rw [ix_in (by omega) (by omega), nm_eq, nI_clamp (by omega), if_neg (nI_pos (by omega)), nI_add]
theorem readSlots_stop {n q : Nat} {B : Nat → Nat} {σ : St} (h : Sp n B q σ) (x : Int32) : F_X0_readSlots x σ = some σ := by
  unfold F_X0_readSlots
  rw [stopped_number h, b2_some, show fu = 8999 + 1 from rfl, F_X0_readSlots_14, if_pos (by decide)]
theorem readFields_stop {n q : Nat} {B : Nat → Nat} {σ : St} (h : Sp n B q σ) {c f : Nat} (hc : c < 32) (hf : f ≤ 15) (h10 : σ 10 c = nI f) : F_X0_readFields (nI c) σ = some (st σ 10 c (nI f)) := by
  unfold F_X0_readFields
  rw [ix_in (by omega) (by omega), nm_eq, nI_clamp (by omega), h10, stopped_number h, b2_some, show fu = 8999 + 1 from rfl, F_X0_readFields_21, if_pos (by decide)]
  unfold F_X0_readFields_63
  rw [ix_in (by omega) (by omega), nm_eq, nI_clamp (by omega), if_pos (by decide)]
  show some (st σ 10 c (nI f + nI 0)) = _
  rw [nI_add, Nat.add_zero]
theorem inh_row {σ : St} {c f : Nat} {e : Option Nat} {d : Nat} (h : d ≠ 10 ∧ d ≠ 11 ∧ d ≠ 12 ∧ d ≠ 13) : inh σ c f e d = σ d := by
  unfold inh
  rw [fill_row h.2.2.2, fill_row h.2.2.1, fill_row h.2.1, st_row h.1]
/-- the reference: the fields that come from above -/
theorem copy_M {c f : Nat} (hc : c < 32) (hf : f ≤ 15) {x : Int32} {e : Option Nat} (hU : Up c x e) (τ : St) (hF : e = none → f = 0) :
    ∀ (j k m : Nat), k + j = f → j < m → F_X8_readClass_86 m (nI c) x (nI f) (nI k) (fill τ 6 (15 * c) (15 * c + k) (fieldUp (τ 6) e)) = F_X8_readClass_86 1 (nI c) x (nI f) (nI f) (fill τ 6 (15 * c) (15 * c + f) (fieldUp (τ 6) e)) := by
  intro j
  induction j with
  | zero =>
    intro k m hk hm
    obtain ⟨m, rfl⟩ : ∃ m', m = m' + 1 := ⟨m - 1, by omega⟩
    rw [show k = f by omega, F_X8_readClass_86, F_X8_readClass_86, if_pos (nI_le (Nat.le_refl _) (by omega)), if_pos (nI_le (Nat.le_refl _) (by omega))]
  | succ j ih =>
    intro k m hk hm
    obtain ⟨m, rfl⟩ : ∃ m', m = m' + 1 := ⟨m - 1, by omega⟩
    rcases hU with ⟨rfl, rfl⟩ | ⟨u, hu, rfl, rfl⟩
    · have := hF rfl
      omega
    · rw [F_X8_readClass_86, if_le (by omega) (by omega), if_neg (by omega), show (15 : Int32) = nI 15 from rfl, pk_mul, nI_add, pk_mul, nI_add, ix_in (by omega) (by omega), ix_in (by omega) (by omega), nm_eq, nm_eq, nI_clamp (by omega), nI_clamp (by omega), fill_out (by omega), show τ 6 (15 * u + k) = fieldUp (τ 6) (some u) k from rfl, fill_st rfl, show nI k + 1 = nI (k + 1) from nI_1 k]
      exact ih (k + 1) m (by omega) (by omega)
/-- the reference: the slots that come from above -/
theorem slots_M {c : Nat} (hc : c < 32) {x : Int32} {e : Option Nat} (hU : Up c x e) (τ : St) :
    ∀ (j k m : Nat), k + j = 16 → j < m → F_X8_readClass_197 m (nI c) x (nI k) (fill (fill τ 7 (16 * c) (16 * c + k) (slotUp (τ 7) e)) 8 (16 * c) (16 * c + k) (fun _ => -1)) = F_X8_readClass_197 1 (nI c) x (nI 16) (fill (fill τ 7 (16 * c) (16 * c + 16) (slotUp (τ 7) e)) 8 (16 * c) (16 * c + 16) (fun _ => -1)) := by
  intro j
  induction j with
  | zero =>
    intro k m hk hm
    obtain ⟨m, rfl⟩ : ∃ m', m = m' + 1 := ⟨m - 1, by omega⟩
    rw [show k = 16 by omega, F_X8_readClass_197, F_X8_readClass_197, show (16 : Int32) = nI 16 from rfl, if_pos (nI_le (Nat.le_refl _) (by omega)), if_pos (nI_le (Nat.le_refl _) (by omega))]
  | succ j ih =>
    intro k m hk hm
    obtain ⟨m, rfl⟩ : ∃ m', m = m' + 1 := ⟨m - 1, by omega⟩
    generalize hτ' : fill (fill τ 7 (16 * c) (16 * c + k) (slotUp (τ 7) e)) 8 (16 * c) (16 * c + k) (fun _ => -1) = τ'
    have e1 : st (st τ' 7 (16 * c + k) (slotUp (τ 7) e k)) 8 (16 * c + k) (-1) = fill (fill τ 7 (16 * c) (16 * c + (k + 1)) (slotUp (τ 7) e)) 8 (16 * c) (16 * c + (k + 1)) (fun _ => -1) := by
      rw [← hτ', ← fill_st (σ := τ) (r := 7) (lo := 16 * c) (k := k) (g := slotUp (τ 7) e) rfl]
      rw [← fill_st (σ := st (fill τ 7 (16 * c) (16 * c + k) (slotUp (τ 7) e)) 7 (16 * c + k) (slotUp (τ 7) e k)) (r := 8) (lo := 16 * c) (k := k) (g := fun _ => (-1 : Int32)) rfl]
      congr 1
      funext d i
      simp only [st_app, fill]
      by_cases a1 : d = 7 ∧ i = 16 * c + k
      · rw [if_pos a1, if_neg (by omega), if_pos a1]
      · rw [if_neg a1]
        by_cases a2 : d = 8 ∧ 16 * c ≤ i ∧ i < 16 * c + k
        · rw [if_pos a2, if_pos a2]
        · rw [if_neg a2, if_neg a2, if_neg a1]
    have h235 : F_X8_readClass_235 (F_X8_readClass_197 m) (nI c) x (nI k) (slotUp (τ 7) e k) (nI 16 * nI c + nI k) τ' = F_X8_readClass_197 m (nI c) x (nI (k + 1)) (fill (fill τ 7 (16 * c) (16 * c + (k + 1)) (slotUp (τ 7) e)) 8 (16 * c) (16 * c + (k + 1)) (fun _ => -1)) := by
      unfold F_X8_readClass_235
      rw [show (16 : Int32) = nI 16 from rfl, pk_mul, nI_add]
      have hix : ∀ {α : Type} (x : Option α), ix 512 (nI (16 * c + k)) x = x := fun x => ix_in (by omega) (by omega)
      have hcl : (nI (16 * c + k)).toNatClampNeg = 16 * c + k := nI_clamp (by omega)
      simp only [hix, nm_eq, hcl]
      rw [e1, show nI k + 1 = nI (k + 1) from nI_1 k]
    rw [F_X8_readClass_197, show (16 : Int32) = nI 16 from rfl, if_le (by omega) (by omega), if_neg (by omega)]
    rcases hU with ⟨rfl, rfl⟩ | ⟨u, hu, rfl, rfl⟩
    · rw [if_neg (by decide)]
      have h := h235
      rw [show slotUp (τ 7) none k = -1 from rfl] at h
      rw [h]
      exact ih (k + 1) m (by omega) (by omega)
    · rw [if_pos (nI_pos' (by omega)), pk_mul, nI_add, ix_in (by omega) (by omega), nI_clamp (by omega)]
      have hv : τ' 7 (16 * u + k) = slotUp (τ 7) (some u) k := by
        rw [← hτ', fill_row (by decide), fill_out (by omega)]
        rfl
      rw [hv, h235]
      exact ih (k + 1) m (by omega) (by omega)
