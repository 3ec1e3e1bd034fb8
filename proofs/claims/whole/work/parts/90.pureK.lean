/-! the second phase: the first misfit. What the reference has noted so far, and what the class answers -/
def Wn (w : Option Nat) (τ : St) : St := match w with
  | none => τ
  | some q => st τ 0 6 (nI q)
def cd (w : Option Nat) : Int32 := match w with
  | none => -1
  | some q => nI q
/-- one check more, at place t -/
def nx (w : Option Nat) (t : Nat) (r : Int32) : Option Nat := match w with
  | some q => some q
  | none => if r = 0 then some t else none
theorem Wn_row {w : Option Nat} {τ : St} {d : Nat} (h : d ≠ 0) : Wn w τ d = τ d := by
  cases w with
  | none => rfl
  | some q => exact st_row h
theorem Wn_0 {w : Option Nat} {τ : St} {k : Nat} (h : k ≠ 6) : Wn w τ 0 k = τ 0 k := by
  cases w with
  | none => rfl
  | some q => exact st_mis (Or.inr h)
theorem nx_ok {w : Option Nat} {t : Nat} {r : Int32} (h : ¬ r = 0) : nx w t r = w := by
  cases w with
  | none => exact if_neg h
  | some q => rfl
theorem nx_bad {t : Nat} {r : Int32} (h : r = 0) : nx none t r = some t := if_pos h
theorem nx_some {q t : Nat} {r : Int32} : nx (some q) t r = some q := rfl
theorem nx_le {w : Option Nat} {t : Nat} {r : Int32} (hw : ∀ q, w = some q → q ≤ t) : ∀ q, nx w t r = some q → q ≤ t := by
  intro q h
  cases w with
  | some q' => exact hw q h
  | none =>
    by_cases c : r = 0
    · rw [nx_bad c] at h
      injection h with h
      omega
    · rw [nx_ok c] at h
      exact absurd h (by simp)
theorem note_M {w : Option Nat} {τ : St} {t : Nat} {r : Int32} (h6 : τ 0 6 = -1) (ht : t < 2 ^ 31) (hw : ∀ q, w = some q → q ≤ t) : F_X8_note (nI t) r (Wn w τ) = some (Wn (nx w t r) τ) := by
  unfold F_X8_note
  by_cases c : r = 0
  · rw [if_pos c]
    cases w with
    | none =>
      have e : Wn none τ = τ := rfl
      rw [e, h6, if_pos (by decide), nx_bad c]
      rfl
    | some q =>
      have hq := hw q rfl
      have e : Wn (some q) τ = st τ 0 6 (nI q) := rfl
      rw [e, st_hit, if_neg0 (by omega), if_le (by omega) ht, if_pos hq, nm_eq, st_st]
      rfl
  · rw [if_neg c, nx_ok c, nm_eq, st_self rfl]
theorem Wn_img {n C M : Nat} {B pt pm : Nat → Nat} {σ τ : St} {w : Option Nat} (h : Img n B C M pt pm σ τ) : Img n B C M pt pm σ (Wn w τ) := by
  obtain ⟨⟨a1, a2, a3, a4, a5⟩, ⟨b1, b2, b3⟩, ⟨c1, c2, c3, c4, c5, c6, c7⟩, d1, e1, f1, g1⟩ := h
  refine ⟨⟨a1, a2, ?_, a4, ?_⟩, ⟨b1, ?_, ?_⟩, ⟨c1, c2, c3, ?_, ⟨c5.1, fun d hd => ?_⟩, c6, c7⟩, ?_, ?_, ?_, ?_⟩
  · rw [Wn_0 (by decide)]; exact a3
  · intro k hk; rw [Wn_row (by decide)]; exact a5 k hk
  · exact b2.cong rfl rfl rfl rfl rfl rfl (Wn_0 (by decide)) (Wn_row (by decide)) (Wn_row (by decide)) (Wn_row (by decide)) (Wn_row (by decide)) (Wn_row (by decide))
  · intro j hj; rw [Wn_row (by decide)]; exact b3 j hj
  · rw [Wn_0 (by decide)]; exact c4
  · exact (c5.2 d hd).keep (m := d + 1) (by omega) (fun _ _ _ _ _ _ => rfl) (fun _ _ => rfl) (fun r h0 _ _ => by rw [Wn_row h0]) (fun _ _ => by rw [Wn_row (by decide)]) (fun _ _ => by rw [Wn_row (by decide)])
  · intro q hq; rw [Wn_row (by decide)]; exact d1 q hq
  · rw [Wn_0 (by decide)]; exact e1
  · rw [Wn_0 (by decide)]; exact f1
  · obtain ⟨f, hf, e⟩ := g1
    exact ⟨f, hf, by rw [Wn_0 (by decide)]; exact e⟩
/-! two methods with the same signature -/
theorem param_in {σ : St} {a P k : Nat} (ha : a < 64) (hP : P ≤ 8) (h : σ 16 a = nI P) (hk : k < P) : F_X3_parameterType (nI a) (nI k) σ = some (σ 17 (8 * a + k)) := by
  unfold F_X3_parameterType
  rw [if_neg0 (by omega), ix_in (by omega) (by omega), nI_clamp (by omega), h, if_le (by omega) (by omega), if_neg (by omega), show (8 : Int32) = nI 8 from rfl, if_le (by omega) (by omega), if_neg (by omega), pk_mul, nI_add, ix_in (by omega) (by omega), nI_clamp (by omega), Nat.mul_comm a 8]
theorem like_loop {a b P : Nat} {σ τ : St} (ha : a < 64) (hb : b < 64) (hP : P ≤ 8) (xa : σ 16 a = nI P) (xb : σ 16 b = nI P) (ma : τ 11 a = nI P) (ea : ∀ k, k < P → σ 17 (8 * a + k) = τ 12 (8 * a + k)) (eb : ∀ k, k < P → σ 17 (8 * b + k) = τ 12 (8 * b + k)) :
    ∀ (j k m1 m2 : Nat), P - k ≤ j → j < m1 → j < m2 → k ≤ 9 → ∃ r : Int32, (r = 0 ∨ r = 1) ∧ F_X3_standsFor_50 m1 (nI a) (nI b) (nI k) σ = some r ∧ F_X8_isLike_39 m2 (nI a) (nI b) 1 (nI k) τ = some r := by
  intro j
  induction j with
  | zero =>
    intro k m1 m2 hk h1 h2 hk9
    obtain ⟨m1, rfl⟩ : ∃ m', m1 = m' + 1 := ⟨m1 - 1, by omega⟩
    obtain ⟨m2, rfl⟩ : ∃ m', m2 = m' + 1 := ⟨m2 - 1, by omega⟩
    refine ⟨1, Or.inr rfl, ?_, ?_⟩
    · rw [F_X3_standsFor_50, ix_in (by omega) (by omega), nI_clamp (by omega), xa, if_le (by omega) (by omega), if_pos (by omega)]
    · rw [F_X8_isLike_39, ix_in (by omega) (by omega), nI_clamp (by omega), ma, if_le (by omega) (by omega), if_pos (by omega), bo_1]
  | succ j ih =>
    intro k m1 m2 hk h1 h2 hk9
    obtain ⟨m1, rfl⟩ : ∃ m', m1 = m' + 1 := ⟨m1 - 1, by omega⟩
    obtain ⟨m2, rfl⟩ : ∃ m', m2 = m' + 1 := ⟨m2 - 1, by omega⟩
    by_cases hkP : P ≤ k
    · refine ⟨1, Or.inr rfl, ?_, ?_⟩
      · rw [F_X3_standsFor_50, ix_in (by omega) (by omega), nI_clamp (by omega), xa, if_le (by omega) (by omega), if_pos (by omega)]
      · rw [F_X8_isLike_39, ix_in (by omega) (by omega), nI_clamp (by omega), ma, if_le (by omega) (by omega), if_pos (by omega), bo_1]
    · rw [F_X3_standsFor_50, ix_in (by omega) (by omega), nI_clamp (by omega), xa, if_le (by omega) (by omega), if_neg hkP, param_in ha hP xa (by omega), b1_some, param_in hb hP xb (by omega), b1_some, show nI k + 1 = nI (k + 1) from nI_1 k]
      rw [F_X8_isLike_39, ix_in (by omega) (by omega), nI_clamp (by omega), ma, if_le (by omega) (by omega), if_neg hkP, if_neg (show ¬ (1 : Int32) = 0 by decide), show (8 : Int32) = nI 8 from rfl, pk_mul, pk_mul, nI_add, nI_add, ix_in (by omega) (by omega), ix_in (by omega) (by omega), nI_clamp (by omega), nI_clamp (by omega), ← ea k (by omega), ← eb k (by omega)]
      unfold F_X8_isLike_86
      rw [nm_eq, nm_eq, show nI k + 1 = nI (k + 1) from nI_1 k]
      by_cases c : σ 17 (8 * a + k) = σ 17 (8 * b + k)
      · rw [if_pos c, if_pos c]
        exact ih (k + 1) m1 m2 (by omega) (by omega) (by omega) (by omega)
      · rw [if_neg c, if_neg c]
        refine ⟨0, Or.inl rfl, rfl, ?_⟩
        obtain ⟨m2, rfl⟩ : ∃ m', m2 = m' + 1 := ⟨m2 - 1, by omega⟩
        show F_X8_isLike_39 (m2 + 1) (nI a) (nI b) 0 (nI (k + 1)) τ = some 0
        rw [F_X8_isLike_39, ix_in (by omega) (by omega), bo_0]
        by_cases z : τ 11 ((nI a).toNatClampNeg) ≤ nI (k + 1)
        · rw [if_pos z]
        · rw [if_neg z, if_pos rfl]
theorem like_both {n C M a b : Nat} {B pt pm : Nat → Nat} {σ τ : St} (hI : Img n B C M pt pm σ τ) (ha : a < M) (hb : b < M) : ∃ r : Int32, (r = 0 ∨ r = 1) ∧ F_X3_standsFor (nI a) (nI b) σ = some r ∧ F_X8_isLike (nI a) (nI b) τ = some r := by
  obtain ⟨-, -, ⟨-, hM, h4, h15, hMs, -⟩, -⟩ := hI
  obtain ⟨⟨P, L, a1, a2, a3, a4, a5, a6, a7, -⟩, -⟩ := hMs.2 a ha
  obtain ⟨⟨P', L', c1, c2, c3, c4, c5, c6, c7, -⟩, -⟩ := hMs.2 b hb
  have hfu : fu = 9000 := rfl
  have e34 : F_X8_isLike_34 (nI a) (nI b) τ = some 0 := by
    unfold F_X8_isLike_34 F_X8_isLike_35
    rw [show fu = 8999 + 1 from rfl, F_X8_isLike_39, ix_in (by omega) (by omega), bo_0]
    by_cases z : τ 11 ((nI a).toNatClampNeg) ≤ 1
    · rw [if_pos z]
    · rw [if_neg z, if_pos rfl]
  unfold F_X3_standsFor F_X8_isLike
  rw [hasM_in hM h4 ha, b1_some, if_neg (by decide), hasM_in hM h4 hb, b1_some, if_neg (by decide)]
  simp only [ix_in (show a < 64 by omega) (show 64 < 2 ^ 31 by omega), ix_in (show b < 64 by omega) (show 64 < 2 ^ 31 by omega), nI_clamp (show a < 2 ^ 31 by omega), nI_clamp (show b < 2 ^ 31 by omega)]
  rw [a4, c4, a5, c5, ← a7, ← c7, if_eq (by omega) (by omega), if_eq (by omega) (by omega), e34]
  by_cases cP : P = P'
  · subst cP
    rw [if_pos rfl, if_pos rfl]
    by_cases cg : σ 18 a = σ 18 b
    · rw [if_pos cg, if_pos cg]
      unfold F_X8_isLike_35
      exact like_loop (by omega) (by omega) a3 a4 c4 a5 a6 c6 8 1 fu fu (by omega) (by omega) (by omega) (by omega)
    · rw [if_neg cg, if_neg cg]
      exact ⟨0, Or.inl rfl, rfl, rfl⟩
  · rw [if_neg cP, if_neg cP]
    refine ⟨0, Or.inl rfl, ?_, rfl⟩
    by_cases cg : σ 18 a = σ 18 b
    · rw [if_pos cg]
    · rw [if_neg cg]
/-! the slots -/
theorem slot_vals {C : Nat} {pt : Nat → Nat} {σ τ : St} (hT : Tab C C pt σ τ) : ∀ (N d : Nat), d < N → d < C → ∀ k, k < 16 → σ 12 (16 * d + k) = -1 ∨ ∃ b, b < 256 ∧ σ 12 (16 * d + k) = nI b := by
  intro N
  induction N with
  | zero => intro d h; omega
  | succ N ih =>
    intro d hN hd k hk
    obtain ⟨e, f, hU, -, -, -, -, -, hS⟩ := hT.2.2.2.2.2 d hd
    obtain ⟨-, -, hc⟩ := hS.1 k hk
    rcases hc with ⟨-, hv⟩ | ⟨-, q, b, -, -, -, hv, hb⟩
    · rcases hU with ⟨-, rfl⟩ | ⟨u, hu, -, rfl⟩
      · exact Or.inl hv
      · rw [hv]
        exact ih u (by omega) (by omega) k hk
    · exact Or.inr ⟨b, hb, hv⟩
/-- the rest of fitsSlot once the slot's method b and the upper class' method v are known -/
def X_fit (c b : Nat) (v : Int32) (u0 : St) : Option Int32 := b1 (F_X3_has (nI b) u0) fun r8 => (if r8 = 0 then (some 0) else (ix 64 (nI b) (if (u0 15 (nI b).toNatClampNeg) = nI c then (if v = (-1) then (F_X3_fitsSlot_57 u0) else (b1 (F_X3_standsFor (nI b) v u0) fun r14 => (if r14 = 0 then (some 0) else (F_X3_fitsSlot_57 u0)))) else (some 0))))
theorem slot67 {n C M c b : Nat} {B pt pm : Nat → Nat} {σ τ : St} {v x1 : Int32} (hI : Img n B C M pt pm σ τ) (hb : b < 256) (hv : v = -1 ∨ ∃ b', b' < 256 ∧ v = nI b') (k2 : Int32 → St → Option St) :
    ∃ r : Int32, (r = 0 ∨ r = 1) ∧ F_X8_checkSlots_67 k2 x1 (nI c) (nI b) v τ = F_X8_checkSlots_117 k2 x1 r τ ∧ (r = 1 → b < M) ∧ ((v = -1 ∨ ∃ b', b' < M ∧ v = nI b') → X_fit c b v σ = some r) := by
  have hI' := hI
  obtain ⟨-, -, ⟨-, hM, h4, h15, hMs, -⟩, -⟩ := hI'
  unfold F_X8_checkSlots_67 X_fit
  rw [h15, if_le (by omega) (by omega)]
  by_cases cb : M ≤ b
  · rw [if_pos cb, hasM_out hM h4 cb (by omega), b1_some, if_pos rfl]
    exact ⟨0, Or.inl rfl, rfl, fun z => absurd z (by decide), fun _ => rfl⟩
  · obtain ⟨⟨P, L, a1, a2, -⟩, -⟩ := hMs.2 b (by omega)
    rw [if_neg cb, hasM_in hM h4 (by omega), b1_some, if_neg (show ¬ (1 : Int32) = 0 by decide), ix_in (by omega) (by omega), ix_in (by omega) (by omega), nI_clamp (by omega), ← a1]
    by_cases co : σ 15 b = nI c
    · rw [if_pos co, if_pos co]
      by_cases cv : v = -1
      · rw [if_pos cv, if_pos cv]
        exact ⟨1, Or.inr rfl, rfl, fun _ => by omega, fun _ => rfl⟩
      · rw [if_neg cv, if_neg cv]
        rcases hv with z | ⟨b', hb', z⟩
        · exact absurd z cv
        · rw [z, if_le (by omega) (by omega)]
          by_cases cb' : M ≤ b'
          · rw [if_pos cb']
            refine ⟨1, Or.inr rfl, rfl, fun _ => by omega, ?_⟩
            rintro (y | ⟨b2, hb2, y⟩)
            · exact absurd y (ne_m1 (by omega))
            · have := (nI_eq (by omega) (by omega)).mp y
              omega
          · rw [if_neg cb']
            obtain ⟨r, hr, e1, e2⟩ := like_both hI (a := b) (b := b') (by omega) (by omega)
            rw [e1, e2, b1_some, b1_some]
            rcases hr with rfl | rfl
            · rw [if_pos rfl, if_pos rfl]
              exact ⟨0, Or.inl rfl, rfl, fun z => absurd z (by decide), fun _ => rfl⟩
            · rw [if_neg (by decide), if_neg (by decide)]
              exact ⟨1, Or.inr rfl, rfl, fun _ => by omega, fun _ => rfl⟩
    · rw [if_neg co, if_neg co]
      exact ⟨0, Or.inl rfl, rfl, fun z => absurd z (by decide), fun _ => rfl⟩
