/-! the slots of all classes -/
theorem slotPlace_in {σ : St} {C c k : Nat} (hC : C ≤ 32) (h3 : σ 3 0 = nI C) (hc : c < C) (hk : k < 16) : F_X0_slotPlace (nI c) (nI k) σ = some (σ 13 (16 * c + k)) := by
  unfold F_X0_slotPlace
  rw [has_in hC h3 hc, b1_some, if_neg (by decide), if_neg0 (by omega), show (16 : Int32) = nI 16 from rfl, if_le (by omega) (by omega), if_neg (by omega), pk_mul, nI_add, ix_in (by omega) (by omega), nI_clamp (by omega), Nat.mul_comm c 16]
theorem upper_in {σ : St} {C c : Nat} (hC : C ≤ 32) (h3 : σ 3 0 = nI C) (hc : c < C) : F_X0_upper (nI c) σ = some (σ 9 c) := by
  unfold F_X0_upper
  rw [has_in hC h3 hc, b1_some, if_neg (by decide), ix_in (by omega) (by omega), nI_clamp (by omega)]
theorem fit_eq {σ : St} {C c k b : Nat} {e : Option Nat} (hC : C ≤ 32) (h3 : σ 3 0 = nI C) (hc : c < C) (hk : k < 16) (hU : Up c (σ 9 c) e) (hb : σ 12 (16 * c + k) = nI b) : F_X3_fitsSlot (nI c) (nI k) σ = X_fit c b (slotUp (σ 12) e k) σ := by
  unfold F_X3_fitsSlot
  rw [slotMethod_in hC h3 hc hk, b1_some, upper_in hC h3 hc, b1_some, hb]
  have z : F_X0_slotMethod (σ 9 c) (nI k) σ = some (slotUp (σ 12) e k) := by
    rcases hU with ⟨h, rfl⟩ | ⟨u, hu, h, rfl⟩
    · rw [h]; exact slotMethod_m1
    · rw [h, slotMethod_in hC h3 (by omega) hk]; rfl
  rw [z, b1_some]
  rfl
theorem slot_M {τ : St} {r4 r7 : Nat → Int32} {c k b : Nat} {row : Nat → Int32} {e : Option Nat} (hc : c < 32) (hk : k < 16) (hU : Up c (r4 c) e) (h7 : ∀ u, e = some u → r7 (16 * u + k) = row (16 * u + k)) (k2 : Int32 → St → Option St) :
    ix 32 (nI c) (if 0 ≤ (r4 (nI c).toNatClampNeg) then (ix 32 (nI c) (ix 512 ((nI 16 * (r4 (nI c).toNatClampNeg)) + nI k) (F_X8_checkSlots_67 k2 (nI (16 * c + k)) (nI c) (nI b) (r7 (((nI 16 * (r4 (nI c).toNatClampNeg)) + nI k)).toNatClampNeg) τ))) else (F_X8_checkSlots_67 k2 (nI (16 * c + k)) (nI c) (nI b) (-1) τ)) = F_X8_checkSlots_67 k2 (nI (16 * c + k)) (nI c) (nI b) (slotUp row e k) τ := by
  rw [ix_in hc (by omega), nI_clamp (by omega)]
  rcases hU with ⟨h, rfl⟩ | ⟨u, hu, h, rfl⟩
  · rw [h, if_neg (by decide)]; rfl
  · rw [h, if_pos (nI_pos' (by omega)), ix_in hc (by omega), pk_mul, nI_add, ix_in (by omega) (by omega), nI_clamp (by omega), h7 u rfl]
    rfl
theorem slots_c {n C M c : Nat} {B pt pm : Nat → Nat} {σ τ : St} (hI : Img n B C M pt pm σ τ) (h6 : τ 0 6 = -1) (hc : c < C) (hpt : pt (c + 1) ≤ 8000) :
    ∀ (j k m1 m2 : Nat) (w : Option Nat), k + j = 16 → j < m1 →
      (∀ q, w = some q → q ≤ pt (c + 1) ∧ ∀ k' t, k ≤ k' → k' < 16 → t < 2 ^ 31 → σ 13 (16 * c + k') = nI t → q ≤ t) →
      (w = none → ∀ d, d < c → ∀ k', k' < 16 → σ 12 (16 * d + k') = -1 ∨ ∃ b, b < M ∧ σ 12 (16 * d + k') = nI b) →
      ∃ w' : Option Nat, F_X8_checkSlots_2 (m2 + j) (nI (16 * c + k)) (Wn w τ) = F_X8_checkSlots_2 m2 (nI (16 * c + 16)) (Wn w' τ) ∧ (w = none → F_X3_misfitSlot_2 m1 (nI c) (nI k) σ = some (cd w')) ∧ (∀ q, w = some q → w' = some q) ∧ (∀ q, w' = some q → q ≤ pt (c + 1)) ∧
        (w' = none → ∀ k', k ≤ k' → k' < 16 → σ 13 (16 * c + k') ≠ -1 → ∃ b, b < M ∧ σ 12 (16 * c + k') = nI b) := by
  have hT := hI.2.1.2.1
  obtain ⟨t3, t8, tC, -, tp, tcls⟩ := hT
  intro j
  induction j with
  | zero =>
    intro k m1 m2 w hk hm1 hw hG
    obtain ⟨m1, rfl⟩ : ∃ m', m1 = m' + 1 := ⟨m1 - 1, by omega⟩
    have hk' : k = 16 := by omega
    subst hk'
    refine ⟨w, rfl, ?_, fun q h => h, fun q h => (hw q h).1, fun _ k' h1 h2 => by omega⟩
    intro hn
    rw [F_X3_misfitSlot_2, show (16 : Int32) = nI 16 from rfl, if_pos (nI_le (Nat.le_refl _) (by omega)), hn]
    rfl
  | succ j ih =>
    intro k m1 m2 w hk hm1 hw hG
    obtain ⟨m1, rfl⟩ : ∃ m', m1 = m' + 1 := ⟨m1 - 1, by omega⟩
    obtain ⟨e, f, hU, u4, -, -, -, -, hS⟩ := tcls c hc
    obtain ⟨s12, s13, hcase⟩ := hS.1 k (by omega)
    have eX : F_X3_misfitSlot_2 (m1 + 1) (nI c) (nI k) σ = (if σ 13 (16 * c + k) = (-1) then (F_X3_misfitSlot_35 (F_X3_misfitSlot_2 m1) (nI c) (nI k) σ) else (b1 (F_X3_fitsSlot (nI c) (nI k) σ) fun r6 => (if r6 = 0 then (some (σ 13 (16 * c + k))) else (F_X3_misfitSlot_35 (F_X3_misfitSlot_2 m1) (nI c) (nI k) σ)))) := by
      rw [F_X3_misfitSlot_2, show (16 : Int32) = nI 16 from rfl, if_le (by omega) (by omega), if_neg (by omega), slotPlace_in tC t3 hc (by omega), b1_some]
    have e35 : F_X3_misfitSlot_35 (F_X3_misfitSlot_2 m1) (nI c) (nI k) σ = F_X3_misfitSlot_2 m1 (nI c) (nI (k + 1)) σ := by
      unfold F_X3_misfitSlot_35
      rw [nm_eq, show nI k + 1 = nI (k + 1) from nI_1 k]
    have e131 : ∀ u, F_X8_checkSlots_131 (F_X8_checkSlots_2 (m2 + j)) (nI (16 * c + k)) u = F_X8_checkSlots_2 (m2 + j) (nI (16 * c + (k + 1))) u := by
      intro u
      unfold F_X8_checkSlots_131
      rw [nm_eq, show nI (16 * c + k) + 1 = nI (16 * c + (k + 1)) from nI_1 (16 * c + k)]
    have w8 : Wn w τ 0 8 = nI C := by rw [Wn_0 (by decide)]; exact t8
    have w7 : Wn w τ 7 = τ 7 := Wn_row (by decide)
    have w8' : Wn w τ 8 = τ 8 := Wn_row (by decide)
    have w4 : Wn w τ 4 = τ 4 := Wn_row (by decide)
    rw [eX, e35, show m2 + (j + 1) = (m2 + j) + 1 by omega, F_X8_checkSlots_2, w8, show (16 : Int32) = nI 16 from rfl, pk_mul, if_le (by omega) (by omega), if_neg (by omega), pk_rem (by omega) (by omega) (by omega), pk_div (by omega) (by omega) (by omega), show (16 * c + k) / 16 = c by omega, show (16 * c + k) % 16 = k by omega, nm_eq, ix_in (by omega) (by omega), nm_eq, ix_in (by omega) (by omega), nI_clamp (by omega), w7, w8', ← s12, ← s13, e131]
    have hw1 : ∀ q, w = some q → q ≤ pt (c + 1) ∧ ∀ k' t, k + 1 ≤ k' → k' < 16 → t < 2 ^ 31 → σ 13 (16 * c + k') = nI t → q ≤ t := fun q h => ⟨(hw q h).1, fun k' t h1 h2 h3 h4 => (hw q h).2 k' t (by omega) h2 h3 h4⟩
    by_cases cp : σ 13 (16 * c + k) = -1
    · rw [if_pos cp, if_pos cp]
      obtain ⟨w', z1, z2, z3, z4, z5⟩ := ih (k + 1) m1 m2 w (by omega) (by omega) hw1 hG
      refine ⟨w', z1, z2, z3, z4, fun h k' h1 h2 h3 => ?_⟩
      rcases Nat.lt_or_ge k k' with y | y
      · exact z5 h k' y h2 h3
      · exact absurd (by rw [show k' = k by omega]; exact cp) h3
    · rw [if_neg cp, if_neg cp]
      rcases hcase with ⟨y, -⟩ | ⟨-, t, b, ht, ht1, ht2, hb, hb2⟩
      · exact absurd y cp
      · have hIw : Img n B C M pt pm σ (Wn w τ) := Wn_img hI
        have hUw : Up c (τ 4 c) e := by rw [u4]; exact hU
        have h7w : ∀ u, e = some u → τ 7 (16 * u + k) = σ 12 (16 * u + k) := by
          intro u hu
          rcases hU with ⟨-, y⟩ | ⟨u', hu', -, y⟩
          · rw [y] at hu; exact absurd hu (by simp)
          · rw [y] at hu
            injection hu with hu
            subst hu
            obtain ⟨_, _, _, _, _, _, _, _, hS'⟩ := tcls u' (by omega)
            exact (hS'.1 k (by omega)).1.symm
        rw [hb, w4, slot_M (row := σ 12) (by omega) (by omega) hUw h7w]
        have hv : slotUp (σ 12) e k = -1 ∨ ∃ b', b' < 256 ∧ slotUp (σ 12) e k = nI b' := by
          rcases hU with ⟨-, rfl⟩ | ⟨u, hu, -, rfl⟩
          · exact Or.inl rfl
          · exact slot_vals hI.2.1.2.1 C u (by omega) (by omega) k (by omega)
        obtain ⟨r, hr, e67, hrb, hfit⟩ := slot67 (c := c) (x1 := nI (16 * c + k)) hIw hb2 hv (F_X8_checkSlots_2 (m2 + j))
        have hle : ∀ q, w = some q → q ≤ t := fun q h => (hw q h).2 k t (Nat.le_refl _) (by omega) (by omega) ht
        have e117 : F_X8_checkSlots_117 (F_X8_checkSlots_2 (m2 + j)) (nI (16 * c + k)) r (Wn w τ) = F_X8_checkSlots_2 (m2 + j) (nI (16 * c + (k + 1))) (Wn (nx w t r) τ) := by
          unfold F_X8_checkSlots_117
          rw [ix_in (by omega) (by omega), nI_clamp (by omega), w8', ← s13, ht, note_M h6 (by omega) hle, b1_some, e131]
        rw [e67, e117, ht]
        have hw2 : ∀ q, nx w t r = some q → q ≤ pt (c + 1) ∧ ∀ k' t, k + 1 ≤ k' → k' < 16 → t < 2 ^ 31 → σ 13 (16 * c + k') = nI t → q ≤ t := by
          intro q h
          have hq := nx_le hle q h
          refine ⟨by omega, fun k' t' h1 h2 h3 h4 => ?_⟩
          have hlt := hS.2 k k' (by omega) h2 cp (by rw [h4]; exact ne_m1 h3)
          rw [ht, h4] at hlt
          have := (nI_ltI (by omega) h3).mp hlt
          omega
        have hG2 : nx w t r = none → ∀ d, d < c → ∀ k', k' < 16 → σ 12 (16 * d + k') = -1 ∨ ∃ b, b < M ∧ σ 12 (16 * d + k') = nI b := by
          intro h
          cases w with
          | some q => exact absurd h (by simp [nx])
          | none => exact hG rfl
        obtain ⟨w', z1, z2, z3, z4, z5⟩ := ih (k + 1) m1 m2 (nx w t r) (by omega) (by omega) hw2 hG2
        refine ⟨w', z1, ?_, ?_, z4, ?_⟩
        · intro hn
          subst hn
          have hv2 : slotUp (σ 12) e k = -1 ∨ ∃ b', b' < M ∧ slotUp (σ 12) e k = nI b' := by
            rcases hU with ⟨-, rfl⟩ | ⟨u, hu, -, rfl⟩
            · exact Or.inl rfl
            · exact hG rfl u hu k (by omega)
          rw [fit_eq tC t3 hc (by omega) hU hb, hfit hv2, b1_some]
          rcases hr with rfl | rfl
          · rw [if_pos rfl]
            have := z3 t (nx_bad rfl)
            rw [this]
            rfl
          · rw [if_neg (by decide)]
            exact z2 (nx_ok (by decide))
        · intro q h
          subst h
          exact z3 q rfl
        · intro h k' h1 h2 h3
          rcases Nat.lt_or_ge k k' with y | y
          · exact z5 h k' y h2 h3
          · rw [show k' = k by omega]
            refine ⟨b, ?_, hb⟩
            rcases hr with rfl | rfl
            · cases w with
              | none =>
                have := z3 t (nx_bad rfl)
                rw [this] at h
                exact absurd h (by simp)
              | some q =>
                have := z3 q rfl
                rw [this] at h
                exact absurd h (by simp)
            · exact hrb rfl
