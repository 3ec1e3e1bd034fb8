/-! all methods: the first misfit of an image is the same on both sides -/
theorem size1_X {σ : St} {m : Nat} (hm : m < 64) : F_X1_size (nI m) σ = some (σ 23 m) := by
  unfold F_X1_size
  rw [if_neg0 (by omega), show (64 : Int32) = nI 64 from rfl, if_le (by omega) (by omega), if_neg (by omega), ix_in (by omega) (by omega), nI_clamp (by omega)]
theorem size2_X {σ : St} {m : Nat} (hm : m < 64) : F_X2_size (nI m) σ = some (σ 26 m) := by
  unfold F_X2_size
  rw [if_neg0 (by omega), show (64 : Int32) = nI 64 from rfl, if_le (by omega) (by omega), if_neg (by omega), ix_in (by omega) (by omega), nI_clamp (by omega)]
theorem meth_m {n M m s len cnt hc : Nat} {B : Nat → Nat} {σ τ : St} (h : Mt n M m s len cnt hc B σ τ) (h6 : τ 0 6 = -1) {w : Option Nat} (hw : ∀ q, w = some q → q ≤ s) :
    ∃ w' : Option Nat, F_X8_checkCode (nI m) (Wn w τ) = some (Wn w' τ) ∧ (w = none → ∀ m1, F_X3_misfit_35 (m1 + 1) (nI m) σ = if w' = none then F_X3_misfit_35 m1 (nI (m + 1)) σ else some (cd w')) ∧ (∀ q, w = some q → w' = some q) ∧ (∀ q, w' = some q → q ≤ s + len + 1 + 7 * hc) := by
  have hfu : fu = 9000 := rfl
  have hcnt := h.cnt
  have hwn := h.wn (w := w)
  have hh := h
  obtain ⟨a1, a2, a3, a4, a5, a6, a7, a8, a9, a10, a11, a12, a13, a14, a15, a16, a17, a18, a19, a20, a21⟩ := hh
  obtain ⟨w1, y1, y2, y3, y4⟩ := code_m h h6 cnt 0 fu fu w (by omega) (by omega) (by omega) hw
  obtain ⟨w', z1, z2, z3, z4⟩ := hand_m h h6 hc 0 fu fu w1 (by omega) (by omega) (by omega) (fun q hq => by have := y4 q hq; omega)
  have y2' : w = none → F_X1_misfit_27 fu (nI m) (nI M) (nI cnt) (nI s) 0 σ = some (cd w1) := y2
  have z1' : F_X8_checkCode_143 fu (nI m) 0 (Wn w1 τ) = some (Wn w' τ) := z1
  have z2' : w1 = none → F_X2_misfit_27 fu (nI m) (nI hc) (nI (s + len + 1)) 0 σ = some (cd w') := z2
  refine ⟨w', ?_, ?_, fun q hq => z3 q (y3 q hq), z4⟩
  · unfold F_X8_checkCode
    have y1' : F_X8_checkCode_7 fu (nI m) (nI s) (Wn w τ) = F_X8_checkCode_143 fu (nI m) 0 (Wn w1 τ) := y1
    rw [ix_in (by omega) (by omega), nI_clamp (by omega), nm_eq, hwn.2.2.2.2.2.2.2.1.2, y1', z1']
  · intro hn m1
    have b1 : ∀ q, w1 = some q → q < 2 ^ 31 := fun q hq => by have := y4 q hq; omega
    have b' : ∀ q, w' = some q → q < 2 ^ 31 := fun q hq => by have := z4 q hq; omega
    have eF : F_X1_misfit (nI m) (nI M) σ = some (cd w1) := by
      unfold F_X1_misfit F_X1_misfit_22
      rw [size1_X (by omega), b1_some, a10, if_neg (nI_nle (by omega) (by omega)), ix_in (by omega) (by omega), nI_clamp (by omega), a8.1, y2' hn]
    rw [F_X3_misfit_35, a17, if_le (by omega) (by omega), if_neg (by omega), eF, b1_some]
    unfold F_X3_misfit_82
    rw [nm_eq, show nI m + 1 = nI (m + 1) from nI_1 m]
    by_cases c1 : w1 = none
    · have eH : F_X2_misfit (nI m) σ = some (cd w') := by
        unfold F_X2_misfit F_X2_misfit_22
        rw [size2_X (by omega), b1_some, a12.1]
        by_cases c0 : hc = 0
        · rw [if_pos (show nI hc ≤ 0 from nI_le (b := 0) (by omega) (by omega))]
          have q1 := z2' c1
          subst c0
          rw [show fu = 8999 + 1 from rfl, F_X2_misfit_27, if_pos (show nI 0 ≤ 0 by decide)] at q1 ⊢
          exact q1
        · rw [if_neg (nI_nle (by omega) (by omega)), ix_in (by omega) (by omega), nI_clamp (by omega), a11.1, z2' c1]
      rw [if_pos ((cd_m1 b1).mpr c1), eH, b1_some]
      by_cases c2 : w' = none
      · rw [if_pos ((cd_m1 b').mpr c2), if_pos c2]
      · rw [if_neg (fun z => c2 ((cd_m1 b').mp z)), if_neg c2]
    · rw [if_neg (fun z => c1 ((cd_m1 b1).mp z)), if_neg (fun z => c1 ((cd_m1 b1).mp z))]
      cases w1 with
      | none => exact absurd rfl c1
      | some q => rw [z3 q rfl, if_neg (by simp)]
theorem meths_all {n C M : Nat} {B pt pm : Nat → Nat} {σ τ : St} (hI : Img n B C M pt pm σ τ) (h6 : τ 0 6 = -1) :
    ∀ (j m m1 m2 : Nat) (w : Option Nat), m + j = M → j < m1 → j < m2 → (∀ q, w = some q → q ≤ pm m) →
      ∃ w' : Option Nat, F_X8_end_94 m2 (nI m) (Wn w τ) = F_X8_end_113 (Wn w' τ) ∧ (w = none → F_X3_misfit_35 m1 (nI m) σ = some (cd w')) ∧ (∀ q, w = some q → w' = some q) ∧ (∀ q, w' = some q → q ≤ n) := by
  have hI' := hI
  obtain ⟨⟨hn, -⟩, -, ⟨-, hM, h4, h15, -⟩, -⟩ := hI'
  intro j
  induction j with
  | zero =>
    intro m m1 m2 w hm hm1 hm2 hw
    have hm' : m = M := by omega
    subst hm'
    obtain ⟨m1, rfl⟩ : ∃ m', m1 = m' + 1 := ⟨m1 - 1, by omega⟩
    obtain ⟨m2, rfl⟩ : ∃ m', m2 = m' + 1 := ⟨m2 - 1, by omega⟩
    have w15 : Wn w τ 0 15 = nI m := by rw [Wn_0 (by decide)]; exact h15
    have hp := (img_pm hI (Nat.le_refl m)).1
    refine ⟨w, ?_, ?_, fun q z => z, fun q z => by have := hw q z; omega⟩
    · rw [F_X8_end_94, w15, if_pos (nI_le (Nat.le_refl _) (by omega))]
    · intro hn
      rw [F_X3_misfit_35, h4, if_pos (nI_le (Nat.le_refl _) (by omega)), hn]
      rfl
  | succ j ih =>
    intro m m1 m2 w hm hm1 hm2 hw
    obtain ⟨m1, rfl⟩ : ∃ m', m1 = m' + 1 := ⟨m1 - 1, by omega⟩
    obtain ⟨m2, rfl⟩ : ∃ m', m2 = m' + 1 := ⟨m2 - 1, by omega⟩
    have w15 : Wn w τ 0 15 = nI M := by rw [Wn_0 (by decide)]; exact h15
    obtain ⟨s, len, cnt, hc, hs1, hs2, hMt⟩ := img_mt hI (m := m) (by omega)
    obtain ⟨w1, y1, y2, y3, y4⟩ := meth_m hMt h6 (w := w) (fun q hq => by have := hw q hq; omega)
    obtain ⟨w', z1, z2, z3, z4⟩ := ih (m + 1) m1 m2 w1 (by omega) (by omega) (by omega) (fun q hq => by have := y4 q hq; omega)
    refine ⟨w', ?_, ?_, fun q hq => z3 q (y3 q hq), z4⟩
    · rw [F_X8_end_94, w15, if_le (by omega) (by omega), if_neg (by omega), y1, b1_some, nm_eq, show nI m + 1 = nI (m + 1) from nI_1 m, z1]
    · intro hn
      rw [y2 hn]
      by_cases c1 : w1 = none
      · rw [if_pos c1]
        exact z2 c1
      · rw [if_neg c1]
        cases w1 with
        | none => exact absurd rfl c1
        | some q => rw [z3 q rfl]
theorem misfit_both {n C M : Nat} {B pt pm : Nat → Nat} {σ τ : St} (hI : Img n B C M pt pm σ τ) (h6 : τ 0 6 = -1) :
    ∃ w : Option Nat, (∀ q, w = some q → q ≤ n) ∧ F_X3_misfit σ = some (cd w) ∧ (b1 (F_X8_checkSlots τ) fun u12 => (F_X8_end_94 fu 0 u12)) = F_X8_end_113 (Wn w τ) := by
  have hfu : fu = 9000 := rfl
  have tC := hI.2.1.2.1.2.2.1
  have hM := hI.2.2.1.2.1
  have hp := hI.2.2.1.2.2.2.2.2.1
  obtain ⟨w1, y1, y2, y3, y4⟩ := slots_all hI h6 C 0 fu fu none (by omega) (by omega) (by omega) (fun q h => absurd h (by simp)) (fun _ d hd => by omega)
  obtain ⟨w', z1, z2, z3, z4⟩ := meths_all hI h6 M 0 fu fu w1 (by omega) (by omega) (by omega) (fun q hq => by have := y4 q hq; omega)
  have y1' : F_X8_checkSlots_2 fu 0 τ = some (Wn w1 τ) := y1
  have y2' : F_X3_misfit_2 fu 0 σ = if w1 = none then F_X3_misfit_35 fu 0 σ else some (cd w1) := y2 rfl
  have z1' : F_X8_end_94 fu 0 (Wn w1 τ) = F_X8_end_113 (Wn w' τ) := z1
  have z2' : w1 = none → F_X3_misfit_35 fu 0 σ = some (cd w') := z2
  refine ⟨w', z4, ?_, ?_⟩
  · unfold F_X3_misfit
    rw [y2']
    by_cases c1 : w1 = none
    · rw [if_pos c1]
      exact z2' c1
    · rw [if_neg c1]
      cases w1 with
      | none => exact absurd rfl c1
      | some q => rw [z3 q rfl]
  · unfold F_X8_checkSlots
    rw [y1', b1_some, z1']
