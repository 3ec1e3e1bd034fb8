/-! the code of a method, its handlers, all methods: the first misfit is the same -/
theorem Mt.cnt {n M m s len cnt hc : Nat} {B : Nat → Nat} {σ τ : St} (h : Mt n M m s len cnt hc B σ τ) : cnt ≤ 1000 ∧ 1 ≤ cnt := by
  obtain ⟨a1, a2, a3, a4, a5, a6, a7, a8, a9, a10, a11, a12, a13, a14, -⟩ := h
  have := pos_ge a14
  refine ⟨by omega, ?_⟩
  rcases Nat.eq_zero_or_pos cnt with z | z
  · subst z
    have : pos B s 0 = s := rfl
    omega
  · exact z
theorem Mt.at {n M m s len cnt hc i : Nat} {B : Nat → Nat} {σ τ : St} (h : Mt n M m s len cnt hc B σ τ) (hi : i < cnt) : s + i ≤ pos B s i ∧ pos B s i + wid (B (pos B s i)) ≤ s + len ∧ B (pos B s i) < 42 ∧ τ 3 (pos B s i) ≠ 0 ∧ ∀ q, pos B s i < q → q < pos B s i + wid (B (pos B s i)) → τ 3 q = 0 := by
  obtain ⟨a1, a2, a3, a4, a5, a6, a7, a8, a9, a10, a11, a12, a13, a14, a15, -⟩ := h
  have g := pos_ge (B := B) (s := s) (i := i) (fun j hj => a14 j (by omega))
  have hn : pos B s (i + 1) = pos B s i + wid (B (pos B s i)) := rfl
  have hle : pos B s (i + 1) ≤ s + len := by
    rcases Nat.lt_or_ge (i + 1) cnt with z | z
    · have := pos_mono (B := B) (s := s) a14 (i + 1) z
      omega
    · rw [show i + 1 = cnt by omega]; omega
  have hw := wid_pos _ (a14 i hi)
  refine ⟨g, by omega, a14 i hi, (a15 _ (by omega) (by omega)).mpr ⟨i, hi, rfl⟩, fun q h1 h2 => ?_⟩
  by_cases z : τ 3 q = 0
  · exact z
  · obtain ⟨j, hj, e⟩ := (a15 q (by omega) (by omega)).mp z
    rcases Nat.lt_trichotomy j i with y | y | y
    · have := pos_mono (B := B) (s := s) (i := i) (fun j hj => a14 j (by omega)) j y
      omega
    · subst y; omega
    · rcases Nat.lt_or_ge (i + 1) j with x | x
      · have := pos_mono (B := B) (s := s) (i := j) (fun j' hj' => a14 j' (by omega)) (i + 1) x
        omega
      · rw [show j = i + 1 by omega] at e
        omega
theorem code_m {n M m s len cnt hc : Nat} {B : Nat → Nat} {σ τ : St} (h : Mt n M m s len cnt hc B σ τ) (h6 : τ 0 6 = -1) :
    ∀ (j i m1 m2 : Nat) (w : Option Nat), i + j = cnt → j < m1 → s + len < m2 + pos B s i → (∀ q, w = some q → q ≤ pos B s i) →
      ∃ w' : Option Nat, F_X8_checkCode_7 m2 (nI m) (nI (pos B s i)) (Wn w τ) = F_X8_checkCode_143 fu (nI m) 0 (Wn w' τ) ∧ (w = none → F_X1_misfit_27 m1 (nI m) (nI M) (nI cnt) (nI (pos B s i)) (nI i) σ = some (cd w')) ∧ (∀ q, w = some q → w' = some q) ∧ (∀ q, w' = some q → q ≤ s + len) := by
  have hcnt := h.cnt
  have hh := h
  obtain ⟨a1, a2, a3, a4, a5, a6, a7, a8, a9, a10, a11, a12, a13, a14, a15, -⟩ := hh
  intro j
  induction j with
  | zero =>
    intro i m1 m2 w hi hm1 hm2 hw
    have hi' : i = cnt := by omega
    subst hi'
    obtain ⟨m1, rfl⟩ : ∃ m', m1 = m' + 1 := ⟨m1 - 1, by omega⟩
    obtain ⟨m2, rfl⟩ : ∃ m', m2 = m' + 1 := ⟨m2 - 1, by omega⟩
    have hwn := h.wn (w := w)
    refine ⟨w, ?_, ?_, fun q z => z, fun q z => by have := hw q z; omega⟩
    · rw [F_X8_checkCode_7, ix_in (by omega) (by omega), ix_in (by omega) (by omega), nI_clamp (by omega), hwn.2.2.2.2.2.2.2.1.2, hwn.2.2.2.2.2.2.2.2.1.2, nI_add, a13, if_le (by omega) (by omega), if_pos (Nat.le_refl _)]
    · intro hn
      rw [F_X1_misfit_27, if_le (by omega) (by omega), if_pos (Nat.le_refl _), hn]
      rfl
  | succ j ih =>
    intro i m1 m2 w hi hm1 hm2 hw
    obtain ⟨m1, rfl⟩ : ∃ m', m1 = m' + 1 := ⟨m1 - 1, by omega⟩
    obtain ⟨g1, g2, g3, g4, g5⟩ := h.at (i := i) (by omega)
    have hwd := wid_pos _ g3
    obtain ⟨t, r, ht1, ht2, hr, eM, eX⟩ := op_step h h6 (i := i) (by omega) hcnt.1 (by omega) g2 g3 g4 hw
    obtain ⟨m3, e3⟩ : ∃ m3, m2 = (m3 + (wid (B (pos B s i)) - 1)) + 1 := ⟨m2 - wid (B (pos B s i)), by omega⟩
    have hle := nx_le (w := w) (t := t) (r := r) (fun q hq => by have := hw q hq; omega)
    have hsk := skip_M (h.wn (w := nx w t r)) (wid (B (pos B s i)) - 1) (pos B s i + 1) m3 (by omega) (fun q' h1 h2 => by rw [Wn_row (by decide)]; exact g5 q' (by omega) (by omega))
    have hnx : pos B s (i + 1) = pos B s i + wid (B (pos B s i)) := rfl
    obtain ⟨w', z1, z2, z3, z4⟩ := ih (i + 1) m1 m3 (nx w t r) (by omega) (by omega) (by omega) (fun q hq => by have := hle q hq; omega)
    refine ⟨w', ?_, ?_, ?_, z4⟩
    · rw [e3, eM]
      unfold F_X8_checkCode_135
      rw [nm_eq, show nI (pos B s i) + 1 = nI (pos B s i + 1) from nI_1 _, hsk, show pos B s i + 1 + (wid (B (pos B s i)) - 1) = pos B s (i + 1) by omega, z1]
    · intro hn
      subst hn
      rw [eX]
      rcases hr with rfl | rfl
      · rw [if_pos rfl, z3 t (nx_bad rfl)]
        rfl
      · rw [if_neg (by decide)]
        unfold F_X1_misfit_140
        rw [len_X σ _ g3, b1_some, nm_eq, nm_eq, nI_add, ← hnx, show nI i + 1 = nI (i + 1) from nI_1 i]
        exact z2 (nx_ok (by decide))
    · intro q hq
      subst hq
      exact z3 q rfl
theorem hand_m {n M m s len cnt hc : Nat} {B : Nat → Nat} {σ τ : St} (h : Mt n M m s len cnt hc B σ τ) (h6 : τ 0 6 = -1) :
    ∀ (j k m1 m2 : Nat) (w : Option Nat), k + j = hc → j < m1 → j < m2 → (∀ q, w = some q → q ≤ s + len + 1 + 7 * k) →
      ∃ w' : Option Nat, F_X8_checkCode_143 m2 (nI m) (nI k) (Wn w τ) = some (Wn w' τ) ∧ (w = none → F_X2_misfit_27 m1 (nI m) (nI hc) (nI (s + len + 1 + 7 * k)) (nI k) σ = some (cd w')) ∧ (∀ q, w = some q → w' = some q) ∧ (∀ q, w' = some q → q ≤ s + len + 1 + 7 * hc) := by
  have hh := h
  obtain ⟨a1, a2, a3, a4, a5, a6, a7, a8, a9, a10, a11, a12, a13, a14, a15, a16, a17, a18, a19, a20, a21⟩ := hh
  have hBX : ∀ k, k < n → B k < 256 := fun k hk => (a20 k hk).1
  intro j
  induction j with
  | zero =>
    intro k m1 m2 w hk hm1 hm2 hw
    have hk' : k = hc := by omega
    subst hk'
    obtain ⟨m1, rfl⟩ : ∃ m', m1 = m' + 1 := ⟨m1 - 1, by omega⟩
    obtain ⟨m2, rfl⟩ : ∃ m', m2 = m' + 1 := ⟨m2 - 1, by omega⟩
    have w18 : Wn w τ 18 m = nI k := by rw [Wn_row (by decide)]; exact a12.2
    refine ⟨w, ?_, ?_, fun q z => z, fun q z => hw q z⟩
    · rw [F_X8_checkCode_143, ix_in (by omega) (by omega), nI_clamp (by omega), w18, if_pos (nI_le (Nat.le_refl _) (by omega))]
    · intro hn
      rw [F_X2_misfit_27, if_pos (nI_le (Nat.le_refl _) (by omega)), hn]
      rfl
  | succ j ih =>
    intro k m1 m2 w hk hm1 hm2 hw
    obtain ⟨m1, rfl⟩ : ∃ m', m1 = m' + 1 := ⟨m1 - 1, by omega⟩
    obtain ⟨m2, rfl⟩ : ∃ m', m2 = m' + 1 := ⟨m2 - 1, by omega⟩
    have w18 : Wn w τ 18 m = nI hc := by rw [Wn_row (by decide)]; exact a12.2
    have w19 : Wn w τ 19 m = nI (s + len + 1) := by rw [Wn_row (by decide)]; exact a11.2
    have twM : ∀ (w : Option Nat) t, t + 1 < n → F_X8_two (nI t) (Wn w τ) = some (nI (tw B t)) := fun w t ht => two_M a3 hBX (h.wn (w := w)).2.2.2.2.2.2.2.2.2.2.2.2.2.2.2.2.2.2.2.2 ht
    have tl : ∀ t, t + 1 < n → tw B t < 65536 := fun t ht => tw_lt (hBX t (by omega)) (hBX (t + 1) ht)
    have bgM : ∀ (w : Option Nat) V, V < 65536 → F_X8_isBegin (nI m) (nI V) (Wn w τ) = some (bg τ s len V) := by
      intro w V hV
      rw [(begins_both (h.wn (w := w)) (V := V) (by omega)).2]
      unfold bg
      rw [Wn_row (by decide)]
    have bgX : ∀ V, V < 65536 → F_X1_beginsAt (nI m) (nI V) σ = some (bg τ s len V) := fun V hV => (begins_both h (by omega)).1
    generalize hv : s + len + 1 + 7 * k = v
    rw [hv] at hw
    have hvn : v + 7 ≤ n := by omega
    have l0 := tl v (by omega)
    have l2 := tl (v + 2) (by omega)
    have l5 := tl (v + 5) (by omega)
    obtain ⟨r1, hr1⟩ : ∃ r1 : Int32, r1 = if bg τ s len (tw B v) = 0 ∨ tw B (v + 2) ≤ tw B v then 0 else 1 := ⟨_, rfl⟩
    obtain ⟨r2, hr2⟩ : ∃ r2 : Int32, r2 = if bg τ s len (tw B (v + 2)) = 0 ∧ tw B (v + 2) ≠ len then 0 else 1 := ⟨_, rfl⟩
    have le0 := nx_le (w := w) (t := v) (r := r1) hw
    have le1 := nx_le (w := nx w v r1) (t := v + 2) (r := r2) (fun q hq => by have := le0 q hq; omega)
    have le2 := nx_le (w := nx (nx w v r1) (v + 2) r2) (t := v + 5) (r := bg τ s len (tw B (v + 5))) (fun q hq => by have := le1 q hq; omega)
    have e243 : F_X8_checkCode_243 (F_X8_checkCode_143 m2) (nI m) (nI k) (nI v) r2 (nI (v + 2)) (Wn (nx w v r1) τ) = F_X8_checkCode_143 m2 (nI m) (nI (k + 1)) (Wn (nx (nx (nx w v r1) (v + 2) r2) (v + 5) (bg τ s len (tw B (v + 5)))) τ) := by
      unfold F_X8_checkCode_243
      rw [note_M h6 (by omega) (fun q hq => by have := le0 q hq; omega), b1_some, show nI v + 5 = nI (v + 5) from nI_add v 5, twM _ _ (by omega), b1_some, bgM _ _ l5, b1_some, note_M h6 (by omega) (fun q hq => by have := le1 q hq; omega), b1_some, nm_eq, show nI k + 1 = nI (k + 1) from nI_1 k]
    have e200 : F_X8_checkCode_200 (F_X8_checkCode_143 m2) (nI m) (nI k) (nI v) r1 (nI v) (Wn w τ) = F_X8_checkCode_143 m2 (nI m) (nI (k + 1)) (Wn (nx (nx (nx w v r1) (v + 2) r2) (v + 5) (bg τ s len (tw B (v + 5)))) τ) := by
      rw [← e243]
      unfold F_X8_checkCode_200 F_X8_checkCode_238
      rw [note_M h6 (by omega) hw, b1_some, show nI v + 2 = nI (v + 2) from nI_add v 2, twM _ _ (by omega), b1_some, bgM _ _ l2, b1_some, b1_some, ix_in (by omega) (by omega), nI_clamp (by omega), (h.wn (w := nx w v r1)).2.2.2.2.2.2.2.2.1.2, if_eq (by omega) (by omega)]
      by_cases c1 : bg τ s len (tw B (v + 2)) = 0
      · rw [if_pos c1]
        by_cases c2 : tw B (v + 2) = len
        · rw [if_pos c2, hr2, if_neg (fun z => z.2 c2)]
        · rw [if_neg c2, hr2, if_pos ⟨c1, c2⟩]
      · rw [if_neg c1, hr2, if_neg (fun z => c1 z.1)]
    have eM : F_X8_checkCode_143 (m2 + 1) (nI m) (nI k) (Wn w τ) = F_X8_checkCode_143 m2 (nI m) (nI (k + 1)) (Wn (nx (nx (nx w v r1) (v + 2) r2) (v + 5) (bg τ s len (tw B (v + 5)))) τ) := by
      rw [← e200, F_X8_checkCode_143, ix_in (by omega) (by omega), nI_clamp (by omega), w18, if_le (by omega) (by omega), if_neg (by omega), ix_in (by omega) (by omega), w19, show (7 : Int32) = nI 7 from rfl, pk_mul, nI_add, hv, nm_eq, twM _ _ (by omega), b1_some, bgM _ _ l0, b1_some, b1_some, show nI v + 2 = nI (v + 2) from nI_add v 2, twM _ _ (by omega), b1_some, if_le (by omega) (by omega)]
      unfold F_X8_checkCode_199
      by_cases c1 : bg τ s len (tw B v) = 0
      · rw [if_pos c1, hr1, if_pos (Or.inl c1)]
      · rw [if_neg c1]
        by_cases c2 : tw B (v + 2) ≤ tw B v
        · rw [if_pos c2, hr1, if_pos (Or.inr c2)]
        · rw [if_neg c2, hr1, if_neg (fun z => z.elim c1 c2)]
    obtain ⟨w', z1, z2, z3, z4⟩ := ih (k + 1) m1 m2 (nx (nx (nx w v r1) (v + 2) r2) (v + 5) (bg τ s len (tw B (v + 5)))) (by omega) (by omega) (by omega) (fun q hq => by have := le2 q hq; omega)
    refine ⟨w', by rw [eM, z1], ?_, ?_, z4⟩
    · intro hn
      subst hn
      rw [F_X2_misfit_27, if_le (by omega) (by omega), if_neg (by omega), val2_X a3 a19 a20 (by omega), b1_some, show nI v + 2 = nI (v + 2) from nI_add v 2, val2_X a3 a19 a20 (by omega), b1_some, if_le (by omega) (by omega), bgX _ l0, b1_some, length_X (by omega), b1_some, a9.1, if_eq (by omega) (by omega), bgX _ l2, b1_some]
      by_cases c2 : tw B (v + 2) ≤ tw B v
      · have y : r1 = 0 := by rw [hr1, if_pos (Or.inr c2)]
        rw [if_pos c2, z3 v (by rw [nx_bad y]; rfl)]
        rfl
      · rw [if_neg c2]
        by_cases c1 : bg τ s len (tw B v) = 0
        · have y : r1 = 0 := by rw [hr1, if_pos (Or.inl c1)]
          rw [if_pos c1, z3 v (by rw [nx_bad y]; rfl)]
          rfl
        · have y1 : ¬ r1 = 0 := by rw [hr1, if_neg (fun z => z.elim c1 c2)]; decide
          rw [nx_ok y1] at z2 z3
          rw [if_neg c1]
          have e99 : ¬ r2 = 0 → F_X2_misfit_99 (F_X2_misfit_27 m1) (nI m) (nI hc) (nI v) (nI k) σ = some (cd w') := by
            intro y2
            rw [nx_ok y2] at z2 z3
            unfold F_X2_misfit_99
            rw [show nI v + 5 = nI (v + 5) from nI_add v 5, val2_X a3 a19 a20 (by omega), b1_some, bgX _ l5, b1_some, show nI v + 7 = nI (v + 7) from nI_add v 7, nm_eq, show nI k + 1 = nI (k + 1) from nI_1 k, nm_eq]
            by_cases c5 : bg τ s len (tw B (v + 5)) = 0
            · rw [if_pos c5, z3 (v + 5) (nx_bad c5)]
              rfl
            · rw [if_neg c5]
              have := z2 (nx_ok c5)
              rw [show s + len + 1 + 7 * (k + 1) = v + 7 by omega] at this
              exact this
          by_cases c3 : tw B (v + 2) = len
          · rw [if_pos c3]
            exact e99 (by rw [hr2, if_neg (fun z => z.2 c3)]; decide)
          · rw [if_neg c3]
            by_cases c4 : bg τ s len (tw B (v + 2)) = 0
            · have y : r2 = 0 := by rw [hr2, if_pos ⟨c4, c3⟩]
              rw [if_pos c4, z3 (v + 2) (by rw [nx_bad y]; rfl)]
              rfl
            · rw [if_neg c4]
              exact e99 (by rw [hr2, if_neg (fun z => c4 z.1)]; decide)
    · intro q hq
      subst hq
      exact z3 q rfl
