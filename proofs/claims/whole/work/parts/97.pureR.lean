/-! the calls feed, count, thrown, classOf, isA -/
def sel5 (x1 x2 x3 x4 x5 : Int32) (d : Nat) : Int32 := if d = 0 then x1 else if d = 1 then x2 else if d = 2 then x3 else if d = 3 then x4 else x5
theorem feed_loop {w : Nat} (hw : w ≤ 399) (x1 x2 x3 x4 x5 : Int32) : ∀ (j i m : Nat) (u : St), i + j = 20 → j < m → u 0 1 = nI (20 * w + i) →
    ∃ u' : St, F_X8_feed_19 m x1 x2 x3 x4 x5 (nI i) u = some (nI (20 * w + 20), u') ∧ (∀ r, r ≠ 0 → r ≠ 1 → u' r = u r) ∧ (∀ k, k ≠ 1 → u' 0 k = u 0 k) ∧ u' 0 1 = nI (20 * w + 20) ∧ (∀ k, k < 20 * w + i → u' 1 k = u 1 k) ∧
      (∀ i', i ≤ i' → i' < 20 → u' 1 (20 * w + i') = (ushr (sel5 x1 x2 x3 x4 x5 (i' / 4)) (24 - (8 * (nI i' &&& 3)))) &&& 255) := by
  intro j
  induction j with
  | zero =>
    intro i m u hi hm h1
    obtain ⟨m, rfl⟩ : ∃ m', m = m' + 1 := ⟨m - 1, by omega⟩
    have hi' : i = 20 := by omega
    subst hi'
    refine ⟨u, ?_, fun _ _ _ => rfl, fun _ _ => rfl, h1, fun _ _ => rfl, fun i' h2 h3 => by omega⟩
    rw [F_X8_feed_19, show (20 : Int32) = nI 20 from rfl, if_pos (nI_le (Nat.le_refl _) (by omega)), h1]
  | succ j ih =>
    intro i m u hi hm h1
    obtain ⟨m, rfl⟩ : ∃ m', m = m' + 1 := ⟨m - 1, by omega⟩
    obtain ⟨v, hv⟩ : ∃ v, v = (ushr (sel5 x1 x2 x3 x4 x5 (i / 4)) (24 - (8 * (nI i &&& 3)))) &&& 255 := ⟨_, rfl⟩
    obtain ⟨u', z1, z2, z3, z4, z5, z6⟩ := ih (i + 1) m (st (st u 1 (20 * w + i) v) 0 1 (nI (20 * w + (i + 1)))) (by omega) (by omega) st_hit
    have e72 : F_X8_feed_72 (F_X8_feed_19 m) x1 x2 x3 x4 x5 (nI i) (sel5 x1 x2 x3 x4 x5 (i / 4)) u = F_X8_feed_19 m x1 x2 x3 x4 x5 (nI (i + 1)) (st (st u 1 (20 * w + i) v) 0 1 (nI (20 * w + (i + 1)))) := by
      unfold F_X8_feed_72
      rw [h1, ix_in (by omega) (by omega), nm_eq, nI_clamp (by omega), ← hv, nm_eq, nm_eq, st_row (by decide), h1, show nI (20 * w + i) + 1 = nI (20 * w + (i + 1)) from nI_1 (20 * w + i), show nI i + 1 = nI (i + 1) from nI_1 i]
    have e19 : F_X8_feed_19 (m + 1) x1 x2 x3 x4 x5 (nI i) u = F_X8_feed_72 (F_X8_feed_19 m) x1 x2 x3 x4 x5 (nI i) (sel5 x1 x2 x3 x4 x5 (i / 4)) u := by
      rw [F_X8_feed_19, show (20 : Int32) = nI 20 from rfl, show (4 : Int32) = nI 4 from rfl, show (8 : Int32) = nI 8 from rfl, show (12 : Int32) = nI 12 from rfl, show (16 : Int32) = nI 16 from rfl, if_le (by omega) (by omega), if_neg (by omega), if_le (by omega) (by omega), if_le (by omega) (by omega), if_le (by omega) (by omega), if_le (by omega) (by omega)]
      unfold sel5
      by_cases c4 : 4 ≤ i
      · rw [if_pos c4, if_neg (show ¬ i / 4 = 0 by omega)]
        by_cases c8 : 8 ≤ i
        · rw [if_pos c8, if_neg (show ¬ i / 4 = 1 by omega)]
          by_cases c12 : 12 ≤ i
          · rw [if_pos c12, if_neg (show ¬ i / 4 = 2 by omega)]
            by_cases c16 : 16 ≤ i
            · rw [if_pos c16, if_neg (show ¬ i / 4 = 3 by omega)]
            · rw [if_neg c16, if_pos (show i / 4 = 3 by omega)]
          · rw [if_neg c12, if_pos (show i / 4 = 2 by omega)]
        · rw [if_neg c8, if_pos (show i / 4 = 1 by omega)]
      · rw [if_neg c4, if_pos (show i / 4 = 0 by omega)]
    refine ⟨u', by rw [e19, e72, z1], ?_, ?_, z4, ?_, ?_⟩
    · intro r h0 h2
      rw [z2 r h0 h2, st_row h0, st_row h2]
    · intro k hk
      rw [z3 k hk, st_mis (Or.inr hk), st_row (by decide)]
    · intro k hk
      rw [z5 k (by omega), st_row (by decide), st_mis (Or.inr (by omega))]
    · intro i' h2 h3
      rcases Nat.lt_or_ge i i' with y | y
      · exact z6 i' y h3
      · rw [show i' = i by omega, z5 _ (by omega), st_row (by decide), st_hit, hv]
theorem feed_both {σ τ : St} (x1 x2 x3 x4 x5 : Int32) (hR : Rel σ τ) : ∃ (r : Int32) (σ' τ' : St), F_X7_feed x1 x2 x3 x4 x5 σ = some (r, σ') ∧ F_X8_feed x1 x2 x3 x4 x5 τ = some (r, τ') ∧ Rel σ' τ' := by
  have hfu : fu = 9000 := rfl
  obtain ⟨w, hw, t11, t01, tb⟩ := hR.1
  unfold F_X7_feed F_X6_add F_X8_feed
  rw [t11, t01, if_neg0 (by omega), show (2000 - 5 : Int32) = nI 1995 from rfl, if_le (by omega) (by omega), show nI (20 * w) + 20 = nI (20 * w + 20) from nI_add _ 20, show (8000 : Int32) = nI 8000 from rfl, if_le (by omega) (by omega)]
  by_cases c : w ≤ 399
  · rw [if_pos (by omega), if_pos (by omega)]
    obtain ⟨u', z1, z2, z3, z4, z5, z6⟩ := feed_loop c x1 x2 x3 x4 x5 20 0 fu τ rfl (by omega) t01
    have z1' : F_X8_feed_19 fu x1 x2 x3 x4 x5 0 τ = some (nI (20 * w + 20), u') := z1
    rw [z1', ix_in (by omega) (by omega), nm_eq, nI_clamp (by omega)]
    have r1 : ∀ (u : St) k v, st u 7 k v 1 1 = u 1 1 := fun u k v => st_mis (Or.inl (by decide))
    simp only [nm_eq, r1, t11]
    rw [show nI (5 * w) + 1 = nI (5 * w + 1) from nI_add _ 1, show nI (5 * w) + 2 = nI (5 * w + 2) from nI_add _ 2, show nI (5 * w) + 3 = nI (5 * w + 3) from nI_add _ 3, show nI (5 * w) + 4 = nI (5 * w + 4) from nI_add _ 4, show nI (5 * w) + 5 = nI (5 * w + 5) from nI_add _ 5, ix_in (by omega) (by omega), ix_in (by omega) (by omega), ix_in (by omega) (by omega), ix_in (by omega) (by omega), nI_clamp (by omega), nI_clamp (by omega), nI_clamp (by omega), nI_clamp (by omega), b2_some, if_neg (by decide)]
    obtain ⟨σ', hσ'⟩ : ∃ s, s = st (st (st (st (st (st σ 7 (5 * w) x1) 7 (5 * w + 1) x2) 7 (5 * w + 2) x3) 7 (5 * w + 3) x4) 7 (5 * w + 4) x5) 1 1 (nI (5 * w + 5)) := ⟨_, rfl⟩
    rw [← hσ']
    have s11 : σ' 1 1 = nI (5 * w + 5) := by rw [hσ', st_hit]
    have s7 : ∀ i, i < 5 → σ' 7 (5 * w + i) = sel5 x1 x2 x3 x4 x5 i := by
      intro i hi
      rw [hσ', st_row (by decide)]
      unfold sel5
      match i, hi with
      | 0, _ => rw [st_mis (Or.inr (by omega)), st_mis (Or.inr (by omega)), st_mis (Or.inr (by omega)), st_mis (Or.inr (by omega))]; exact st_hit
      | 1, _ => rw [st_mis (Or.inr (by omega)), st_mis (Or.inr (by omega)), st_mis (Or.inr (by omega)), st_hit]; rfl
      | 2, _ => rw [st_mis (Or.inr (by omega)), st_mis (Or.inr (by omega)), st_hit]; rfl
      | 3, _ => rw [st_mis (Or.inr (by omega)), st_hit]; rfl
      | 4, _ => rw [st_hit]; rfl
      | i + 5, h => exact absurd h (by omega)
    have s7l : ∀ k, k < 5 * w → σ' 7 k = σ 7 k := by
      intro k hk
      rw [hσ', st_row (by decide), st_mis (Or.inr (by omega)), st_mis (Or.inr (by omega)), st_mis (Or.inr (by omega)), st_mis (Or.inr (by omega)), st_mis (Or.inr (by omega))]
    refine ⟨nI (20 * w + 20), σ', u', ?_, rfl, hR.tape (w := w + 1) ?_ z2 z3 ⟨by omega, ?_, ?_, ?_⟩⟩
    · rw [show F_X6_length σ' = some (σ' 1 1 * 4) from rfl, b1_some, s11, show nI (5 * w + 5) * 4 = nI ((5 * w + 5) * 4) from pk_mul _ 4, show (5 * w + 5) * 4 = 20 * w + 20 by omega]
    · intro r h1 h7
      rw [hσ', st_row h1, st_row h7, st_row h7, st_row h7, st_row h7, st_row h7]
    · rw [s11, show 5 * (w + 1) = 5 * w + 5 by omega]
    · rw [z4, show 20 * (w + 1) = 20 * w + 20 by omega]
    · intro k hk
      rcases Nat.lt_or_ge k (20 * w) with y | y
      · rw [z5 k (by omega), s7l (k / 4) (by omega)]
        exact tb k y
      · obtain ⟨i, rfl⟩ : ∃ i, k = 20 * w + i := ⟨k - 20 * w, by omega⟩
        rw [z6 i (by omega) (by omega), show (20 * w + i) / 4 = 5 * w + i / 4 by omega, s7 (i / 4) (by omega)]
        have a1 : nI (20 * w + i) &&& 3 = nI ((20 * w + i) % 2 ^ 2) := pk_andN (by omega) 2 (by decide)
        have a2 : nI i &&& 3 = nI (i % 2 ^ 2) := pk_andN (by omega) 2 (by decide)
        rw [a1, a2, show (20 * w + i) % 2 ^ 2 = i % 2 ^ 2 by omega]
  · rw [if_neg (by omega), if_neg (by omega)]
    exact ⟨-2, σ, τ, rfl, rfl, hR⟩
theorem count_both {σ τ : St} (x1 : Int32) (hR : Rel σ τ) : ∃ r : Int32, F_X7_count x1 σ = some r ∧ F_X8_count x1 τ = some r := by
  have eX : F_X7_count x1 σ = some (if x1 = 0 then σ 3 0 else if x1 = 1 then σ 4 0 else if x1 = 2 then σ 5 0 else if x1 = 3 then σ 4 1 else -1) := by
    unfold F_X7_count
    show (if x1 = 0 then some (σ 3 0) else if x1 = 1 then some (σ 4 0) else if x1 = 2 then some (σ 5 0) else if x1 = 3 then some (σ 4 1) else some (-1)) = _
    split
    · rfl
    · split
      · rfl
      · split
        · rfl
        · split
          · rfl
          · rfl
  refine ⟨_, eX, ?_⟩
  unfold F_X8_count
  by_cases c : x1 < 0
  · rw [if_pos c, if_neg (fun h => by rw [h] at c; exact absurd c (by decide)), if_neg (fun h => by rw [h] at c; exact absurd c (by decide)), if_neg (fun h => by rw [h] at c; exact absurd c (by decide)), if_neg (fun h => by rw [h] at c; exact absurd c (by decide))]
  · rw [if_neg c]
    by_cases c3 : x1 ≤ 3
    · rw [if_pos c3]
      obtain ⟨j, hj, e⟩ := nI_of2 (M := 3) (n := 3) (by decide) c c3
      subst e
      rcases hR.2 with ⟨a, b1, b2, b3, b4⟩ | ⟨a, n, B, C, M, pt, pm, hI⟩
      · rw [a, if_pos rfl, b1, b2, b3, b4]
        match j, hj with
        | 0, _ => rfl
        | 1, _ => rfl
        | 2, _ => rfl
        | 3, _ => rfl
        | j + 4, h => exact absurd h (by omega)
      · obtain ⟨-, ⟨-, hT, -⟩, ⟨-, -, h4, h15, -⟩, -, h5, h41, -⟩ := hI
        rw [a, if_neg (by decide), hT.1, hT.2.1, h4, h15, h5, h41]
        match j, hj with
        | 0, _ => rfl
        | 1, _ => rfl
        | 2, _ => rfl
        | 3, _ => rfl
        | j + 4, h => exact absurd h (by omega)
    · rw [if_neg c3, if_neg (fun h => c3 (by rw [h]; decide)), if_neg (fun h => c3 (by rw [h]; decide)), if_neg (fun h => c3 (by rw [h]; decide)), if_neg (fun h => c3 (by rw [h]; decide))]
theorem b1_ret (o : Option Int32) : (b1 o fun r => some r) = o := by
  cases o with
  | none => rfl
  | some r => rfl
theorem thrown_both {σ τ : St} (x1 : Int32) (hR : Rel σ τ) : ∃ r : Int32, F_X7_thrown x1 σ = some r ∧ F_X8_thrown x1 τ = some r := by
  unfold F_X7_thrown F_X0_fault F_X8_thrown
  rcases hR.2 with ⟨a, b1, b2, b3, b4⟩ | ⟨a, n, B, C, M, pt, pm, hI⟩
  · rw [a, if_pos rfl, b1, if_pos (by decide)]
    exact ⟨-1, rfl, rfl⟩
  · obtain ⟨-, ⟨hC, hT, hTh⟩, -⟩ := hI
    have := hT.2.2.1
    rw [a, b1_ret, if_neg (show ¬ (1 : Int32) = 0 by decide), hT.1, if_neg (nI_nle (by omega) (by omega))]
    by_cases c : x1 < 0
    · rw [if_pos c, if_pos c]
      exact ⟨-1, rfl, rfl⟩
    · rw [if_neg c, if_neg c]
      obtain ⟨j, hj, e⟩ := nI_of c
      subst e
      rw [show (5 : Int32) = nI 5 from rfl, if_le (by omega) (by omega), if_le (by omega) (by omega)]
      by_cases c5 : 5 ≤ j
      · rw [if_pos c5, if_pos c5]
        exact ⟨-1, rfl, rfl⟩
      · rw [if_neg c5, if_neg c5, ix_in (by omega) (by omega), ix_in (by omega) (by omega), nI_clamp hj, hTh j (by omega)]
        exact ⟨_, rfl, rfl⟩
theorem class_dec {σ τ : St} (x : Int32) (hR : Rel σ τ) : (F_X0_has x σ = some 0 ∧ F_X8_isClass x τ = some 0) ∨ (∃ (n : Nat) (B : Nat → Nat) (C M : Nat) (pt pm : Nat → Nat) (c : Nat), Img n B C M pt pm σ τ ∧ c < C ∧ x = nI c ∧ F_X0_has x σ = some 1 ∧ F_X8_isClass x τ = some 1) := by
  unfold F_X0_has F_X8_isClass
  rcases hR.2 with ⟨a, b1, b2, b3, b4⟩ | ⟨a, n, B, C, M, pt, pm, hI⟩
  · left
    rw [a, b1, if_pos rfl]
    refine ⟨?_, rfl⟩
    by_cases c : x < 0
    · rw [if_pos c]
    · rw [if_neg c, if_pos (Int32.not_lt.mp c)]
  · have hT := hI.2.1.2.1
    have := hT.2.2.1
    rw [a, if_neg (show ¬ (1 : Int32) = 0 by decide), hT.1, hT.2.1]
    by_cases c : x < 0
    · left
      rw [if_pos c, if_pos c]
      exact ⟨rfl, rfl⟩
    · obtain ⟨j, hj, e⟩ := nI_of c
      subst e
      rw [if_neg c, if_neg c, if_le (by omega) (by omega), if_le (by omega) (by omega)]
      by_cases cj : C ≤ j
      · left
        rw [if_pos cj, if_pos cj]
        exact ⟨rfl, rfl⟩
      · right
        rw [if_neg cj, if_neg cj, show (32 : Int32) = nI 32 from rfl, if_le (by omega) (by omega), if_neg (by omega)]
        exact ⟨n, B, C, M, pt, pm, j, hI, by omega, rfl, rfl, rfl⟩
theorem meth_dec {σ τ : St} (x : Int32) (hR : Rel σ τ) : (F_X3_has x σ = some 0 ∧ F_X8_isMethod x τ = some 0) ∨ (∃ (n : Nat) (B : Nat → Nat) (C M : Nat) (pt pm : Nat → Nat) (c : Nat), Img n B C M pt pm σ τ ∧ c < M ∧ x = nI c ∧ F_X3_has x σ = some 1 ∧ F_X8_isMethod x τ = some 1) := by
  unfold F_X3_has F_X8_isMethod
  rcases hR.2 with ⟨a, b1, b2, b3, b4⟩ | ⟨a, n, B, C, M, pt, pm, hI⟩
  · left
    rw [a, b2, if_pos rfl]
    refine ⟨?_, rfl⟩
    by_cases c : x < 0
    · rw [if_pos c]
    · rw [if_neg c, if_pos (Int32.not_lt.mp c)]
  · have hI' := hI
    obtain ⟨-, -, ⟨-, hM, h4, h15, -⟩, -⟩ := hI'
    rw [a, if_neg (show ¬ (1 : Int32) = 0 by decide), h4, h15]
    by_cases c : x < 0
    · left
      rw [if_pos c, if_pos c]
      exact ⟨rfl, rfl⟩
    · obtain ⟨j, hj, e⟩ := nI_of c
      subst e
      rw [if_neg c, if_neg c, if_le (by omega) (by omega), if_le (by omega) (by omega)]
      by_cases cj : M ≤ j
      · left
        rw [if_pos cj, if_pos cj]
        exact ⟨rfl, rfl⟩
      · right
        rw [if_neg cj, if_neg cj, show (64 : Int32) = nI 64 from rfl, if_le (by omega) (by omega), if_neg (by omega)]
        exact ⟨n, B, C, M, pt, pm, j, hI, by omega, rfl, rfl, rfl⟩
theorem classOf_both {σ τ : St} (x1 x2 x3 : Int32) (hR : Rel σ τ) : ∃ r : Int32, F_X7_classOf x1 x2 x3 σ = some r ∧ F_X8_classOf x1 x2 x3 τ = some r := by
  unfold F_X7_classOf F_X8_classOf F_X0_upper F_X0_fieldType F_X0_fields F_X0_slotMethod
  rw [b1_ret, b1_ret, b1_ret, b1_ret]
  rcases class_dec x1 hR with ⟨h1, h2⟩ | ⟨n, B, C, M, pt, pm, c, hI, hc, rfl, h1, h2⟩
  · rw [h1, h2, b1_some, if_pos rfl, b1_some, if_pos rfl, b1_some, b1_some, if_pos rfl, b1_some, if_pos rfl]
    refine ⟨-1, ?_, rfl⟩
    by_cases c0 : x2 = 0
    · rw [if_pos c0]
    · rw [if_neg c0]
      by_cases c1 : x2 = 1
      · rw [if_pos c1]
      · rw [if_neg c1]
        by_cases c2 : x2 = 2
        · rw [if_pos c2]
          by_cases c : x3 < 0
          · rw [if_pos c]
          · obtain ⟨j, hj, e⟩ := nI_of c
            subst e
            rw [if_neg c, if_pos (Int32.le_of_lt (m1_lt hj))]
        · rw [if_neg c2]
          by_cases c3 : x2 = 3
          · rw [if_pos c3]
          · rw [if_neg c3]
  · obtain ⟨-, ⟨-, hT, -⟩, -⟩ := hI
    obtain ⟨t3, t8, tC, -, tp, tcls⟩ := hT
    obtain ⟨e, f, hU, u4, hf, f1, f2, hfs, hS⟩ := tcls c hc
    rw [h1, h2]
    simp only [b1_some, if_neg (show ¬ (1 : Int32) = 0 by decide), ix_in (show c < 32 by omega) (show 32 < 2 ^ 31 by omega), nI_clamp (show c < 2 ^ 31 by omega), f1, f2, u4, b1_some]
    by_cases c0 : x2 = 0
    · rw [if_pos c0, if_pos c0]
      exact ⟨_, rfl, rfl⟩
    · rw [if_neg c0, if_neg c0]
      by_cases c1 : x2 = 1
      · rw [if_pos c1, if_pos c1]
        exact ⟨_, rfl, rfl⟩
      · rw [if_neg c1, if_neg c1]
        by_cases c2 : x2 = 2
        · rw [if_pos c2, if_pos c2]
          by_cases cx : x3 < 0
          · rw [if_pos cx, if_pos cx]
            exact ⟨_, rfl, rfl⟩
          · obtain ⟨j, hj, ej⟩ := nI_of cx
            subst ej
            rw [if_neg cx, if_neg cx, if_le (by omega) hj]
            by_cases cf : f ≤ j
            · rw [if_pos cf, if_le (by omega) hj, if_pos cf]
              exact ⟨_, rfl, rfl⟩
            · rw [if_neg cf, if_le (by omega) hj, if_neg cf, show (15 : Int32) = nI 15 from rfl, pk_mul, pk_mul, nI_add, nI_add, Nat.mul_comm c 15, ix_in (by omega) (by omega), ix_in (by omega) (by omega), nI_clamp (by omega), hfs j (by omega)]
              exact ⟨_, rfl, rfl⟩
        · rw [if_neg c2, if_neg c2]
          by_cases c3 : x2 = 3
          · rw [if_pos c3, if_pos c3]
            by_cases cx : x3 < 0
            · rw [if_pos cx, if_pos cx]
              exact ⟨_, rfl, rfl⟩
            · obtain ⟨j, hj, ej⟩ := nI_of cx
              subst ej
              rw [if_neg cx, if_neg cx, show (16 : Int32) = nI 16 from rfl, if_le (by omega) hj, if_le (by omega) hj]
              by_cases cf : 16 ≤ j
              · rw [if_pos cf, if_pos cf]
                exact ⟨_, rfl, rfl⟩
              · rw [if_neg cf, if_neg cf, pk_mul, pk_mul, nI_add, nI_add, Nat.mul_comm c 16, ix_in (by omega) (by omega), ix_in (by omega) (by omega), nI_clamp (by omega), (hS.1 j (by omega)).1]
                exact ⟨_, rfl, rfl⟩
          · rw [if_neg c3, if_neg c3]
            exact ⟨_, rfl, rfl⟩
theorem reach_both {n C M : Nat} {B pt pm : Nat → Nat} {σ τ : St} (hI : Img n B C M pt pm σ τ) (y : Int32) : ∀ (N c k m1 m2 : Nat), c < N → c < C → k + c ≤ 31 → c + 1 < m1 → c + 1 < m2 → ∃ r : Int32, (r = 0 ∨ r = 1) ∧ F_X0_reaches_5 m1 y (nI c) (nI k) σ = some r ∧ ((∃ d, d < C ∧ y = nI d) → F_X8_isA_20 m2 y (nI c) τ = some r) ∧ (¬ (∃ d, d < C ∧ y = nI d) → r = 0) := by
  obtain ⟨-, ⟨-, hT, -⟩, -⟩ := hI
  obtain ⟨t3, t8, tC, -, tp, tcls⟩ := hT
  intro N
  induction N with
  | zero => intro c k m1 m2 h; omega
  | succ N ih =>
    intro c k m1 m2 hN hc hk hm1 hm2
    obtain ⟨m1, rfl⟩ : ∃ m', m1 = m' + 1 := ⟨m1 - 1, by omega⟩
    obtain ⟨m2, rfl⟩ : ∃ m', m2 = m' + 1 := ⟨m2 - 1, by omega⟩
    obtain ⟨e, f, hU, u4, -⟩ := tcls c hc
    have h32 : ¬ (32 : Int32) ≤ nI k := nI_ge (b := 32) (by omega) (by omega)
    rw [F_X0_reaches_5, if_neg h32, has_in tC t3 hc, b1_some, if_neg (show ¬ (1 : Int32) = 0 by decide), F_X8_isA_20, if_neg (nI_pos (show c < 2 ^ 31 by omega))]
    by_cases cy : nI c = y
    · rw [if_pos cy, if_pos cy]
      refine ⟨1, Or.inr rfl, rfl, fun _ => ?_, fun h => absurd ⟨c, hc, cy.symm⟩ h⟩
      unfold F_X8_isA_39
      rw [if_pos cy]
    · rw [if_neg cy, if_neg cy, ix_in (by omega) (by omega), nm_eq, nm_eq, ix_in (by omega) (by omega), nm_eq, nI_clamp (by omega), u4, show nI k + 1 = nI (k + 1) from nI_1 k]
      rcases hU with ⟨hu, -⟩ | ⟨u, hu, hu', -⟩
      · obtain ⟨m1, rfl⟩ : ∃ m', m1 = m' + 1 := ⟨m1 - 1, by omega⟩
        obtain ⟨m2, rfl⟩ : ∃ m', m2 = m' + 1 := ⟨m2 - 1, by omega⟩
        refine ⟨0, Or.inl rfl, ?_, fun h => ?_, fun _ => rfl⟩
        · rw [hu, F_X0_reaches_5, has_m1, b1_some, if_pos rfl]
          by_cases z : (32 : Int32) ≤ nI (k + 1)
          · rw [if_pos z]
          · rw [if_neg z]
        · obtain ⟨d, hd, e2⟩ := h
          rw [hu, F_X8_isA_20, if_pos (by decide)]
          unfold F_X8_isA_39
          rw [e2, if_neg (fun z => ne_m1 (by omega) z.symm)]
      · rw [hu']
        exact ih u (k + 1) m1 m2 (by omega) (by omega) (by omega) (by omega) (by omega)
theorem isA_both {σ τ : St} (x1 x2 : Int32) (hR : Rel σ τ) : ∃ r : Int32, F_X7_isA x1 x2 σ = some r ∧ F_X8_isA x1 x2 τ = some r := by
  have hfu : fu = 9000 := rfl
  unfold F_X7_isA F_X8_isA F_X0_reaches
  rcases class_dec x1 hR with ⟨h1, h2⟩ | ⟨n, B, C, M, pt, pm, c, hI, hc, rfl, h1, h2⟩
  · refine ⟨0, ?_, by rw [h2, b1_some, if_pos rfl]⟩
    rw [show fu = 8999 + 1 from rfl, F_X0_reaches_5, if_neg (by decide), h1, b1_some, if_pos rfl, b1_some, bo_0]
  · have tC := hI.2.1.2.1.2.2.1
    obtain ⟨r, hr, z1, z2, z3⟩ := reach_both hI x2 (c + 1) c 0 fu fu (by omega) hc (by omega) (by omega) (by omega)
    have z1' : F_X0_reaches_5 fu x2 (nI c) 0 σ = some r := z1
    rw [h2, b1_some, if_neg (show ¬ (1 : Int32) = 0 by decide), z1', b1_some]
    have hbo : bo r (some r) = some r := by
      rcases hr with rfl | rfl
      · exact bo_0 _
      · exact bo_1 _
    refine ⟨r, hbo, ?_⟩
    have hT := hI.2.1.2.1
    by_cases hd : ∃ d, d < C ∧ x2 = nI d
    · obtain ⟨d, hd1, rfl⟩ := hd
      have : F_X8_isClass (nI d) τ = some 1 := by
        rcases class_dec (nI d) hR with ⟨g1, g2⟩ | ⟨_, _, _, _, _, _, _, _, _, _, _, g2⟩
        · rw [has_in tC hT.1 hd1] at g1
          exact absurd g1 (by decide)
        · exact g2
      rw [this, b1_some, if_neg (show ¬ (1 : Int32) = 0 by decide)]
      exact z2 ⟨d, hd1, rfl⟩
    · have : F_X8_isClass x2 τ = some 0 := by
        rcases class_dec x2 hR with ⟨g1, g2⟩ | ⟨_, _, C', _, _, _, d, hI', hd', e, g1, g2⟩
        · exact g2
        · exfalso
          apply hd
          have a1 := hI'.2.1.2.1.1
          have a2 := hI'.2.1.2.1.2.2.1
          rw [hT.1] at a1
          have := (nI_eq (by omega) (by omega)).mp a1
          exact ⟨d, by omega, e⟩
      rw [this, b1_some, if_pos rfl, z3 hd]
