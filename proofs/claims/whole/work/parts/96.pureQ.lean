/-! what ties the two sides between two calls; the call end -/
/-- w fed calls lie on the tape -/
def Tape (w : Nat) (σ τ : St) : Prop := w ≤ 400 ∧ σ 1 1 = nI (5 * w) ∧ τ 0 1 = nI (20 * w) ∧ ∀ k, k < 20 * w → τ 1 k = (ushr (σ 7 (k / 4)) (24 - (8 * (nI k &&& 3)))) &&& 255
def Gone (σ τ : St) : Prop := τ 0 7 = 0 ∧ σ 3 0 = 0 ∧ σ 4 0 = 0 ∧ σ 4 1 = -1 ∧ σ 5 0 = 0
def There (σ τ : St) : Prop := τ 0 7 = 1 ∧ ∃ (n : Nat) (B : Nat → Nat) (C M : Nat) (pt pm : Nat → Nat), Img n B C M pt pm σ τ
def Rel (σ τ : St) : Prop := (∃ w, Tape w σ τ) ∧ (Gone σ τ ∨ There σ τ)
theorem Img.cong {n C M : Nat} {B pt pm : Nat → Nat} {σ τ σ' τ' : St} (h : Img n B C M pt pm σ τ) (hx : ∀ r, r ≠ 1 → r ≠ 7 → σ' r = σ r) (hm : ∀ r, r ≠ 0 → r ≠ 1 → τ' r = τ r) (h0 : ∀ k, k ≠ 1 → k ≠ 6 → k ≠ 7 → τ' 0 k = τ 0 k) : Img n B C M pt pm σ' τ' := by
  obtain ⟨⟨a1, a2, a3, a4, a5⟩, ⟨b1, b2, b3⟩, ⟨c1, c2, c3, c4, c5, c6, c7⟩, d1, e1, f1, g1⟩ := h
  refine ⟨⟨a1, ?_, ?_, ?_, ?_⟩, ⟨b1, ?_, ?_⟩, ⟨c1, c2, ?_, ?_, ⟨c5.1, fun d hd => ?_⟩, c6, c7⟩, ?_, ?_, ?_, ?_⟩
  · rw [hx 2 (by decide) (by decide)]; exact a2
  · rw [h0 4 (by decide) (by decide) (by decide)]; exact a3
  · intro k hk; rw [hx 8 (by decide) (by decide)]; exact a4 k hk
  · intro k hk; rw [hm 2 (by decide) (by decide)]; exact a5 k hk
  · exact b2.cong (hx _ (by decide) (by decide)) (hx _ (by decide) (by decide)) (hx _ (by decide) (by decide)) (hx _ (by decide) (by decide)) (hx _ (by decide) (by decide)) (hx _ (by decide) (by decide)) (h0 _ (by decide) (by decide) (by decide)) (hm _ (by decide) (by decide)) (hm _ (by decide) (by decide)) (hm _ (by decide) (by decide)) (hm _ (by decide) (by decide)) (hm _ (by decide) (by decide))
  · intro j hj; rw [hx 14 (by decide) (by decide), hm 9 (by decide) (by decide)]; exact b3 j hj
  · rw [hx 4 (by decide) (by decide)]; exact c3
  · rw [h0 15 (by decide) (by decide) (by decide)]; exact c4
  · have q := c5.2 d hd
    obtain ⟨⟨P, L, A1, A2, A3, A4, A5, A6, A7, A8, A9, A10, A11⟩, s, len, cnt, hc, B1, B2, B3, B4, B5, B6, B7, B8, B9, B10, B11, B12, B13⟩ := q
    refine ⟨⟨P, L, ?_, ?_, A3, ?_, ?_, ?_, ?_, A8, ?_, ?_, ?_⟩, s, len, cnt, hc, B1, B2, B3, B4, B5, ?_, ?_, ?_, ?_, ?_, B11, B12, ?_⟩
    · rw [hx 15 (by decide) (by decide), hm 10 (by decide) (by decide)]; exact A1
    · rw [hx 15 (by decide) (by decide)]; exact A2
    · rw [hx 16 (by decide) (by decide)]; exact A4
    · rw [hm 11 (by decide) (by decide)]; exact A5
    · intro k hk; rw [hx 17 (by decide) (by decide), hm 12 (by decide) (by decide)]; exact A6 k hk
    · rw [hx 18 (by decide) (by decide), hm 13 (by decide) (by decide)]; exact A7
    · rw [hx 19 (by decide) (by decide)]; exact A9
    · rw [hm 14 (by decide) (by decide)]; exact A10
    · rw [hx 20 (by decide) (by decide), hm 15 (by decide) (by decide)]; exact A11
    · rw [hx 21 (by decide) (by decide), hm 16 (by decide) (by decide)]; exact B6
    · rw [hx 22 (by decide) (by decide), hm 17 (by decide) (by decide)]; exact B7
    · rw [hx 23 (by decide) (by decide)]; exact B8
    · rw [hx 25 (by decide) (by decide), hm 19 (by decide) (by decide)]; exact B9
    · rw [hx 26 (by decide) (by decide), hm 18 (by decide) (by decide)]; exact B10
    · intro q h1 h2; rw [hm 3 (by decide) (by decide)]; exact B13 q h1 h2
  · intro q hq; rw [hm 3 (by decide) (by decide), ← d1 q hq]; unfold bitX; rw [hx 24 (by decide) (by decide)]
  · rw [hx 5 (by decide) (by decide), h0 26 (by decide) (by decide) (by decide)]; exact e1
  · rw [hx 4 (by decide) (by decide), h0 27 (by decide) (by decide) (by decide)]; exact f1
  · obtain ⟨f, hf, e⟩ := g1
    exact ⟨f, hf, by rw [h0 27 (by decide) (by decide) (by decide)]; exact e⟩
/-- what end does with its tape does not touch the image -/
theorem Rel.tape {σ τ σ' τ' : St} (h : Rel σ τ) (hx : ∀ r, r ≠ 1 → r ≠ 7 → σ' r = σ r) (hm : ∀ r, r ≠ 0 → r ≠ 1 → τ' r = τ r) (h0 : ∀ k, k ≠ 1 → τ' 0 k = τ 0 k) {w : Nat} (hT : Tape w σ' τ') : Rel σ' τ' := by
  refine ⟨⟨w, hT⟩, ?_⟩
  rcases h.2 with ⟨a, b, c, d, e⟩ | ⟨a, n, B, C, M, pt, pm, hI⟩
  · refine Or.inl ⟨?_, ?_, ?_, ?_, ?_⟩
    · rw [h0 7 (by decide)]; exact a
    · rw [hx 3 (by decide) (by decide)]; exact b
    · rw [hx 4 (by decide) (by decide)]; exact c
    · rw [hx 4 (by decide) (by decide)]; exact d
    · rw [hx 5 (by decide) (by decide)]; exact e
  · exact Or.inr ⟨by rw [h0 7 (by decide)]; exact a, n, B, C, M, pt, pm, hI.cong hx hm (fun k h1 _ _ => h0 k h1)⟩
theorem tape0 {σ τ : St} (h1 : σ 1 1 = 0) (h2 : τ 0 1 = 0) : Tape 0 σ τ := ⟨by omega, h1, h2, fun k hk => by omega⟩
def endTail (u : St) : Option (Int32 × St) := b2 (F_X8_readAll (st (st (st (st (st u 0 1 0) 0 5 0) 0 6 (-1)) 0 26 0) 0 7 0)) fun r8 u9 => (if r8 = 0 then (F_X8_end_113 u9) else (b1 (F_X8_checkSlots u9) fun u12 => (F_X8_end_94 fu 0 u12)))
theorem end_copy {n : Nat} (hn : n ≤ 8000) : ∀ (j k m : Nat) (u : St), k + j = n → j < m → (∀ i, i < k → u 2 i = u 1 i ∧ u 3 i = 0) → ∃ u' : St, F_X8_end_26 m (nI n) (nI k) u = endTail u' ∧ (∀ i, i < n → u' 2 i = u 1 i ∧ u' 3 i = 0) ∧ (∀ r, r ≠ 2 → r ≠ 3 → u' r = u r) := by
  intro j
  induction j with
  | zero =>
    intro k m u hk hm hu
    obtain ⟨m, rfl⟩ : ∃ m', m = m' + 1 := ⟨m - 1, by omega⟩
    refine ⟨u, ?_, fun i hi => hu i (by omega), fun _ _ _ => rfl⟩
    rw [F_X8_end_26, if_le (by omega) (by omega), if_pos (by omega)]
    rfl
  | succ j ih =>
    intro k m u hk hm hu
    obtain ⟨m, rfl⟩ : ∃ m', m = m' + 1 := ⟨m - 1, by omega⟩
    obtain ⟨u', z1, z2, z3⟩ := ih (k + 1) m (st (st u 2 k (u 1 k)) 3 k 0) (by omega) (by omega) (fun i hi => by
      have e1 : st (st u 2 k (u 1 k)) 3 k 0 1 i = u 1 i := by rw [st_row (by decide), st_row (by decide)]
      rcases Nat.lt_or_ge i k with y | y
      · rw [e1, st_row (by decide), st_mis (Or.inr (by omega)), st_mis (Or.inr (by omega)), st_row (by decide)]
        exact hu i y
      · have : i = k := by omega
        subst this
        refine ⟨?_, st_hit⟩
        rw [e1, st_row (by decide), st_hit])
    refine ⟨u', ?_, ?_, ?_⟩
    · rw [F_X8_end_26, if_le (by omega) (by omega), if_neg (by omega), ix_in (by omega) (by omega), ix_in (by omega) (by omega), nm_eq, ix_in (by omega) (by omega), nm_eq, nm_eq, nI_clamp (by omega), show nI k + 1 = nI (k + 1) from nI_1 k, z1]
    · intro i hi
      have := z2 i hi
      rw [st_row (by decide), st_row (by decide)] at this
      exact this
    · intro r h2 h3
      rw [z3 r h2 h3, st_row h3, st_row h2]
theorem end_fail {σ τ : St} {q : Nat} (hq : q < 2 ^ 31) (h11 : σ 1 1 = 0) (h6 : τ 0 6 = nI q) (h1 : τ 0 1 = 0) : ∃ (r : Int32) (σ' τ' : St), F_X7_end_85 (nI q) σ = some (r, σ') ∧ F_X8_end_113 τ = some (r, τ') ∧ Rel σ' τ' := by
  refine ⟨-3 - nI q, clr (st σ 3 0 0), st τ 0 7 0, ?_, ?_, ⟨0, tape0 ?_ ?_⟩, Or.inl ⟨st_hit, ?_, ?_, ?_, ?_⟩⟩
  · unfold F_X7_end_85
    rw [if_neg (ne_m1 hq), show F_X0_clear σ = some (st σ 3 0 0) from rfl, b1_some, clear_X, b1_some]
  · unfold F_X8_end_113 F_X8_end_126
    rw [h6, if_pos (nI_pos' hq), bo_0, nm_eq, st_hit, if_pos rfl, st_mis (Or.inr (by decide)), h6]
  · rw [clr_row (by decide), st_row (by decide)]; exact h11
  · rw [st_mis (Or.inr (by decide))]; exact h1
  · rw [clr_row (by decide), st_hit]
  · unfold clr
    rw [fill_row (by decide), st_row (by decide), st_mis (Or.inr (by decide)), st_hit]
  · unfold clr
    rw [fill_row (by decide), st_row (by decide), st_hit]
  · unfold clr
    rw [fill_row (by decide), st_hit]
theorem end_good {σ τ : St} {n C M : Nat} {B pt pm : Nat → Nat} (hI : Img n B C M pt pm σ τ) (h11 : σ 1 1 = 0) (h6 : τ 0 6 = -1) (h1 : τ 0 1 = 0) : ∃ (r : Int32) (σ' τ' : St), F_X7_end_85 (-1) σ = some (r, σ') ∧ F_X8_end_113 τ = some (r, τ') ∧ Rel σ' τ' := by
  refine ⟨σ 5 0, σ, st τ 0 7 1, rfl, ?_, ⟨0, tape0 h11 ?_⟩, Or.inr ⟨st_hit, n, B, C, M, pt, pm, hI.cong (fun _ _ _ => rfl) (fun r h0 _ => st_row h0) (fun k _ _ h7 => st_mis (Or.inr h7))⟩⟩
  · unfold F_X8_end_113 F_X8_end_126
    rw [h6, if_neg (by decide), bo_1, nm_eq, st_hit, if_neg (by decide), st_mis (Or.inr (by decide)), hI.2.2.2.2.1]
  · rw [st_mis (Or.inr (by decide))]; exact h1
theorem end_both {σ τ : St} (x1 : Int32) (hR : Rel σ τ) : ∃ (r : Int32) (σ' τ' : St), F_X7_end x1 σ = some (r, σ') ∧ F_X8_end x1 τ = some (r, τ') ∧ Rel σ' τ' := by
  have hfu : fu = 9000 := rfl
  obtain ⟨w, hw, t11, t01, tb⟩ := hR.1
  have refuse : ∀ kk : Int32 → St → Option (Int32 × St), (∀ u, kk 0 u = some (-1, u)) → ∃ (r : Int32) (σ' τ' : St), b2 (F_X5_take_12 σ) kk = some (r, σ') ∧ F_X8_end_12 τ = some (r, τ') ∧ Rel σ' τ' := by
    intro kk hk
    refine ⟨-1, st σ 1 1 0, st τ 0 1 0, hk (st σ 1 1 0), rfl, hR.tape (w := 0) (fun r h _ => st_row h) (fun r h _ => st_row h) (fun k h => st_mis (Or.inr h)) (tape0 st_hit st_hit)⟩
  unfold F_X7_end F_X8_end F_X5_take
  by_cases c1 : x1 < 0
  · rw [if_pos c1, if_pos c1]
    exact refuse _ (fun _ => rfl)
  · obtain ⟨n, hn31, rfl⟩ := nI_of c1
    rw [if_neg c1, if_neg c1, show F_X6_length σ = some (σ 1 1 * 4) from rfl, b1_some, t11, t01, show nI (5 * w) * 4 = nI (5 * w * 4) from pk_mul (5 * w) 4, if_le hn31 (by omega), if_le hn31 (by omega)]
    by_cases c2 : n ≤ 20 * w
    · rw [if_pos (by omega), if_pos c2, nm_eq, nm_eq, nm_eq, nm_eq, nm_eq, b2_some, if_neg (by decide)]
      obtain ⟨σ1, hσ1⟩ : ∃ s, s = ssw (st (st (st (st σ 1 1 0) 2 1 (nI n)) 2 2 0) 2 3 0) := ⟨_, rfl⟩
      rw [← hσ1]
      have e0 : F_X8_end_26 fu (nI n) 0 (st τ 0 4 (nI n)) = F_X8_end_26 fu (nI n) (nI 0) (st τ 0 4 (nI n)) := rfl
      obtain ⟨u, z1, z2, z3⟩ := end_copy (n := n) (by omega) n 0 fu (st τ 0 4 (nI n)) (by omega) (by omega) (fun i hi => by omega)
      rw [e0, z1]
      obtain ⟨τ1, hτ1⟩ : ∃ s, s = st (st (st (st (st u 0 1 0) 0 5 0) 0 6 (-1)) 0 26 0) 0 7 0 := ⟨_, rfl⟩
      have r1 : ∀ r, r ≠ 0 → τ1 r = u r := fun r h => by rw [hτ1, st_row h, st_row h, st_row h, st_row h, st_row h]
      have hbyte : ∀ k, k < n → (τ 1 k).toNatClampNeg < 256 ∧ τ 1 k = nI (τ 1 k).toNatClampNeg := by
        intro k hk
        obtain ⟨b, hb, e⟩ := pk_andE (ushr (σ 7 (k / 4)) (24 - (8 * (nI k &&& 3)))) (m := 255) 8 (by decide)
        rw [tb k (by omega), e, nI_clamp (by omega)]
        exact ⟨hb, rfl⟩
      have s8 : σ1 8 = σ 7 := by
        rw [hσ1]
        show st (st (st (st σ 1 1 0) 2 1 (nI n)) 2 2 0) 2 3 0 7 = σ 7
        rw [st_row (by decide), st_row (by decide), st_row (by decide), st_row (by decide)]
      have s2 : σ1 2 = st (st (st (st σ 1 1 0) 2 1 (nI n)) 2 2 0) 2 3 0 2 := by rw [hσ1]; rfl
      have s1 : σ1 1 = st (st (st (st σ 1 1 0) 2 1 (nI n)) 2 2 0) 2 3 0 1 := by rw [hσ1]; rfl
      have hS : Sy n (fun k => (τ 1 k).toNatClampNeg) 0 σ1 τ1 := by
        refine ⟨⟨by omega, by omega⟩, ⟨?_, ?_, ?_, ?_, ?_⟩, ?_, ?_, ?_, ?_, ?_⟩
        · rw [s2, st_mis (Or.inr (by decide)), st_mis (Or.inr (by decide)), st_hit]
        · rw [s2, st_mis (Or.inr (by decide)), st_hit]; rfl
        · rw [s2, st_hit]
        · intro k hk
          refine ⟨(hbyte k hk).1, ?_⟩
          rw [s8, ← tb k (by omega)]
          exact (hbyte k hk).2
        · rw [s1, st_row (by decide), st_row (by decide), st_row (by decide), st_hit]
        · rw [hτ1, st_mis (Or.inr (by decide)), st_mis (Or.inr (by decide)), st_mis (Or.inr (by decide)), st_mis (Or.inr (by decide)), st_mis (Or.inr (by decide)), z3 0 (by decide) (by decide), st_hit]
        · rw [hτ1, st_mis (Or.inr (by decide)), st_mis (Or.inr (by decide)), st_mis (Or.inr (by decide)), st_hit]; rfl
        · rw [hτ1, st_mis (Or.inr (by decide)), st_mis (Or.inr (by decide)), st_hit]
        · intro k hk
          rw [r1 2 (by decide), (z2 k hk).1, st_row (by decide)]
          exact (hbyte k hk).2
        · rw [hτ1, st_mis (Or.inr (by decide)), st_mis (Or.inr (by decide)), st_mis (Or.inr (by decide)), st_mis (Or.inr (by decide)), st_hit]
      obtain ⟨σ2, σ3, σ4, p1, p2, p3, hcase⟩ := parse_both hS (fun q hq => by rw [r1 3 (by decide)]; exact (z2 q hq).2) (by rw [hτ1, st_mis (Or.inr (by decide)), st_hit])
      unfold endTail
      rw [← hτ1, p1, b1_some, p2, b1_some, p3, b1_some]
      rcases hcase with ⟨τ2, C, M, pt, pm, e2, hI, k1, k2, k3, k4⟩ | ⟨q, τ2, e2, hSp, hW⟩
      · rw [stopped_X k1 (Or.inl rfl), b1_some, if_pos rfl, e2, b2_some, if_neg (by decide)]
        obtain ⟨w', y1, y2, y3⟩ := misfit_both hI k2
        rw [y2, b1_some, y3]
        cases w' with
        | none => exact end_good hI k3 k2 k4
        | some q => exact end_fail (by have := y1 q rfl; omega) k3 st_hit (by rw [Wn_0 (by decide)]; exact k4)
      · rw [hSp.halt, b1_some, if_neg (by decide), place_X, b1_some, hSp.2.2.2.1, e2, b2_some, if_pos rfl]
        exact end_fail (by have := hSp.1; have := hSp.2.1; omega) hSp.2.2.2.2.2.2 hW.1 hW.2
    · rw [if_neg (by omega), if_neg c2]
      exact refuse _ (fun _ => rfl)
