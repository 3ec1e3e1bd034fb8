/-! a whole method; all methods -/
def MethOK (C : Nat) (B : Nat → Nat) (d lo hi : Nat) (σ τ : St) : Prop := HeadOK C d σ τ ∧ ∃ s len cnt hc : Nat, lo < s ∧ 1 ≤ len ∧ len ≤ 1000 ∧ hc ≤ 8 ∧ s + len + 1 + 7 * hc = hi ∧ (σ 21 d = nI s ∧ τ 16 d = nI s) ∧ (σ 22 d = nI len ∧ τ 17 d = nI len) ∧ σ 23 d = nI cnt ∧ (σ 25 d = nI (s + len + 1) ∧ τ 19 d = nI (s + len + 1)) ∧ (σ 26 d = nI hc ∧ τ 18 d = nI hc) ∧ pos B s cnt = s + len ∧ (∀ j, j < cnt → B (pos B s j) < 42) ∧ (∀ q, s ≤ q → q < s + len → (τ 3 q ≠ 0 ↔ ∃ j, j < cnt ∧ pos B s j = q))
theorem MethOK.keep {C d lo hi m : Nat} {B : Nat → Nat} {σ τ σ' τ' : St} (h : MethOK C B d lo hi σ τ) (hd : d < m) (kx : ∀ r, r ≠ 2 → r ≠ 17 → r ≠ 24 → r ≠ 5 → r ≠ 4 → σ' r d = σ r d) (k17 : ∀ i, i < 8 * m → σ' 17 i = σ 17 i) (km : ∀ r, r ≠ 0 → r ≠ 12 → r ≠ 3 → τ' r d = τ r d) (k12 : ∀ i, i < 8 * m → τ' 12 i = τ 12 i) (k3 : ∀ q, q < hi → τ' 3 q = τ 3 q) : MethOK C B d lo hi σ' τ' := by
  obtain ⟨⟨P, L, a1, a2, a3, a4, a5, a6, a7, a8, a9, a10, a11⟩, s, len, cnt, hc, b1, b2, b3, b4, b5, b6, b7, b8, b9, b10, b11, b12, b13⟩ := h
  refine ⟨⟨P, L, ?_, ?_, a3, ?_, ?_, ?_, ?_, a8, ?_, ?_, ?_⟩, s, len, cnt, hc, b1, b2, b3, b4, b5, ⟨?_, ?_⟩, ⟨?_, ?_⟩, ?_, ⟨?_, ?_⟩, ⟨?_, ?_⟩, b11, b12, ?_⟩
  · rw [kx 15 (by decide) (by decide) (by decide) (by decide) (by decide), km 10 (by decide) (by decide) (by decide)]; exact a1
  · rw [kx 15 (by decide) (by decide) (by decide) (by decide) (by decide)]; exact a2
  · rw [kx 16 (by decide) (by decide) (by decide) (by decide) (by decide)]; exact a4
  · rw [km 11 (by decide) (by decide) (by decide)]; exact a5
  · intro k hk
    rw [k17 _ (by omega), k12 _ (by omega)]
    exact a6 k hk
  · rw [kx 18 (by decide) (by decide) (by decide) (by decide) (by decide), km 13 (by decide) (by decide) (by decide)]; exact a7
  · rw [kx 19 (by decide) (by decide) (by decide) (by decide) (by decide)]; exact a9
  · rw [km 14 (by decide) (by decide) (by decide)]; exact a10
  · rw [kx 20 (by decide) (by decide) (by decide) (by decide) (by decide), km 15 (by decide) (by decide) (by decide)]; exact a11
  · rw [kx 21 (by decide) (by decide) (by decide) (by decide) (by decide)]; exact b6.1
  · rw [km 16 (by decide) (by decide) (by decide)]; exact b6.2
  · rw [kx 22 (by decide) (by decide) (by decide) (by decide) (by decide)]; exact b7.1
  · rw [km 17 (by decide) (by decide) (by decide)]; exact b7.2
  · rw [kx 23 (by decide) (by decide) (by decide) (by decide) (by decide)]; exact b8
  · rw [kx 25 (by decide) (by decide) (by decide) (by decide) (by decide)]; exact b9.1
  · rw [km 19 (by decide) (by decide) (by decide)]; exact b9.2
  · rw [kx 26 (by decide) (by decide) (by decide) (by decide) (by decide)]; exact b10.1
  · rw [km 18 (by decide) (by decide) (by decide)]; exact b10.2
  · intro q h1 h2
    rw [k3 q (by omega)]
    exact b13 q h1 h2
/-- the places where instructions begin are the same on both sides, none from p on -/
def Begs (n p : Nat) (σ τ : St) : Prop := (∀ q, q < n → (bitX σ q ↔ τ 3 q ≠ 0)) ∧ ∀ q, p ≤ q → q < n → τ 3 q = 0
theorem method_both {n p m C : Nat} {B : Nat → Nat} {σ τ : St} {pt : Nat → Nat} (hm : m < 64) (hS : Sy n B p σ τ) (hT : Tab C C pt σ τ) (hB : Begs n p σ τ) :
    ∃ σ1 σ2 σ3 : St, F_X3_readHead (nI C) (nI m) σ = some σ1 ∧ F_X1_read (nI m) (σ1 19 m) σ1 = some σ2 ∧ F_X2_read (nI C) (nI m) σ2 = some σ3 ∧ FrX [5, 15, 16, 17, 18, 19, 20, 21, 22, 23, 24, 25, 26] σ σ3 ∧ FrX [5, 15, 16, 17, 18, 19, 20, 21, 22, 23, 24, 25, 26] σ σ2 ∧
      ((∃ (τ' : St) (p' : Nat), F_X8_readMethod (nI m) τ = some (1, τ') ∧ p < p' ∧ Sy n B p' σ3 τ' ∧ Begs n p' σ3 τ' ∧ MethOK C B m p p' σ3 τ' ∧ (∀ r i, r ≠ 2 → r ≠ 5 → r ≠ 17 → r ≠ 24 → i ≠ m → σ3 r i = σ r i) ∧ (∀ i, i < 8 * m → σ3 17 i = σ 17 i) ∧ (∀ r i, r ≠ 0 → r ≠ 3 → r ≠ 12 → i ≠ m → τ' r i = τ r i) ∧ (∀ i, i < 8 * m → τ' 12 i = τ 12 i) ∧ (∀ q, q < p → τ' 3 q = τ 3 q) ∧ (∀ d, d ≠ 0 → d ∉ [3, 10, 11, 12, 13, 14, 15, 16, 17, 18, 19] → τ' d = τ d) ∧ (∀ k, k ≠ 5 → k ≠ 6 → k ≠ 26 → τ' 0 k = τ 0 k) ∧ ∃ cnt, σ3 5 0 = σ 5 0 + nI cnt ∧ τ' 0 26 = τ 0 26 + nI cnt) ∨
      (∃ (q : Nat) (τ' : St), F_X8_readMethod (nI m) τ = some (0, τ') ∧ Sp n B q σ3 ∧ Wr q τ')) := by
  have hC := hT.2.2.1
  obtain ⟨σ1, e1, fr1, hcase⟩ := head_both hC hm hS hT.2.1
  rcases hcase with ⟨τ1, p1, f1, hp1, hS1, fm1, ox1, om1, hH⟩ | ⟨q, τ1, f1, hSp, hW⟩
  · have hH' := hH
    obtain ⟨P, L, a1, a2, a3, a4, a5, a6, a7, a8, a9, a10, a11⟩ := hH'
    have hT1 : Tab C C pt σ1 τ1 := hT.cong (fr1 3 (by decide) (by decide)) (fr1 9 (by decide) (by decide)) (fr1 10 (by decide) (by decide)) (fr1 11 (by decide) (by decide)) (fr1 12 (by decide) (by decide)) (fr1 13 (by decide) (by decide)) (fm1.2 8 (by decide) (by decide)) (fm1.1 4 (by decide) (by decide)) (fm1.1 5 (by decide) (by decide)) (fm1.1 6 (by decide) (by decide)) (fm1.1 7 (by decide) (by decide)) (fm1.1 8 (by decide) (by decide))
    have r3 : τ1 3 = τ 3 := fm1.1 3 (by decide) (by decide)
    have r24 : σ1 24 = σ 24 := fr1 24 (by decide) (by decide)
    obtain ⟨σ2, e2, fr2, hc2⟩ := code_both (L := L) hm a8 hS1 hT1 a10 (fun q hq => by
      rw [r3, ← hB.1 q hq]; unfold bitX; rw [r24]) (fun q h1 h2 => by rw [r3]; exact hB.2 q (by omega) h2)
    rw [← a9] at e2
    have frA : FrX [5, 15, 16, 17, 18, 19, 20, 21, 22, 23, 24, 25, 26] σ σ2 := (fr1.mono (by intro d hd; simp at hd ⊢; omega)).tr (fr2.mono (by intro d hd; simp at hd ⊢; omega))
    rcases hc2 with ⟨τ2, len, cnt, f2, l1, l2, hS2, md, m0, n16, n17, x21, x22, x23, t5, t26, low3, hCh⟩ | ⟨q, τ2, f2, hSp, hW⟩
    · have h82 : τ2 0 8 = nI C := by rw [m0 8 (by decide) (by decide) (by decide)]; exact hT1.2.1
      obtain ⟨σ3, e3, fr3, hc3⟩ := hand_both hm hC hS2 h82
      have frB : FrX [5, 15, 16, 17, 18, 19, 20, 21, 22, 23, 24, 25, 26] σ σ3 := frA.tr (fr3.mono (by intro d hd; simp at hd ⊢; omega))
      refine ⟨σ1, σ2, σ3, e1, e2, e3, frB, frA, ?_⟩
      rw [f1, f2]
      rcases hc3 with ⟨τ3, hc, f3, hh, hS3, fm3, x25, x26, n19, n18⟩ | ⟨q, τ3, f3, hSp, hW⟩
      · have k24 : σ3 24 = σ2 24 := fr3 24 (by decide) (by decide)
        have k3 : τ3 3 = τ2 3 := fm3.1 3 (by decide) (by decide)
        have hCh3 := hCh.congX (σ' := σ3) k24
        obtain ⟨c1, c2, c3, c4, c5⟩ := hCh3
        have xr : ∀ r, r ≠ 2 → r ≠ 5 → r ≠ 21 → r ≠ 22 → r ≠ 23 → r ≠ 24 → r ≠ 25 → r ≠ 26 → σ3 r = σ1 r := by
          intro r h2 h5 h21 h22 h23 h24 h25 h26
          rw [fr3 r h2 (by simp; omega), fr2 r h2 (by simp; omega)]
        have mr : ∀ r, r ≠ 0 → r ≠ 3 → r ≠ 16 → r ≠ 17 → r ≠ 18 → r ≠ 19 → τ3 r = τ1 r := by
          intro r h0 h3 h16 h17 h18 h19
          rw [fm3.1 r h0 (by simp; omega), md r h0 h3 h16 h17]
        refine Or.inl ⟨τ3, p1 + 2 + len + 1 + 7 * hc, f3, by omega, hS3, ⟨?_, ?_⟩, ⟨⟨P, L, ?_, ?_, a3, ?_, ?_, ?_, ?_, a8, ?_, ?_, ?_⟩, p1 + 2, len, cnt, hc, by omega, l1, l2, hh, rfl, ⟨?_, ?_⟩, ⟨?_, ?_⟩, ?_, ⟨?_, ?_⟩, ⟨?_, ?_⟩, c1.symm, c2, ?_⟩, ?_, ?_, ?_, ?_, ?_, ?_, ?_, cnt, ?_, ?_⟩
        · intro q hq; rw [k3]; exact c3 q hq
        · intro q h1 h2; rw [k3]; exact c4 q (by omega) h2
        · rw [xr 15 (by decide) (by decide) (by decide) (by decide) (by decide) (by decide) (by decide) (by decide), mr 10 (by decide) (by decide) (by decide) (by decide) (by decide) (by decide)]; exact a1
        · rw [xr 15 (by decide) (by decide) (by decide) (by decide) (by decide) (by decide) (by decide) (by decide)]; exact a2
        · rw [xr 16 (by decide) (by decide) (by decide) (by decide) (by decide) (by decide) (by decide) (by decide)]; exact a4
        · rw [mr 11 (by decide) (by decide) (by decide) (by decide) (by decide) (by decide)]; exact a5
        · intro k hk
          rw [xr 17 (by decide) (by decide) (by decide) (by decide) (by decide) (by decide) (by decide) (by decide), mr 12 (by decide) (by decide) (by decide) (by decide) (by decide) (by decide)]
          exact a6 k hk
        · rw [xr 18 (by decide) (by decide) (by decide) (by decide) (by decide) (by decide) (by decide) (by decide), mr 13 (by decide) (by decide) (by decide) (by decide) (by decide) (by decide)]; exact a7
        · rw [xr 19 (by decide) (by decide) (by decide) (by decide) (by decide) (by decide) (by decide) (by decide)]; exact a9
        · rw [mr 14 (by decide) (by decide) (by decide) (by decide) (by decide) (by decide)]; exact a10
        · rw [xr 20 (by decide) (by decide) (by decide) (by decide) (by decide) (by decide) (by decide) (by decide), mr 15 (by decide) (by decide) (by decide) (by decide) (by decide) (by decide)]; exact a11
        · rw [fr3 21 (by decide) (by decide), x21, st_hit]
        · rw [fm3.1 16 (by decide) (by decide), n16, st_hit]
        · rw [fr3 22 (by decide) (by decide), x22, st_hit]
        · rw [fm3.1 17 (by decide) (by decide), n17, st_hit]
        · rw [fr3 23 (by decide) (by decide), x23, st_hit]
        · rw [x25, st_hit]
        · rw [n19, st_hit]
        · rw [x26, st_hit]
        · rw [n18, st_hit]
        · intro q h1 h2; rw [k3]; exact c5 q h1 h2
        · intro r i h2 h5 h17 h24 hi
          by_cases b21 : r = 21
          · subst b21; rw [fr3 21 (by decide) (by decide), x21, st_mis (Or.inr hi), fr1 21 (by decide) (by decide)]
          by_cases b22 : r = 22
          · subst b22; rw [fr3 22 (by decide) (by decide), x22, st_mis (Or.inr hi), fr1 22 (by decide) (by decide)]
          by_cases b23 : r = 23
          · subst b23; rw [fr3 23 (by decide) (by decide), x23, st_mis (Or.inr hi), fr1 23 (by decide) (by decide)]
          by_cases b25 : r = 25
          · subst b25; rw [x25, st_mis (Or.inr hi), fr2 25 (by decide) (by decide), fr1 25 (by decide) (by decide)]
          by_cases b26 : r = 26
          · subst b26; rw [x26, st_mis (Or.inr hi), fr2 26 (by decide) (by decide), fr1 26 (by decide) (by decide)]
          rw [xr r h2 h5 b21 b22 b23 h24 b25 b26]
          exact ox1.1 r i h2 h17 hi
        · intro i hi
          rw [xr 17 (by decide) (by decide) (by decide) (by decide) (by decide) (by decide) (by decide) (by decide)]
          exact ox1.2 i hi
        · intro r i h0 h3 h12 hi
          by_cases b16 : r = 16
          · subst b16; rw [fm3.1 16 (by decide) (by decide), n16, st_mis (Or.inr hi)]; exact om1.1 16 i h0 h12 hi
          by_cases b17 : r = 17
          · subst b17; rw [fm3.1 17 (by decide) (by decide), n17, st_mis (Or.inr hi)]; exact om1.1 17 i h0 h12 hi
          by_cases b18 : r = 18
          · subst b18; rw [n18, st_mis (Or.inr hi), md 18 (by decide) (by decide) (by decide) (by decide)]; exact om1.1 18 i h0 h12 hi
          by_cases b19 : r = 19
          · subst b19; rw [n19, st_mis (Or.inr hi), md 19 (by decide) (by decide) (by decide) (by decide)]; exact om1.1 19 i h0 h12 hi
          rw [mr r h0 h3 b16 b17 b18 b19]
          exact om1.1 r i h0 h12 hi
        · intro i hi
          rw [mr 12 (by decide) (by decide) (by decide) (by decide) (by decide) (by decide)]
          exact om1.2 i hi
        · intro q hq
          rw [k3, low3 q (by omega), r3]
        · intro d h0 hd
          simp at hd
          rw [mr d h0 (by omega) (by omega) (by omega) (by omega) (by omega), fm1.1 d h0 (by simp; omega)]
        · intro k h5 h6 h26
          rw [fm3.2 k h5 h6, m0 k h5 h6 h26, fm1.2 k h5 h6]
        · rw [fr3 5 (by decide) (by decide), t5, fr1 5 (by decide) (by decide)]
        · rw [fm3.2 26 (by decide) (by decide), t26, fm1.2 26 (by decide) (by decide)]
      · exact Or.inr ⟨q, τ3, f3, hSp, hW⟩
    · obtain ⟨σ3, e3, hSp3, fr3⟩ := hand_stop hSp hm (nI C)
      refine ⟨σ1, σ2, σ3, e1, e2, e3, frA.tr (fr3.mono (by intro d hd; simp at hd ⊢; omega)), frA, Or.inr ⟨q, τ2, by rw [f1, f2], hSp3, hW⟩⟩
  · obtain ⟨σ2, e2, hSp2, fr2⟩ := code_stop hSp hm (σ1 19 m)
    obtain ⟨σ3, e3, hSp3, fr3⟩ := hand_stop hSp2 hm (nI C)
    have frA : FrX [5, 15, 16, 17, 18, 19, 20, 21, 22, 23, 24, 25, 26] σ σ2 := (fr1.mono (by intro d hd; simp at hd ⊢; omega)).tr (fr2.mono (by intro d hd; simp at hd ⊢; omega))
    exact ⟨σ1, σ2, σ3, e1, e2, e3, frA.tr (fr3.mono (by intro d hd; simp at hd ⊢; omega)), frA, Or.inr ⟨q, τ1, f1, hSp3, hW⟩⟩
