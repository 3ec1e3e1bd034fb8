/-! the call instruction; the two sides agree -/
theorem val0_X {σ : St} (x : Int32) : F_X5_valueAt x 0 σ = some 0 := by
  unfold F_X5_valueAt
  rw [show fu = 8999 + 1 from rfl, F_X5_valueAt_5, if_pos (by decide)]
theorem val1_X {n t : Nat} {B : Nat → Nat} {σ : St} (hn : n ≤ 8000) (h1 : σ 2 1 = nI n) (hB : BX σ n B) (ht : t < n) : F_X5_valueAt (nI t) 1 σ = some (nI (B t)) := by
  unfold F_X5_valueAt
  rw [show fu = 8998 + 1 + 1 from rfl, F_X5_valueAt_5, if_neg (by decide), show nI t + 0 = nI t from nI_add t 0, byteAt_in hn h1 hB (by omega), b1_some, nm_eq, nm_eq]
  have e1 : ((0 : Int32) <<< ((8 : Int32) &&& 31)) ||| nI (B t) = nI (B t) := by
    have := two_val (h := 0) (l := B t) (by omega) (hB t (by omega)).1
    rw [show 256 * 0 + B t = B t by omega] at this
    exact this
  rw [e1, F_X5_valueAt_5, if_pos (by decide)]
theorem four (x a b : Int32) : (((x <<< ((8 : Int32) &&& 31)) ||| a) <<< ((8 : Int32) &&& 31)) ||| b = (x <<< ((16 : Int32) &&& 31)) ||| ((a <<< ((8 : Int32) &&& 31)) ||| b) := by
  apply b_ext
  intro i hi
  have e8 : ∀ (y : Int32) (i : Nat), i < 32 → bt (y <<< ((8 : Int32) &&& 31)) i = (decide (8 ≤ i) && bt y (i - 8)) := fun y i hi => b_shl 8 (by omega) y hi
  have e16 : bt (x <<< ((16 : Int32) &&& 31)) i = (decide (16 ≤ i) && bt x (i - 16)) := b_shl 16 (by omega) x hi
  rw [b_or, b_or, b_or, e8 _ i hi, e16, e8 _ i hi, b_or, e8 _ (i - 8) (by omega)]
  by_cases c8 : 8 ≤ i
  · by_cases c16 : 16 ≤ i
    · rw [show i - 8 - 8 = i - 16 by omega]
      simp [c8, c16, show 8 ≤ i - 8 by omega, Bool.or_assoc]
    · simp [c8, c16, show ¬ 8 ≤ i - 8 by omega]
  · simp [c8, show ¬ 16 ≤ i by omega]
theorem val4_X {n t : Nat} {B : Nat → Nat} {σ : St} (hn : n ≤ 8000) (h1 : σ 2 1 = nI n) (hB : BX σ n B) (ht : t + 3 < n) : F_X5_valueAt (nI t) 4 σ = some ((nI (tw B t) <<< ((16 : Int32) &&& 31)) ||| nI (tw B (t + 2))) := by
  unfold F_X5_valueAt
  rw [show fu = 8995 + 1 + 1 + 1 + 1 + 1 from rfl, F_X5_valueAt_5, if_neg (by decide), show nI t + 0 = nI t from nI_add t 0, byteAt_in hn h1 hB (by omega), b1_some, nm_eq, nm_eq]
  have e1 : ((0 : Int32) <<< ((8 : Int32) &&& 31)) ||| nI (B t) = nI (B t) := by
    have := two_val (h := 0) (l := B t) (by omega) (hB t (by omega)).1
    rw [show 256 * 0 + B t = B t by omega] at this
    exact this
  have e2 : (nI (B (t + 2)) <<< ((8 : Int32) &&& 31)) ||| nI (B (t + 3)) = nI (tw B (t + 2)) := two_val (hB (t + 2) (by omega)).1 (hB (t + 3) (by omega)).1
  have e3 : (nI (B t) <<< ((8 : Int32) &&& 31)) ||| nI (B (t + 1)) = nI (tw B t) := two_val (hB t (by omega)).1 (hB (t + 1) (by omega)).1
  rw [e1, F_X5_valueAt_5, if_neg (by decide), show nI t + (0 + 1) = nI (t + 1) from nI_add t 1, byteAt_in hn h1 hB (by omega), b1_some, nm_eq, nm_eq, e3]
  rw [F_X5_valueAt_5, if_neg (by decide), show nI t + (0 + 1 + 1) = nI (t + 2) from nI_add t 2, byteAt_in hn h1 hB (by omega), b1_some, nm_eq, nm_eq]
  rw [F_X5_valueAt_5, if_neg (by decide), show nI t + (0 + 1 + 1 + 1) = nI (t + 3) from nI_add t 3, byteAt_in hn h1 hB (by omega), b1_some, nm_eq, nm_eq]
  rw [F_X5_valueAt_5, if_pos (by decide), four, e2]
theorem tab_else : ∀ op, op < 42 → op ≠ 0 → (op < 19 ∨ 25 < op) → w1 op ≤ 1 ∧ w2 op ≤ 1 ∧ (w2 op = 1 → w1 op = 1) ∧ wid op = 1 + w1 op + w2 op := by decide
theorem tab_w2j : ∀ op, op < 42 → 21 ≤ op → op ≤ 25 → w1 op = 2 ∧ w2 op = 0 := by decide
theorem tab_w2c : ∀ op, op < 42 → (op = 19 ∨ op = 20) → w1 op = 1 ∧ w2 op = 2 := by decide
/-- the instruction at p, asked for its part x3 -/
theorem instr_same {n M m s len cnt hc p V : Nat} {B : Nat → Nat} {σ τ : St} (h : Mt n M m s len cnt hc B σ τ) (x3 : Int32) (hps : p = s + V) (hpw : p + wid (B p) ≤ s + len) (hop : B p < 42) :
    Same (b1 (F_X5_byteAt (nI p) σ) fun r7 => (b1 (F_X4_first r7 σ) fun r9 => (b1 (F_X4_width r9 σ) fun r11 => (if x3 = 0 then (some r7) else (if x3 = 1 then (b1 (F_X5_valueAt (nI p + 1) r11 σ) fun r15 => (some r15)) else (if x3 = 2 then (b1 (F_X4_second r7 σ) fun r18 => (b1 (F_X4_width r18 σ) fun r20 => (b1 (F_X5_valueAt ((nI p + 1) + r11) r20 σ) fun r22 => (some r22)))) else (if x3 = 3 then (b1 (F_X4_length r7 σ) fun r25 => (some (nI V + r25))) else (some (-1)))))))))
      (if x3 < 0 then (some (-1)) else (if x3 ≤ 3 then (ix 8000 (nI p) (nm ((τ 2 (nI p).toNatClampNeg)) fun v13 => (b1 (F_X8_wide v13 τ) fun r15 => (if x3 = 0 then (some v13) else (if x3 = 3 then (some (nI V + r15)) else (if v13 = 0 then (if x3 = 1 then (b1 (F_X8_two (nI p + 1) τ) fun r28 => (b1 (F_X8_two (nI p + 3) τ) fun r30 => (some ((r28 <<< (16 &&& 31)) ||| r30)))) else (some 0)) else (if v13 = 19 then (F_X8_instruction_124 x3 (nI p) τ) else (if v13 = 20 then (F_X8_instruction_124 x3 (nI p) τ) else (if v13 < 21 then (F_X8_instruction_182 x3 (nI p) r15 τ) else (if 25 < v13 then (F_X8_instruction_182 x3 (nI p) r15 τ) else (if x3 = 1 then (b1 (F_X8_two (nI p + 1) τ) fun r25 => (some r25)) else (some 0)))))))))))) else (some (-1)))) := by
  have hwd := wid_eq _ hop
  obtain ⟨a1, a2, a3, a4, a5, a6, a7, a8, a9, a10, a11, a12, a13, a14, a15, a16, a17, a18, a19, a20, a21⟩ := h
  have hBX : ∀ k, k < n → B k < 256 := fun k hk => (a20 k hk).1
  rw [byteAt_in a3 a19 a20 (by omega), b1_some, fst_X σ hop, b1_some, w1_X σ hop, b1_some, snd_X σ hop, b1_some, w2_X σ hop, b1_some, len_X σ _ hop, b1_some, b1_ret, b1_ret, show nI p + 1 = nI (p + 1) from nI_1 p, nI_add, show nI p + 3 = nI (p + 3) from nI_add p 3]
  by_cases cn : x3 < 0
  · rw [if_pos cn, if_neg (fun z => by rw [z] at cn; exact absurd cn (by decide)), if_neg (fun z => by rw [z] at cn; exact absurd cn (by decide)), if_neg (fun z => by rw [z] at cn; exact absurd cn (by decide)), if_neg (fun z => by rw [z] at cn; exact absurd cn (by decide))]
    exact Same.rf _
  · rw [if_neg cn]
    by_cases c3 : x3 ≤ 3
    · rw [if_pos c3, ix_in (by omega) (by omega), nm_eq, nI_clamp (by omega), a21 p (by omega), wide_M τ _ hop, b1_some]
      rw [show (19 : Int32) = nI 19 from rfl, show (20 : Int32) = nI 20 from rfl, show (21 : Int32) = nI 21 from rfl, show (25 : Int32) = nI 25 from rfl, if_eq (by omega) (by omega), if_eq (by omega) (by omega), if_lt (by omega) (by omega), if_lt (by omega) (by omega)]
      have e0 : ∀ (x y : Option Int32), (if nI (B p) = 0 then x else y) = if B p = 0 then x else y := fun x y => if_eq (b := 0) (by omega) (by omega)
      rw [e0]
      obtain ⟨j, hj, ej⟩ := nI_of2 (M := 3) (n := 3) (by decide) cn c3
      subst ej
      match j, hj with
      | 0, _ => exact Same.rf _
      | 3, _ =>
        rw [if_neg (by decide), if_neg (by decide), if_neg (by decide), if_pos (by decide), if_neg (by decide), if_pos (by decide)]
        exact Same.rf _
      | 1, _ =>
        rw [if_neg (show ¬ nI 1 = 0 by decide), if_pos (show nI 1 = 1 by decide), if_neg (show ¬ nI 1 = 0 by decide), if_neg (show ¬ nI 1 = 3 by decide), if_pos (show nI 1 = 1 by decide)]
        by_cases k0 : B p = 0
        · have q1 : w1 (B p) = 4 := by rw [k0]; rfl
          rw [if_pos k0, q1, show nI 4 = 4 from rfl, val4_X a3 a19 a20 (by omega), two_M a3 hBX a21 (by omega), b1_some, two_M a3 hBX a21 (by omega), b1_some]
          exact Same.rf _
        · rw [if_neg k0]
          unfold F_X8_instruction_124 F_X8_instruction_182
          rw [if_pos (show nI 1 = 1 by decide), if_pos (show nI 1 = 1 by decide), b1_ret, show nI p + 1 = nI (p + 1) from nI_1 p, nI_add]
          by_cases kc : B p = 19 ∨ B p = 20
          · obtain ⟨q1, q2⟩ := tab_w2c _ hop kc
            have e : ∀ (x y : Option Int32), (if B p = 19 then x else if B p = 20 then x else y) = x := by
              intro x y
              rcases kc with k | k
              · rw [if_pos k]
              · rw [if_neg (by omega), if_pos k]
            rw [e, q1, show nI 1 = 1 from rfl, val1_X a3 a19 a20 (by omega), ix_in (by omega) (by omega), nI_clamp (by omega), a21 (p + 1) (by omega)]
            exact Same.rf _
          · rw [if_neg (by omega), if_neg (by omega)]
            by_cases kj : 21 ≤ B p ∧ B p ≤ 25
            · obtain ⟨q1, q2⟩ := tab_w2j _ hop kj.1 kj.2
              rw [if_neg (by omega), if_neg (by omega), q1, show nI 2 = 2 from rfl, val2_X a3 a19 a20 (by omega), two_M a3 hBX a21 (by omega)]
              exact Same.rf _
            · obtain ⟨q1, q2, q3, q4⟩ := tab_else _ hop k0 (by omega)
              have e : ∀ (x y : Option Int32), (if B p < 21 then x else if 25 < B p then x else y) = x := by
                intro x y
                by_cases k : B p < 21
                · rw [if_pos k]
                · rw [if_neg k, if_pos (by omega)]
              rw [e, if_le (by omega) (by omega)]
              by_cases kw : w1 (B p) = 0
              · rw [kw, show nI 0 = 0 from rfl, val0_X, if_pos (by omega)]
                exact Same.rf _
              · have kw1 : w1 (B p) = 1 := by omega
                rw [kw1, show nI 1 = 1 from rfl, val1_X a3 a19 a20 (by omega), if_neg (by omega), ix_in (by omega) (by omega), nI_clamp (by omega), a21 (p + 1) (by omega)]
                exact Same.rf _
      | 2, _ =>
        rw [if_neg (show ¬ nI 2 = 0 by decide), if_neg (show ¬ nI 2 = 1 by decide), if_pos (show nI 2 = 2 by decide), if_neg (show ¬ nI 2 = 0 by decide), if_neg (show ¬ nI 2 = 3 by decide), if_neg (show ¬ nI 2 = 1 by decide)]
        by_cases k0 : B p = 0
        · have q1 : w2 (B p) = 0 := by rw [k0]; rfl
          rw [if_pos k0, q1, show nI 0 = 0 from rfl, val0_X]
          exact Same.rf _
        · rw [if_neg k0]
          unfold F_X8_instruction_124 F_X8_instruction_182
          rw [if_neg (show ¬ nI 2 = 1 by decide), if_neg (show ¬ nI 2 = 1 by decide), b1_ret, show nI p + 2 = nI (p + 2) from nI_add p 2, nI_add]
          by_cases kc : B p = 19 ∨ B p = 20
          · obtain ⟨q1, q2⟩ := tab_w2c _ hop kc
            have e : ∀ (x y : Option Int32), (if B p = 19 then x else if B p = 20 then x else y) = x := by
              intro x y
              rcases kc with k | k
              · rw [if_pos k]
              · rw [if_neg (by omega), if_pos k]
            rw [e, q1, q2, show nI 2 = 2 from rfl, show p + 1 + 1 = p + 2 by omega, val2_X a3 a19 a20 (by omega), two_M a3 hBX a21 (by omega)]
            exact Same.rf _
          · rw [if_neg (by omega), if_neg (by omega)]
            by_cases kj : 21 ≤ B p ∧ B p ≤ 25
            · obtain ⟨q1, q2⟩ := tab_w2j _ hop kj.1 kj.2
              rw [if_neg (by omega), if_neg (by omega), q2, show nI 0 = 0 from rfl, val0_X]
              exact Same.rf _
            · obtain ⟨q1, q2, q3, q4⟩ := tab_else _ hop k0 (by omega)
              have e : ∀ (x y : Option Int32), (if B p < 21 then x else if 25 < B p then x else y) = x := by
                intro x y
                by_cases k : B p < 21
                · rw [if_pos k]
                · rw [if_neg k, if_pos (by omega)]
              rw [e, if_le (by omega) (by omega)]
              by_cases kw : w2 (B p) = 0
              · rw [kw, show nI 0 = 0 from rfl, val0_X, if_pos (by omega)]
                exact Same.rf _
              · have kw2 : w2 (B p) = 1 := by omega
                have kw1 := q3 kw2
                rw [kw2, kw1, show nI 1 = 1 from rfl, show p + 1 + 1 = p + 2 by omega, val1_X a3 a19 a20 (by omega), if_neg (by omega), ix_in (by omega) (by omega), nI_clamp (by omega), a21 (p + 2) (by omega)]
                exact Same.rf _
      | j + 4, hj => exact absurd hj (by omega)
    · rw [if_neg c3, if_neg (fun z => c3 (by rw [z]; decide)), if_neg (fun z => c3 (by rw [z]; decide)), if_neg (fun z => c3 (by rw [z]; decide)), if_neg (fun z => c3 (by rw [z]; decide))]
      exact Same.rf _
theorem instruction_same {σ τ : St} (x1 x2 x3 : Int32) (hR : Rel σ τ) : ∃ r : Int32, F_X7_instruction x1 x2 x3 σ = some r ∧ F_X8_instruction x1 x2 x3 τ = some r := by
  unfold F_X7_instruction F_X3_instructionFact F_X8_instruction
  rw [b1_ret]
  rcases meth_dec x1 hR with ⟨h1, h2⟩ | ⟨n, B, C, M, pt, pm, m, hI, hm, rfl, h1, h2⟩
  · rw [h1, h2, b1_some, b1_some, if_pos rfl, if_pos rfl]
    exact ⟨-1, rfl, rfl⟩
  · obtain ⟨s, len, cnt, hc, hs1, hs2, hMt⟩ := img_mt hI hm
    have hMt' := hMt
    obtain ⟨a1, a2, a3, a4, a5, a6, a7, a8, a9, a10, a11, a12, a13, a14, a15, a16, a17, a18, a19, a20, a21⟩ := hMt'
    rw [h1, h2, b1_some, b1_some, if_neg (show ¬ (1 : Int32) = 0 by decide), if_neg (show ¬ (1 : Int32) = 0 by decide), b1_ret]
    unfold F_X1_fact
    by_cases cn : x2 < 0
    · rw [if_pos cn]
      unfold F_X1_beginsAt
      rw [if_pos cn, b1_some, if_pos rfl]
      exact Same.rf _
    · obtain ⟨V, hV, eV⟩ := nI_of cn
      subst eV
      obtain ⟨z1, z2⟩ := begins_both hMt hV
      rw [if_neg cn, z1, z2, b1_some, b1_some]
      by_cases cb : V < len ∧ τ 3 (s + V) ≠ 0
      · have e : bg τ s len V = 1 := if_pos cb
        obtain ⟨j, hj, ej⟩ := (a15 (s + V) (by omega) (by omega)).mp cb.2
        have g := hMt.at hj
        rw [ej] at g
        simp only [e, if_neg (show ¬ (1 : Int32) = 0 by decide), ix_in (show m < 64 by omega) (show 64 < 2 ^ 31 by omega), nI_clamp (show m < 2 ^ 31 by omega), a8.1, a8.2, nI_add]
        exact instr_same hMt x3 rfl g.2.1 g.2.2.1
      · have e : bg τ s len V = 0 := if_neg cb
        rw [e, if_pos rfl, if_pos rfl]
        exact Same.rf _
theorem agree : Ag Rel := ⟨fun _ _ x1 x2 x3 x4 x5 h => feed_both x1 x2 x3 x4 x5 h, fun _ _ x1 h => end_both x1 h, fun _ _ x1 h => count_both x1 h, fun _ _ x1 x2 x3 h => classOf_both x1 x2 x3 h, fun _ _ x1 x2 h => isA_both x1 x2 h, fun _ _ x1 x2 x3 h => method_same x1 x2 x3 h, fun _ _ x1 x2 x3 h => handler_same x1 x2 x3 h, fun _ _ x1 x2 x3 h => instruction_same x1 x2 x3 h, fun _ _ x1 h => thrown_both x1 h⟩
theorem rel0 : Rel X0 M0 := ⟨⟨0, tape0 rfl rfl⟩, Or.inl ⟨rfl, rfl, rfl, rfl, rfl⟩⟩
