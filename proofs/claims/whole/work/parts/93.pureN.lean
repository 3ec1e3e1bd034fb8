/-! the code of a method: operands that name a method or a place -/
def w1 (op : Nat) : Nat := ([4, 0, 1, 1, 0, 0, 0, 0, 0, 0, 0, 0, 0, 0, 0, 0, 0, 0, 0, 1, 1, 2, 2, 2, 2, 2, 1, 1, 1, 1, 1, 1, 0, 0, 0, 1, 1, 0, 0, 0, 0, 0] : List Nat).getD op 0
def w2 (op : Nat) : Nat := ([0, 0, 0, 0, 0, 0, 0, 0, 0, 0, 0, 0, 0, 0, 0, 0, 0, 0, 0, 2, 2, 0, 0, 0, 0, 0, 0, 1, 1, 0, 0, 0, 0, 0, 0, 0, 1, 0, 0, 0, 0, 0] : List Nat).getD op 0
theorem w1_X (σ : St) {op : Nat} (h : op < 42) : F_X4_width (tF op) σ = some (nI (w1 op)) := by
  have z : ∀ op, op < 42 → F_X4_width (tF op) (fun _ _ => 0) = some (nI (w1 op)) := by decide +kernel
  exact z op h
theorem w2_X (σ : St) {op : Nat} (h : op < 42) : F_X4_width (tS op) σ = some (nI (w2 op)) := by
  have z : ∀ op, op < 42 → F_X4_width (tS op) (fun _ _ => 0) = some (nI (w2 op)) := by decide +kernel
  exact z op h
theorem wid_eq : ∀ op, op < 42 → wid op = 1 + w1 op + w2 op ∧ w1 op ≤ 4 ∧ w2 op ≤ 2 := by decide
theorem tab_none : ∀ op, op < 42 → (op < 19 ∨ 25 < op) → op ≠ 35 → tF op ≠ 8 ∧ tF op ≠ 4 ∧ tS op ≠ 4 := by decide +kernel
theorem tab_jump : ∀ op, op < 42 → 21 ≤ op → op ≤ 25 → tF op = 4 ∧ tS op ≠ 4 ∧ wid op = 3 := by decide +kernel
theorem tab_cond : ∀ op, op < 42 → (op = 19 ∨ op = 20) → tF op ≠ 8 ∧ tF op ≠ 4 ∧ tS op = 4 ∧ wid op = 4 ∧ w1 op = 1 := by decide +kernel
theorem X_code1 {n M m s len cnt hc p i : Nat} {B : Nat → Nat} {σ τ : St} (h : Mt n M m s len cnt hc B σ τ) (hi : i < cnt) (hcnt : cnt ≤ 1000) (hp : p < n) (hop : B p < 42) (m1 : Nat) :
    F_X1_misfit_27 (m1 + 1) (nI m) (nI M) (nI cnt) (nI p) (nI i) σ = (if tF (B p) = 8 then (b1 (F_X5_byteAt (nI (p + 1)) σ) fun r11 => (if r11 < nI M then (F_X1_misfit_85 (F_X1_misfit_27 m1) (nI m) (nI M) (nI cnt) (nI p) (nI i) (nI (B p)) (tF (B p)) (nI (p + 1 + w1 (B p))) σ) else (some (nI (p + 1))))) else (F_X1_misfit_85 (F_X1_misfit_27 m1) (nI m) (nI M) (nI cnt) (nI p) (nI i) (nI (B p)) (tF (B p)) (nI (p + 1 + w1 (B p))) σ)) := by
  obtain ⟨a1, a2, a3, a4, a5, a6, a7, a8, a9, a10, a11, a12, a13, a14, a15, a16, a17, a18, a19, a20, a21⟩ := h
  rw [F_X1_misfit_27, if_le (by omega) (by omega), if_neg (by omega), byteAt_in a3 a19 a20 hp, b1_some, fst_X σ hop, b1_some, w1_X σ hop, b1_some, nm_eq, show nI p + 1 = nI (p + 1) from nI_1 p, nI_add]
theorem op_step {n M m s len cnt hc p i : Nat} {B : Nat → Nat} {σ τ : St} {w : Option Nat} (h : Mt n M m s len cnt hc B σ τ) (h6 : τ 0 6 = -1) (hi : i < cnt) (hcnt : cnt ≤ 1000) (hps : s ≤ p) (hpw : p + wid (B p) ≤ s + len) (hop : B p < 42) (hbeg : τ 3 p ≠ 0) (hw : ∀ q, w = some q → q ≤ p) :
    ∃ (t : Nat) (r : Int32), p ≤ t ∧ t < p + wid (B p) ∧ (r = 0 ∨ r = 1) ∧ (∀ m2, F_X8_checkCode_7 (m2 + 1) (nI m) (nI p) (Wn w τ) = F_X8_checkCode_135 (F_X8_checkCode_7 m2) (nI m) (nI p) (Wn (nx w t r) τ)) ∧
      ∀ m1, F_X1_misfit_27 (m1 + 1) (nI m) (nI M) (nI cnt) (nI p) (nI i) σ = if r = 0 then some (nI t) else F_X1_misfit_140 (F_X1_misfit_27 m1) (nI m) (nI M) (nI cnt) (nI p) (nI i) (nI (B p)) σ := by
  have hh := h
  have hwd := wid_pos _ hop
  obtain ⟨a1, a2, a3, a4, a5, a6, a7, a8, a9, a10, a11, a12, a13, a14, a15, a16, a17, a18, a19, a20, a21⟩ := hh
  have hBX : ∀ k, k < n → B k < 256 := fun k hk => (a20 k hk).1
  have hwn := h.wn (w := w)
  have b3 : Wn w τ 3 p = τ 3 p := by rw [Wn_row (by decide)]
  have b2 : Wn w τ 2 p = nI (B p) := by rw [Wn_row (by decide)]; exact a21 p (by omega)
  have eM : ∀ m2, F_X8_checkCode_7 (m2 + 1) (nI m) (nI p) (Wn w τ) = (if B p = 19 then (F_X8_checkCode_52 (F_X8_checkCode_7 m2) (nI m) (nI p) (nI (B p)) (Wn w τ)) else (if B p = 20 then (F_X8_checkCode_52 (F_X8_checkCode_7 m2) (nI m) (nI p) (nI (B p)) (Wn w τ)) else (if B p < 21 then (F_X8_checkCode_76 (F_X8_checkCode_7 m2) (nI m) (nI p) (nI (B p)) (Wn w τ)) else (if 25 < B p then (F_X8_checkCode_76 (F_X8_checkCode_7 m2) (nI m) (nI p) (nI (B p)) (Wn w τ)) else (F_X8_checkCode_77 (F_X8_checkCode_7 m2) (nI m) (nI p) (nI (B p)) (nI (p + 1)) (Wn w τ)))))) := by
    intro m2
    rw [F_X8_checkCode_7, ix_in (by omega) (by omega), ix_in (by omega) (by omega), nI_clamp (by omega), hwn.2.2.2.2.2.2.2.1.2, hwn.2.2.2.2.2.2.2.2.1.2, nI_add, if_le (by omega) (by omega), if_neg (by omega), ix_in (by omega) (by omega), nI_clamp (by omega), b3, if_neg hbeg, ix_in (by omega) (by omega), nm_eq, b2, show nI p + 1 = nI (p + 1) from nI_1 p]
    rw [show (19 : Int32) = nI 19 from rfl, show (20 : Int32) = nI 20 from rfl, show (21 : Int32) = nI 21 from rfl, show (25 : Int32) = nI 25 from rfl, if_eq (by omega) (by omega), if_eq (by omega) (by omega), if_lt (by omega) (by omega), if_lt (by omega) (by omega)]
  have e102 : ∀ m2 u, B p ≠ 35 → F_X8_checkCode_102 (F_X8_checkCode_7 m2) (nI m) (nI p) (nI (B p)) u = F_X8_checkCode_135 (F_X8_checkCode_7 m2) (nI m) (nI p) u := by
    intro m2 u hne
    unfold F_X8_checkCode_102
    rw [show (35 : Int32) = nI 35 from rfl, if_eq (by omega) (by omega), if_neg hne]
  have e77 : ∀ m2 t, t + 1 < n → p ≤ t → B p ≠ 35 → F_X8_checkCode_77 (F_X8_checkCode_7 m2) (nI m) (nI p) (nI (B p)) (nI t) (Wn w τ) = F_X8_checkCode_135 (F_X8_checkCode_7 m2) (nI m) (nI p) (Wn (nx w t (bg τ s len (tw B t))) τ) := by
    intro m2 t ht hpt hne
    have hV : tw B t < 65536 := tw_lt (hBX t (by omega)) (hBX (t + 1) ht)
    have z := (begins_both hwn (V := tw B t) (by omega)).2
    have z' : bg (Wn w τ) s len (tw B t) = bg τ s len (tw B t) := by unfold bg; rw [Wn_row (by decide)]
    unfold F_X8_checkCode_77
    rw [if_neg (ne_m1 (by omega)), two_M a3 hBX hwn.2.2.2.2.2.2.2.2.2.2.2.2.2.2.2.2.2.2.2.2 ht, b1_some, z, z', b1_some, note_M h6 (by omega) (fun q hq => by have := hw q hq; omega), b1_some, e102 m2 _ hne]
  have e85 : ∀ m1 x9, tF (B p) ≠ 4 → F_X1_misfit_85 (F_X1_misfit_27 m1) (nI m) (nI M) (nI cnt) (nI p) (nI i) (nI (B p)) (tF (B p)) x9 σ = F_X1_misfit_113 (F_X1_misfit_27 m1) (nI m) (nI M) (nI cnt) (nI p) (nI i) (nI (B p)) x9 σ := by
    intro m1 x9 hne
    unfold F_X1_misfit_85
    rw [if_neg hne]
  have e113 : ∀ m1 x9, tS (B p) ≠ 4 → F_X1_misfit_113 (F_X1_misfit_27 m1) (nI m) (nI M) (nI cnt) (nI p) (nI i) (nI (B p)) x9 σ = F_X1_misfit_140 (F_X1_misfit_27 m1) (nI m) (nI M) (nI cnt) (nI p) (nI i) (nI (B p)) σ := by
    intro m1 x9 hne
    unfold F_X1_misfit_113
    rw [snd_X σ hop, b1_some, if_neg hne]
  by_cases c1 : B p = 19 ∨ B p = 20
  · obtain ⟨g1, g2, g3, g4, g5⟩ := tab_cond _ hop c1
    have hV : tw B (p + 2) < 65536 := tw_lt (hBX (p + 2) (by omega)) (hBX (p + 2 + 1) (by omega))
    refine ⟨p + 2, bg τ s len (tw B (p + 2)), by omega, by omega, bg_01, fun m2 => ?_, fun m1 => ?_⟩
    · rw [eM, ← e77 m2 (p + 2) (by omega) (by omega) (by omega)]
      have z : F_X8_checkCode_52 (F_X8_checkCode_7 m2) (nI m) (nI p) (nI (B p)) (Wn w τ) = F_X8_checkCode_77 (F_X8_checkCode_7 m2) (nI m) (nI p) (nI (B p)) (nI (p + 2)) (Wn w τ) := by
        unfold F_X8_checkCode_52
        rw [show nI p + 2 = nI (p + 2) from nI_add p 2]
      rcases c1 with c | c
      · rw [if_pos c, z]
      · rw [if_neg (by omega), if_pos c, z]
    · rw [X_code1 h hi hcnt (by omega) hop, if_neg g1, e85 _ _ g2, g5]
      unfold F_X1_misfit_113
      rw [snd_X σ hop, b1_some, if_pos g3, show p + 1 + 1 = p + 2 by omega, val2_X a3 a19 a20 (by omega), b1_some, (begins_both h (V := tw B (p + 2)) (by omega)).1, b1_some]
  · by_cases c2 : 21 ≤ B p ∧ B p ≤ 25
    · obtain ⟨g1, g2, g3⟩ := tab_jump _ hop c2.1 c2.2
      have hV : tw B (p + 1) < 65536 := tw_lt (hBX (p + 1) (by omega)) (hBX (p + 1 + 1) (by omega))
      refine ⟨p + 1, bg τ s len (tw B (p + 1)), by omega, by omega, bg_01, fun m2 => ?_, fun m1 => ?_⟩
      · rw [eM, if_neg (by omega), if_neg (by omega), if_neg (by omega), if_neg (by omega), ← e77 m2 (p + 1) (by omega) (by omega) (by omega)]
      · rw [X_code1 h hi hcnt (by omega) hop, g1, if_neg (by decide)]
        unfold F_X1_misfit_85
        rw [if_pos rfl, show nI p + 1 = nI (p + 1) from nI_1 p, val2_X a3 a19 a20 (by omega), b1_some, (begins_both h (V := tw B (p + 1)) (by omega)).1, b1_some, e113 _ _ g2]
    · have e76 : ∀ m2, F_X8_checkCode_7 (m2 + 1) (nI m) (nI p) (Wn w τ) = F_X8_checkCode_102 (F_X8_checkCode_7 m2) (nI m) (nI p) (nI (B p)) (Wn w τ) := by
        intro m2
        rw [eM, if_neg (by omega), if_neg (by omega)]
        have z : F_X8_checkCode_76 (F_X8_checkCode_7 m2) (nI m) (nI p) (nI (B p)) (Wn w τ) = F_X8_checkCode_102 (F_X8_checkCode_7 m2) (nI m) (nI p) (nI (B p)) (Wn w τ) := by
          unfold F_X8_checkCode_76 F_X8_checkCode_77
          rw [if_pos rfl]
        rw [z]
        by_cases c3 : B p < 21
        · rw [if_pos c3]
        · rw [if_neg c3, if_pos (by omega)]
      by_cases c35 : B p = 35
      · have g : tF (B p) = 8 ∧ tS (B p) ≠ 4 ∧ wid (B p) = 2 := by rw [c35]; decide +kernel
        have b21 : Wn w τ 2 (p + 1) = nI (B (p + 1)) := by rw [Wn_row (by decide)]; exact a21 (p + 1) (by omega)
        have b15 : Wn w τ 0 15 = nI M := by rw [Wn_0 (by decide)]; exact a18
        have hB1 := hBX (p + 1) (by omega)
        refine ⟨p + 1, if M ≤ B (p + 1) then 0 else 1, by omega, by omega, ?_, fun m2 => ?_, fun m1 => ?_⟩
        · split
          · exact Or.inl rfl
          · exact Or.inr rfl
        · rw [e76]
          unfold F_X8_checkCode_102 F_X8_checkCode_132
          rw [show (35 : Int32) = nI 35 from rfl, if_eq (by omega) (by omega), if_pos c35, show nI p + 1 = nI (p + 1) from nI_1 p, ix_in (by omega) (by omega), nI_clamp (by omega), b21, b15, if_le (by omega) (by omega), note_M h6 (by omega) (fun q hq => by have := hw q hq; omega), note_M h6 (by omega) (fun q hq => by have := hw q hq; omega), b1_some, b1_some]
          by_cases c4 : M ≤ B (p + 1)
          · rw [if_pos c4, if_pos c4]
          · rw [if_neg c4, if_neg c4]
        · rw [X_code1 h hi hcnt (by omega) hop, if_pos g.1, byteAt_in a3 a19 a20 (by omega), b1_some, if_lt (by omega) (by omega), g.1]
          have z : F_X1_misfit_85 (F_X1_misfit_27 m1) (nI m) (nI M) (nI cnt) (nI p) (nI i) (nI (B p)) 8 (nI (p + 1 + w1 (B p))) σ = F_X1_misfit_140 (F_X1_misfit_27 m1) (nI m) (nI M) (nI cnt) (nI p) (nI i) (nI (B p)) σ := by
            unfold F_X1_misfit_85
            rw [if_neg (by decide), e113 _ _ g.2.1]
          rw [z]
          by_cases c4 : M ≤ B (p + 1)
          · rw [if_neg (by omega), if_pos c4, if_pos rfl]
          · rw [if_pos (by omega), if_neg c4, if_neg (by decide)]
      · obtain ⟨g1, g2, g3⟩ := tab_none _ hop (by omega) c35
        refine ⟨p, 1, Nat.le_refl _, by omega, Or.inr rfl, fun m2 => ?_, fun m1 => ?_⟩
        · rw [e76, e102 _ _ c35, nx_ok (by decide)]
        · rw [X_code1 h hi hcnt (by omega) hop, if_neg g1, e85 _ _ g2, e113 _ _ g3, if_neg (by decide)]
theorem skip_M {n M m s len cnt hc : Nat} {B : Nat → Nat} {σ τ : St} (h : Mt n M m s len cnt hc B σ τ) : ∀ (d q m2 : Nat), q + d ≤ s + len → (∀ q', q ≤ q' → q' < q + d → τ 3 q' = 0) → F_X8_checkCode_7 (m2 + d) (nI m) (nI q) τ = F_X8_checkCode_7 m2 (nI m) (nI (q + d)) τ := by
  obtain ⟨a1, a2, a3, a4, a5, a6, a7, a8, a9, -⟩ := h
  intro d
  induction d with
  | zero => intro q m2 _ _; rfl
  | succ d ih =>
    intro q m2 hq hz
    rw [show m2 + (d + 1) = (m2 + d) + 1 by omega, F_X8_checkCode_7, ix_in (by omega) (by omega), ix_in (by omega) (by omega), nI_clamp (by omega), a8.2, a9.2, nI_add, if_le (by omega) (by omega), if_neg (by omega), ix_in (by omega) (by omega), nI_clamp (by omega), hz q (by omega) (by omega), if_pos rfl]
    unfold F_X8_checkCode_135
    rw [nm_eq, show nI q + 1 = nI (q + 1) from nI_1 q, ih (q + 1) m2 (by omega) (fun q' h1 h2 => hz q' (by omega) (by omega)), show q + 1 + d = q + (d + 1) by omega]
