/-! the places where instructions begin; the code of a method -/
def bt (x : Int32) (i : Nat) : Bool := x.toBitVec.getLsbD i
theorem b_ext {x y : Int32} (h : ∀ i, i < 32 → bt x i = bt y i) : x = y := Int32.toBitVec_inj.mp (BitVec.eq_of_getLsbD_eq (fun i hi => h i hi))
theorem b_or (x y : Int32) (i : Nat) : bt (x ||| y) i = (bt x i || bt y i) := by unfold bt; rw [Int32.toBitVec_or, BitVec.getLsbD_or]
theorem b_and (x y : Int32) (i : Nat) : bt (x &&& y) i = (bt x i && bt y i) := by unfold bt; rw [Int32.toBitVec_and, BitVec.getLsbD_and]
theorem b_0 (i : Nat) : bt 0 i = false := BitVec.getLsbD_zero
theorem b_1 : ∀ i, i < 32 → bt 1 i = decide (i = 0) := by decide +kernel
theorem s_l : ∀ n, n < 32 → ((nI n &&& 31).toBitVec.smod 32).toNat = n := by decide +kernel
theorem s_u : ∀ n, n < 32 → (((nI n).toUInt32 &&& Int32.toUInt32 31).toBitVec % 32).toNat = n := by decide +kernel
theorem b_shl (n : Nat) (hn : n < 32) (x : Int32) {i : Nat} (hi : i < 32) : bt (x <<< (nI n &&& 31)) i = (decide (n ≤ i) && bt x (i - n)) := by
  unfold bt
  rw [Int32.toBitVec_shiftLeft]
  show (x.toBitVec <<< ((nI n &&& 31).toBitVec.smod 32).toNat).getLsbD i = _
  rw [s_l n hn, BitVec.getLsbD_shiftLeft]
  rcases Nat.lt_or_ge i n with h | h
  · simp [h, Nat.not_le.mpr h]
  · simp [hi, h, Nat.not_lt.mpr h]
theorem b_ushr (n : Nat) (hn : n < 32) (x : Int32) (i : Nat) : bt (ushr x (nI n)) i = bt x (n + i) := by
  show (x.toUInt32 >>> ((nI n).toUInt32 &&& Int32.toUInt32 31)).toBitVec.getLsbD i = x.toUInt32.toBitVec.getLsbD (n + i)
  rw [UInt32.toBitVec_shiftRight]
  show (x.toUInt32.toBitVec >>> (((nI n).toUInt32 &&& Int32.toUInt32 31).toBitVec % 32).toNat).getLsbD i = _
  rw [s_u n hn, BitVec.getLsbD_ushiftRight]
theorem and1 (y : Int32) : y &&& 1 = 1 ↔ bt y 0 = true := by
  constructor
  · intro h
    have h2 := b_and y 1 0
    rw [h, b_1 0 (by omega)] at h2
    simpa using h2
  · intro h
    apply b_ext
    intro i hi
    rw [b_and, b_1 i hi]
    by_cases a : i = 0
    · subst a; rw [h]; rfl
    · simp [a]
theorem and31 {q : Nat} (h : q < 2 ^ 32) : nI q &&& 31 = nI (q % 32) := pk_andN h 5 (by decide)
/-- whether an instruction begins at byte q of the image, as the class has it -/
def bitX (σ : St) (q : Nat) : Prop := bt (σ 24 (q / 32)) (q % 32) = true
theorem bitX_iff {σ : St} {q : Nat} (h : q < 2 ^ 32) : (ushr (σ 24 (q / 32)) (nI q &&& 31)) &&& 1 = 1 ↔ bitX σ q := by
  rw [and1, and31 h, b_ushr _ (Nat.mod_lt _ (by omega))]
  rfl
theorem bit_mk {σ : St} {p q : Nat} (hp : p < 8000) : bitX (mk σ p) q ↔ (q = p ∨ bitX σ q) := by
  unfold bitX mk
  rw [st_app]
  by_cases a : q / 32 = p / 32
  · rw [if_pos ⟨rfl, a⟩, b_or, and31 (by omega), b_shl _ (Nat.mod_lt _ (by omega)) _ (Nat.mod_lt _ (by omega)), b_1 _ (by omega), a]
    simp only [Bool.or_eq_true, Bool.and_eq_true, decide_eq_true_eq]
    constructor
    · rintro (h | ⟨h1, h2⟩)
      · exact Or.inr h
      · left; omega
    · rintro (rfl | h)
      · exact Or.inr ⟨Nat.le_refl _, by omega⟩
      · exact Or.inl h
  · rw [if_neg (fun z => a z.2)]
    constructor
    · exact Or.inr
    · rintro (rfl | h)
      · exact absurd rfl a
      · exact h
/-- the place of instruction i of a code that begins at s -/
def pos (B : Nat → Nat) (s : Nat) : Nat → Nat
  | 0 => s
  | i + 1 => pos B s i + wid (B (pos B s i))
theorem wid_pos : ∀ op, op < 42 → 1 ≤ wid op := by decide
theorem pos_mono {B : Nat → Nat} {s : Nat} : ∀ {i : Nat}, (∀ j, j < i → B (pos B s j) < 42) → ∀ j, j < i → pos B s j < pos B s i := by
  intro i
  induction i with
  | zero => intro _ j hj; omega
  | succ i ih =>
    intro h j hj
    have h1 := wid_pos _ (h i (by omega))
    show pos B s j < pos B s i + wid (B (pos B s i))
    rcases Nat.lt_or_ge j i with z | z
    · have := ih (fun j hj => h j (by omega)) j z
      omega
    · rw [show j = i by omega]; omega
theorem pos_ge {B : Nat → Nat} {s : Nat} : ∀ {i : Nat}, (∀ j, j < i → B (pos B s j) < 42) → s + i ≤ pos B s i := by
  intro i
  induction i with
  | zero => intro _; exact Nat.le_refl _
  | succ i ih =>
    intro h
    have h1 := wid_pos _ (h i (by omega))
    have := ih (fun j hj => h j (by omega))
    show s + (i + 1) ≤ pos B s i + wid (B (pos B s i))
    omega
/-- the code from s on, read up to instruction i, at byte p -/
def Chain (B : Nat → Nat) (n s i p : Nat) (σ τ : St) : Prop := p = pos B s i ∧ (∀ j, j < i → B (pos B s j) < 42) ∧ (∀ q, q < n → (bitX σ q ↔ τ 3 q ≠ 0)) ∧ (∀ q, p ≤ q → q < n → τ 3 q = 0) ∧ (∀ q, s ≤ q → q < p → (τ 3 q ≠ 0 ↔ ∃ j, j < i ∧ pos B s j = q))
theorem code_loop {n C m L s len : Nat} {B : Nat → Nat} {pt : Nat → Nat} (hm : m < 64) (hs : s ≤ 8000) (hlen : len ≤ 1000) (hL : L ≤ 12) :
    ∀ (j i p m1 m2 : Nat) (σ τ : St), s + len - p ≤ j → p ≤ s + len → j < m1 → j < m2 → Sy n B p σ τ → Tab C C pt σ τ → τ 14 m = nI L → Chain B n s i p σ τ →
      ∃ (σ' : St) (i' : Nat), F_X1_read_26 m1 (nI m) (nI L) (nI len) (nI s) (nI i) (nI i) σ = F_X1_read_74 (nI m) (nI len) (nI s) (nI i') σ' ∧ FrX [24] σ σ' ∧
        ((∃ τ' : St, F_X8_readMethod_332 m2 (nI m) (nI (s + len)) τ = F_X8_readMethod_332 1 (nI m) (nI (s + len)) τ' ∧ Sy n B (s + len) σ' τ' ∧ (∀ d, d ≠ 0 → d ≠ 3 → τ' d = τ d) ∧ (∀ k, k ≠ 5 → k ≠ 6 → k ≠ 26 → τ' 0 k = τ 0 k) ∧ i ≤ i' ∧ τ' 0 26 = τ 0 26 + nI (i' - i) ∧ (∀ q, q < p → τ' 3 q = τ 3 q) ∧ Chain B n s i' (s + len) σ' τ') ∨
        (∃ (q : Nat) (τ' : St), F_X8_readMethod_332 m2 (nI m) (nI (s + len)) τ = some (0, τ') ∧ Sp n B q σ' ∧ Wr q τ')) := by
  intro j
  induction j with
  | zero =>
    intro i p m1 m2 σ τ hj hp hm1 hm2 hS hT h14 hCh
    obtain ⟨m1, rfl⟩ : ∃ m', m1 = m' + 1 := ⟨m1 - 1, by omega⟩
    obtain ⟨m2, rfl⟩ : ∃ m', m2 = m' + 1 := ⟨m2 - 1, by omega⟩
    have hpe : p = s + len := by omega
    subst hpe
    have hge := pos_ge hCh.2.1
    rw [← hCh.1] at hge
    refine ⟨σ, i, ?_, FrX.rf, Or.inl ⟨τ, ?_, hS, fun _ _ _ => rfl, fun _ _ _ _ => rfl, Nat.le_refl _, ?_, fun _ _ => rfl, hCh⟩⟩
    · rw [F_X1_read_26, if_le (by omega) (by omega), place_X, b1_some, hS.2.1.2.1, nI_add, if_le (by omega) (by omega), if_pos (Nat.le_refl (s + len))]
      by_cases a : len ≤ i
      · rw [if_pos a]
      · rw [if_neg a]
    · rw [F_X8_readMethod_332, F_X8_readMethod_332, hS.2.2.2.1, if_pos (nI_le (Nat.le_refl _) (by omega)), if_pos (nI_le (Nat.le_refl _) (by omega))]
    · rw [show i - i = 0 by omega]
      show τ 0 26 = τ 0 26 + 0
      rw [Int32.add_zero]
  | succ j ih =>
    intro i p m1 m2 σ τ hj hp hm1 hm2 hS hT h14 hCh
    obtain ⟨m1, rfl⟩ : ∃ m', m1 = m' + 1 := ⟨m1 - 1, by omega⟩
    obtain ⟨m2, rfl⟩ : ∃ m', m2 = m' + 1 := ⟨m2 - 1, by omega⟩
    have hge := pos_ge hCh.2.1
    rw [← hCh.1] at hge
    by_cases hpe : p < s + len
    · obtain ⟨σ1, e1, fr1, hcase⟩ := instr_both (L := L) (m := m) (e := s + len) hm (by omega) hpe hS hT h14
      rw [F_X1_read_26, if_le (by omega) (by omega), if_neg (by omega), place_X, b1_some, hS.2.1.2.1, nI_add, if_le (by omega) (by omega), if_neg (by omega), hS.run, b1_some, if_pos rfl, e1, b1_some, nm_eq, nm_eq, show nI i + 1 = nI (i + 1) from nI_1 i]
      rw [F_X8_readMethod_332, hS.2.2.2.1, if_le (by omega) (by omega), if_neg (by omega)]
      rcases hcase with ⟨τ1, e2, hpn, hop, hfit, hS1, frm1, x24⟩ | ⟨q, τ1, e2, hSp, hW⟩
      · rw [e2, b2_some, if_neg (by decide)]
        have hw := wid_pos _ hop
        have hn := hS.1.1
        have f3 : ∀ q, fin τ1 p 3 q = if q = p then 1 else τ 3 q := by
          intro q
          unfold fin
          rw [st_row (by decide), st_app, frm1.1 3 (by decide) (by simp)]
          simp
        have fd : ∀ d, d ≠ 0 → d ≠ 3 → fin τ1 p d = τ d := by
          intro d a b
          unfold fin
          rw [st_row a, st_row b, frm1.1 d a (by simp)]
        have f0 : ∀ k, k ≠ 26 → fin τ1 p 0 k = τ1 0 k := by
          intro k a
          unfold fin
          rw [st_mis (Or.inr a), st_mis (Or.inl (by decide))]
        have hS2 : Sy n B (p + wid (B p)) σ1 (fin τ1 p) := hS1.cong rfl rfl rfl (fun k hk => f0 k (by omega)) (by rw [fd 2 (by decide) (by decide)]; exact (frm1.1 2 (by decide) (by simp)).symm)
        have hT2 : Tab C C pt σ1 (fin τ1 p) := hT.cong (fr1 3 (by decide) (by decide)) (fr1 9 (by decide) (by decide)) (fr1 10 (by decide) (by decide)) (fr1 11 (by decide) (by decide)) (fr1 12 (by decide) (by decide)) (fr1 13 (by decide) (by decide)) (by rw [f0 8 (by decide)]; exact frm1.2 8 (by decide) (by decide)) (fd 4 (by decide) (by decide)) (fd 5 (by decide) (by decide)) (fd 6 (by decide) (by decide)) (fd 7 (by decide) (by decide)) (fd 8 (by decide) (by decide))
        have hCh2 : Chain B n s (i + 1) (p + wid (B p)) σ1 (fin τ1 p) := by
          obtain ⟨c1, c2, c3, c4, c5⟩ := hCh
          refine ⟨by show _ = pos B s i + wid (B (pos B s i)); rw [← c1], ?_, ?_, ?_, ?_⟩
          · intro k hk
            rcases Nat.lt_or_ge k i with z | z
            · exact c2 k z
            · rw [show k = i by omega, ← c1]; exact hop
          · intro q hq
            have hb : bitX σ1 q ↔ bitX (mk σ p) q := by unfold bitX; rw [x24]
            rw [hb, bit_mk (by omega), f3]
            by_cases a : q = p
            · rw [if_pos a]; exact ⟨fun _ => by decide, fun _ => Or.inl a⟩
            · rw [if_neg a, ← c3 q hq]
              exact ⟨fun z => z.resolve_left a, Or.inr⟩
          · intro q h1 h2
            rw [f3, if_neg (by omega)]
            exact c4 q (by omega) h2
          · intro q h1 h2
            rw [f3]
            by_cases a : q = p
            · rw [if_pos a]
              exact ⟨fun _ => ⟨i, by omega, by rw [← c1, a]⟩, fun _ => by decide⟩
            · rw [if_neg a]
              rcases Nat.lt_or_ge q p with z | z
              · rw [c5 q h1 z]
                constructor
                · rintro ⟨k, k1, k2⟩; exact ⟨k, by omega, k2⟩
                · rintro ⟨k, k1, k2⟩
                  refine ⟨k, ?_, k2⟩
                  rcases Nat.lt_or_ge k i with y | y
                  · exact y
                  · rw [show k = i by omega, ← c1] at k2; omega
              · rw [c4 q z (by have := hS1.1.2; omega)]
                constructor
                · intro y; exact absurd rfl y
                · rintro ⟨k, k1, k2⟩
                  exfalso
                  rcases Nat.lt_or_ge k i with y | y
                  · have := pos_mono c2 k y
                    rw [k2, ← c1] at this
                    omega
                  · rw [show k = i by omega, ← c1] at k2; omega
        obtain ⟨σ', i', q1, fr2, hc2⟩ := ih (i + 1) (p + wid (B p)) m1 m2 σ1 (fin τ1 p) (by omega) hfit (by omega) (by omega) hS2 hT2 (by rw [fd 14 (by decide) (by decide)]; exact h14) hCh2
        refine ⟨σ', i', q1, fr1.tr fr2, ?_⟩
        rcases hc2 with ⟨τ', q2, hS', fd', f0', hi', t26, low, hCh'⟩ | hbad
        · refine Or.inl ⟨τ', q2, hS', ?_, ?_, by omega, ?_, ?_, hCh'⟩
          · intro d a b; rw [fd' d a b, fd d a b]
          · intro k a b c'; rw [f0' k a b c', f0 k c']; exact frm1.2 k a b
          · rw [t26]
            show (fin τ1 p 0 26) + nI (i' - (i + 1)) = τ 0 26 + nI (i' - i)
            have : fin τ1 p 0 26 = τ 0 26 + nI 1 := by
              unfold fin
              rw [st_hit, frm1.2 26 (by decide) (by decide)]
              rfl
            rw [this, Int32.add_assoc, nI_add, show 1 + (i' - (i + 1)) = i' - i by omega]
          · intro q hq
            rw [low q (by omega), f3, if_neg (by omega)]
        · exact Or.inr hbad
      · rw [e2, b2_some, if_pos rfl]
        obtain ⟨m1, rfl⟩ : ∃ m', m1 = m' + 1 := ⟨m1 - 1, by omega⟩
        refine ⟨σ1, i + 1, ?_, fr1, Or.inr ⟨q, τ1, rfl, hSp, hW⟩⟩
        have hq := hSp.2.1
        have hn := hSp.1
        rw [F_X1_read_26, if_le (by omega) (by omega), place_X, b1_some, hSp.2.2.2.1, nI_add, if_le (by omega) (by omega), hSp.halt, b1_some, if_neg (show ¬ (1 : Int32) = 0 by decide)]
        simp only [ite_self]
    · exact ih i p (m1 + 1) (m2 + 1) σ τ (by omega) hp (by omega) (by omega) hS hT h14 hCh
