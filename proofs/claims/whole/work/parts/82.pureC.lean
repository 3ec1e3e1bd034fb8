/-! one instruction -/
def wid (op : Nat) : Nat := ([5, 1, 2, 2, 1, 1, 1, 1, 1, 1, 1, 1, 1, 1, 1, 1, 1, 1, 1, 4, 4, 3, 3, 3, 3, 3, 2, 3, 3, 2, 2, 2, 1, 1, 1, 2, 3, 1, 1, 1, 1, 1] : List Nat).getD op 1
theorem len_X (σ : St) : ∀ op, op < 42 → F_X4_length (nI op) σ = some (nI (wid op)) := by
  intro op h
  match op, h with
  | 0, _ => rfl
  | 1, _ => rfl
  | 2, _ => rfl
  | 3, _ => rfl
  | 4, _ => rfl
  | 5, _ => rfl
  | 6, _ => rfl
  | 7, _ => rfl
  | 8, _ => rfl
  | 9, _ => rfl
  | 10, _ => rfl
  | 11, _ => rfl
  | 12, _ => rfl
  | 13, _ => rfl
  | 14, _ => rfl
  | 15, _ => rfl
  | 16, _ => rfl
  | 17, _ => rfl
  | 18, _ => rfl
  | 19, _ => rfl
  | 20, _ => rfl
  | 21, _ => rfl
  | 22, _ => rfl
  | 23, _ => rfl
  | 24, _ => rfl
  | 25, _ => rfl
  | 26, _ => rfl
  | 27, _ => rfl
  | 28, _ => rfl
  | 29, _ => rfl
  | 30, _ => rfl
  | 31, _ => rfl
  | 32, _ => rfl
  | 33, _ => rfl
  | 34, _ => rfl
  | 35, _ => rfl
  | 36, _ => rfl
  | 37, _ => rfl
  | 38, _ => rfl
  | 39, _ => rfl
  | 40, _ => rfl
  | 41, _ => rfl
  | k + 42, h => exact absurd h (by omega)
theorem wide_M (τ : St) : ∀ op, op < 42 → F_X8_wide (nI op) τ = some (nI (wid op)) := by
  intro op h
  match op, h with
  | 0, _ => rfl
  | 1, _ => rfl
  | 2, _ => rfl
  | 3, _ => rfl
  | 4, _ => rfl
  | 5, _ => rfl
  | 6, _ => rfl
  | 7, _ => rfl
  | 8, _ => rfl
  | 9, _ => rfl
  | 10, _ => rfl
  | 11, _ => rfl
  | 12, _ => rfl
  | 13, _ => rfl
  | 14, _ => rfl
  | 15, _ => rfl
  | 16, _ => rfl
  | 17, _ => rfl
  | 18, _ => rfl
  | 19, _ => rfl
  | 20, _ => rfl
  | 21, _ => rfl
  | 22, _ => rfl
  | 23, _ => rfl
  | 24, _ => rfl
  | 25, _ => rfl
  | 26, _ => rfl
  | 27, _ => rfl
  | 28, _ => rfl
  | 29, _ => rfl
  | 30, _ => rfl
  | 31, _ => rfl
  | 32, _ => rfl
  | 33, _ => rfl
  | 34, _ => rfl
  | 35, _ => rfl
  | 36, _ => rfl
  | 37, _ => rfl
  | 38, _ => rfl
  | 39, _ => rfl
  | 40, _ => rfl
  | 41, _ => rfl
  | k + 42, h => exact absurd h (by omega)
theorem fst_X (σ : St) {op : Nat} (h : op < 42) : F_X4_first (nI op) σ = some (tF op) := by
  unfold F_X4_first
  rw [if_neg0 (by omega), if_neg (show ¬ Int32.ofNat 42 ≤ nI op from nI_ge h (by omega)), ix_in h (by omega), nI_clamp (by omega)]
theorem snd_X (σ : St) {op : Nat} (h : op < 42) : F_X4_second (nI op) σ = some (tS op) := by
  unfold F_X4_second
  rw [if_neg0 (by omega), if_neg (show ¬ Int32.ofNat 42 ≤ nI op from nI_ge h (by omega)), ix_in h (by omega), nI_clamp (by omega)]
def mk (σ : St) (p : Nat) : St := st σ 24 (p / 32) ((σ 24 (p / 32)) ||| (1 <<< ((nI p &&& 31) &&& 31)))
theorem mark_X (σ : St) {p : Nat} (hp : p < 8000) : F_X1_markBegin (nI p) σ = some (mk σ p) := by
  unfold F_X1_markBegin
  rw [nm_eq, shr5 (by omega), if_neg0 (by omega), show (250 : Int32) = nI 250 from rfl, if_le (by omega) (by omega), if_neg (by omega), ix_in (by omega) (by omega), ix_in (by omega) (by omega), nm_eq, nI_clamp (by omega)]
  rfl
/-- the reference's end of an instruction -/
def fin (τ : St) (p : Nat) : St := st (st τ 3 p 1) 0 26 (τ 0 26 + 1)
theorem m439_1 (τ : St) {p : Nat} (hp : p < 8000) : F_X8_readInstruction_439 (nI p) 1 τ = some (1, fin τ p) := by
  unfold F_X8_readInstruction_439
  rw [if_neg (by decide), ix_in hp (by omega), nm_eq, nm_eq, bo_1, nI_clamp (by omega), st_mis (Or.inl (by decide))]
  rfl
theorem m439_0 (τ : St) (x : Int32) : F_X8_readInstruction_439 x 0 τ = some (0, τ) := by
  unfold F_X8_readInstruction_439
  rw [if_pos rfl, bo_0]
theorem st_st {σ : St} {c k : Nat} {v w : Int32} : st (st σ c k v) c k w = st σ c k w := by
  funext d i
  simp only [st_app]
  by_cases h : d = c ∧ i = k
  · rw [if_pos h, if_pos h]
  · rw [if_neg h, if_neg h, if_neg h]
theorem skip_ok {n p k : Nat} {B : Nat → Nat} {σ τ : St} (h : Sy n B p σ τ) (hk : p + k ≤ n) : F_X5_skip (nI k) σ = some (st σ 2 2 (nI (p + k))) := by
  obtain ⟨⟨h1, h2⟩, ⟨h3, h4, h5, h6, h7⟩, -⟩ := h
  unfold F_X5_skip
  rw [h5, if_pos rfl, h3, h4, pk_sub (by omega), if_le (by omega) (by omega), if_pos (by omega), nm_eq, nI_add]
theorem skip_bad {n p k : Nat} {B : Nat → Nat} {σ τ : St} (h : Sy n B p σ τ) (hk : n < p + k) (hk2 : k < 100) : F_X5_skip (nI k) σ = some (st (st σ 2 2 (nI n)) 2 3 1) := by
  obtain ⟨⟨h1, h2⟩, ⟨h3, h4, h5, h6, h7⟩, -⟩ := h
  unfold F_X5_skip
  rw [h5, if_pos rfl, h3, h4, pk_sub (by omega), if_le (by omega) (by omega), if_neg (by omega)]
  rfl
theorem skip_stop {n q : Nat} {B : Nat → Nat} {σ : St} (h : Sp n B q σ) (x : Int32) : F_X5_skip x σ = some σ := by
  unfold F_X5_skip
  rw [h.2.2.2.2.1, if_neg (by decide)]
theorem Sy.toEnd {n p : Nat} {B : Nat → Nat} {σ τ : St} (h : Sy n B p σ τ) : Sp n B n (st (st σ 2 2 (nI n)) 2 3 1) := by
  obtain ⟨⟨h1, h2⟩, ⟨h3, h4, h5, h6, h7⟩, -⟩ := h
  refine ⟨h1, Nat.le_refl _, ?_, ?_, st_hit, ?_, ?_⟩
  · rw [st_mis (Or.inr (by decide)), st_mis (Or.inr (by decide)), h3]
  · rw [st_mis (Or.inr (by decide)), st_hit]
  · intro k hk
    rw [st_row (by decide), st_row (by decide)]
    exact h6 k hk
  · rw [st_mis (Or.inl (by decide)), st_mis (Or.inl (by decide)), h7]
/-- the reference: k bytes, any -/
def ovs : Nat → St → (St → Option (Int32 × St)) → (St → Option (Int32 × St)) → Option (Int32 × St)
  | 0, u, ok, _ => ok u
  | k + 1, u, ok, bad => b2 (F_X8_over 0 255 u) fun r u' => (if r = 0 then bad u' else ovs k u' ok bad)
theorem ovs_both {n : Nat} {B : Nat → Nat} (ok bad : St → Option (Int32 × St)) : ∀ (k p : Nat) (σ τ : St), Sy n B p σ τ →
    (p + k ≤ n ∧ ∃ τ', ovs k τ ok bad = ok τ' ∧ Sy n B (p + k) (st σ 2 2 (nI (p + k))) τ' ∧ FrM [] τ τ') ∨ (n < p + k ∧ ∃ τ', ovs k τ ok bad = bad τ' ∧ Wr n τ') := by
  intro k
  induction k with
  | zero =>
    intro p σ τ h
    refine Or.inl ⟨h.1.2, τ, rfl, ?_, FrM.rf⟩
    rw [st_self (show σ 2 2 = nI (p + 0) from h.2.1.2.1)]
    exact h
  | succ k ih =>
    intro p σ τ h
    rcases read_both h 0 255 with ⟨hp, hb, g1, g2, e1, e2⟩ | ⟨hno, e1, e2⟩
    · have e : ovs (k + 1) τ ok bad = ovs k (st τ 0 5 (nI (p + 1))) ok bad := by
        rw [ovs, e2, b2_some, if_neg (by decide)]
      rw [e]
      rcases ih (p + 1) _ _ (h.step hp) with ⟨a, τ', b, c, d⟩ | ⟨a, τ', b, c⟩
      · refine Or.inl ⟨by omega, τ', b, ?_, (FrM.st (Or.inl ⟨rfl, Or.inl rfl⟩)).tr d⟩
        rw [show p + (k + 1) = p + 1 + k by omega, ← st_st (v := nI (p + 1))]
        exact c
      · exact Or.inr ⟨by omega, τ', b, c⟩
    · have hpn : ¬ p < n := by
        intro hp
        have hb := (h.2.1.2.2.2.1 p hp).1
        rcases hno with z | z | z
        · exact z hp
        · exact not0 _ (by omega) z
        · exact z (nI_le (b := 255) (by omega) (by omega))
      have hpe : p = n := by have := h.1.2; omega
      refine Or.inr ⟨by omega, st τ 0 6 (nI p), ?_, ?_⟩
      · rw [ovs, e2, b2_some, if_pos rfl]
      · rw [← hpe]; exact h.wrong p
/-- the class: operands of an instruction by their kinds -/
def X_ops (f s L : Int32) (u13 : St) : Option St := b2 (F_X1_readOperand f L u13) fun r17 u18 => (if s = 6 then (b1 (F_X0_fields r17 u18) fun r29 => (b2 (F_X5_number 0 (r29 - 1) u18) fun _ u32 => (some u32))) else (if s = 9 then (b1 (F_X1_readSlot r17 u18) fun u27 => (some u27)) else (b2 (F_X1_readOperand s L u18) fun _ u25 => (some u25))))
theorem opd0 {n p : Nat} {B : Nat → Nat} {σ τ : St} (h : Sy n B p σ τ) (L : Int32) : F_X1_readOperand 0 L σ = some (-1, σ) := by
  have h0 : F_X1_readOperand 0 L σ = (b1 (F_X5_skip 0 σ) fun u34 => (some ((-1), u34))) := rfl
  rw [h0, show F_X5_skip 0 σ = F_X5_skip (nI 0) σ from rfl, skip_ok h (k := 0) (by have := h.1.2; omega), b1_some, st_self (show σ 2 2 = nI (p + 0) from h.2.1.2.1)]
theorem opd0_stop {n q : Nat} {B : Nat → Nat} {σ : St} (h : Sp n B q σ) (L : Int32) : F_X1_readOperand 0 L σ = some (-1, σ) := by
  have h0 : F_X1_readOperand 0 L σ = (b1 (F_X5_skip 0 σ) fun u34 => (some ((-1), u34))) := rfl
  rw [h0, skip_stop h, b1_some]
/-- what comes of an instruction's operands -/
def Opd (n : Nat) (B : Nat → Nat) (p w : Nat) (σ τ : St) (x : Option St) (y : Option (Int32 × St)) : Prop :=
  ∃ σ' : St, x = some σ' ∧ FrX [] σ σ' ∧ ((∃ τ', y = some (1, fin τ' p) ∧ Sy n B (p + w) σ' τ' ∧ FrM [] τ τ') ∨ (∃ (q : Nat) (τ' : St), y = some (0, τ') ∧ Sp n B q σ' ∧ Wr q τ'))
theorem op_none {n p : Nat} {B : Nat → Nat} {σ τ : St} (hp : p < 8000) (h : Sy n B (p + 1) σ τ) (L : Int32) : Opd n B p 1 σ τ (X_ops 0 0 L σ) (F_X8_readInstruction_439 (nI p) 1 τ) := by
  unfold X_ops
  rw [opd0 h, b2_some, if_neg (by decide), if_neg (by decide), opd0 h, b2_some, m439_1 τ hp]
  exact ⟨σ, rfl, FrX.rf, Or.inl ⟨τ, rfl, h, FrM.rf⟩⟩
/-- one number, in a range -/
theorem op_num {n p : Nat} {B : Nat → Nat} {σ τ : St} (hp : p < 8000) (h : Sy n B (p + 1) σ τ) (L f l u : Int32) (hf : F_X1_readOperand f L σ = F_X5_number l u σ) : Opd n B p 2 σ τ (X_ops f 0 L σ) (b2 (F_X8_over l u τ) fun r u4 => F_X8_readInstruction_439 (nI p) r u4) := by
  unfold X_ops
  rw [hf]
  rcases read_both h l u with ⟨hp1, hb, g1, g2, e1, e2⟩ | ⟨-, e1, e2⟩
  · rw [e1, e2, b2_some, b2_some, if_neg (by decide), if_neg (by decide), opd0 (h.step hp1), b2_some, m439_1 _ hp]
    exact ⟨_, rfl, FrX.st (Or.inl rfl), Or.inl ⟨_, rfl, h.step hp1, FrM.st (Or.inl ⟨rfl, Or.inl rfl⟩)⟩⟩
  · rw [e1, e2, b2_some, b2_some, if_neg (by decide), if_neg (by decide), opd0_stop h.stop, b2_some, m439_0]
    exact ⟨_, rfl, FrX.st (Or.inl rfl), Or.inr ⟨p + 1, _, rfl, h.stop, h.wrong (p + 1)⟩⟩
/-- bytes that can be any -/
theorem op_any {n p k : Nat} {B : Nat → Nat} {σ τ : St} (hp : p < 8000) (hk : k < 100) (h : Sy n B (p + 1) σ τ) (L f : Int32) (hf : F_X1_readOperand f L σ = (b1 (F_X5_skip (nI k) σ) fun u34 => (some ((-1), u34)))) : Opd n B p (1 + k) σ τ (X_ops f 0 L σ) (ovs k τ (fun u => F_X8_readInstruction_439 (nI p) 1 u) (fun u => F_X8_readInstruction_439 (nI p) 0 u)) := by
  unfold X_ops
  rw [hf]
  rcases ovs_both (fun u => F_X8_readInstruction_439 (nI p) 1 u) (fun u => F_X8_readInstruction_439 (nI p) 0 u) k (p + 1) σ τ h with ⟨a, τ', b, c, d⟩ | ⟨a, τ', b, c⟩
  · rw [skip_ok h a, b1_some, b2_some, if_neg (by decide), if_neg (by decide), opd0 c, b2_some, b]
    exact ⟨_, rfl, FrX.st (Or.inl rfl), Or.inl ⟨τ', m439_1 _ hp, by rw [show p + (1 + k) = p + 1 + k by omega]; exact c, d⟩⟩
  · rw [skip_bad h a hk, b1_some, b2_some, if_neg (by decide), if_neg (by decide), opd0_stop h.toEnd, b2_some, b]
    exact ⟨_, rfl, (FrX.st (Or.inl rfl)).tr (FrX.st (Or.inl rfl)), Or.inr ⟨n, τ', m439_0 _ (nI p), h.toEnd, c⟩⟩
theorem skip_kind {σ : St} (L : Int32) : F_X1_readOperand 4 L σ = (b1 (F_X5_skip (nI 2) σ) fun u34 => (some ((-1), u34))) := rfl
/-- a condition and a place -/
theorem op_cond {n p : Nat} {B : Nat → Nat} {σ τ : St} (hp : p < 8000) (h : Sy n B (p + 1) σ τ) (L : Int32) : Opd n B p 4 σ τ (X_ops 3 4 L σ) (F_X8_readInstruction_146 (nI p) τ) := by
  unfold X_ops
  rw [show F_X1_readOperand 3 L σ = (b2 (F_X5_number 0 5 σ) fun r7 u8 => (some (r7, u8))) from rfl]
  have hM : F_X8_readInstruction_146 (nI p) τ = (b2 (F_X8_over 0 5 τ) fun r2 u3 => (if r2 = 0 then F_X8_readInstruction_439 (nI p) 0 u3 else ovs 2 u3 (fun u => F_X8_readInstruction_439 (nI p) 1 u) (fun u => F_X8_readInstruction_439 (nI p) 0 u))) := rfl
  rw [hM]
  rcases read_both h 0 5 with ⟨hp1, hb, g1, g2, e1, e2⟩ | ⟨-, e1, e2⟩
  · rw [e1, e2, b2_some, b2_some, b2_some, if_neg (show ¬ (1 : Int32) = 0 by decide), if_neg (show ¬ (4 : Int32) = 6 by decide), if_neg (show ¬ (4 : Int32) = 9 by decide), skip_kind]
    have h1 := h.step hp1
    rcases ovs_both (fun u => F_X8_readInstruction_439 (nI p) 1 u) (fun u => F_X8_readInstruction_439 (nI p) 0 u) 2 (p + 1 + 1) _ _ h1 with ⟨a, τ', b, c, d⟩ | ⟨a, τ', b, c⟩
    · rw [skip_ok h1 a, b1_some, b2_some, b]
      exact ⟨_, rfl, (FrX.st (Or.inl rfl)).tr (FrX.st (Or.inl rfl)), Or.inl ⟨τ', m439_1 _ hp, by rw [show p + 4 = p + 1 + 1 + 2 by omega]; exact c, (FrM.st (Or.inl ⟨rfl, Or.inl rfl⟩)).tr d⟩⟩
    · rw [skip_bad h1 a (by omega), b1_some, b2_some, b]
      exact ⟨_, rfl, ((FrX.st (Or.inl rfl)).tr (FrX.st (Or.inl rfl))).tr (FrX.st (Or.inl rfl)), Or.inr ⟨n, τ', m439_0 _ (nI p), h1.toEnd, c⟩⟩
  · rw [e1, e2, b2_some, b2_some, b2_some, if_pos rfl, if_neg (show ¬ (4 : Int32) = 6 by decide), if_neg (show ¬ (4 : Int32) = 9 by decide), skip_kind, skip_stop h.stop, b1_some, b2_some, m439_0]
    exact ⟨_, rfl, FrX.st (Or.inl rfl), Or.inr ⟨p + 1, _, rfl, h.stop, h.wrong (p + 1)⟩⟩
/-- a class, and one of its fields -/
theorem op_field {n p C : Nat} {B : Nat → Nat} {σ τ : St} {pt : Nat → Nat} (hp : p < 8000) (h : Sy n B (p + 1) σ τ) (hT : Tab C C pt σ τ) (L : Int32) : Opd n B p 3 σ τ (X_ops 5 6 L σ) (F_X8_readInstruction_277 (nI p) τ) := by
  have hC := hT.2.2.1
  unfold X_ops F_X8_readInstruction_277 F_X8_overClass
  rw [show F_X1_readOperand 5 L σ = (b2 (F_X5_number 0 ((σ 3 0) - 1) σ) fun r18 u19 => (some (r18, u19))) from rfl, hT.1, hT.2.1]
  rcases read_both h 0 (nI C - 1) with ⟨hp1, hb, g1, g2, e1, e2⟩ | ⟨-, e1, e2⟩
  · have hlt : B (p + 1) < C := (le_pred (by omega) (by omega)).mp g2
    rw [e1, e2, b2_some, b2_some, b2_some, bo_1, b2_some, if_neg (show ¬ (1 : Int32) = 0 by decide), if_pos rfl]
    have h1 := h.step hp1
    obtain ⟨e, f, c1, c2, c3, c4, c5, c6, c7⟩ := hT.2.2.2.2.2 _ hlt
    rw [last_M h1, b1_some, ix_in (by omega) (by omega), nI_clamp (by omega), fields_in hC (by rw [st_row (by decide)]; exact hT.1) hlt, b1_some, st_row (by decide), st_row (by decide), c4, c5]
    rcases read_both h1 0 (nI f - 1) with ⟨hp2, hb2, g3, g4, e3, e4⟩ | ⟨-, e3, e4⟩
    · rw [e3, e4, b2_some, b2_some, if_neg (show ¬ (1 : Int32) = 0 by decide)]
      exact ⟨_, rfl, (FrX.st (Or.inl rfl)).tr (FrX.st (Or.inl rfl)), Or.inl ⟨_, m439_1 _ hp, h1.step hp2, (FrM.st (Or.inl ⟨rfl, Or.inl rfl⟩)).tr (FrM.st (Or.inl ⟨rfl, Or.inl rfl⟩))⟩⟩
    · rw [e3, e4, b2_some, b2_some, if_pos rfl]
      exact ⟨_, rfl, (FrX.st (Or.inl rfl)).tr (FrX.st (Or.inl rfl)), Or.inr ⟨p + 1 + 1, _, m439_0 _ (nI p), h1.stop, h1.wrong (p + 1 + 1)⟩⟩
  · rw [e1, e2, b2_some, b2_some, b2_some, bo_0, b2_some, if_pos rfl, if_pos rfl, fields_m1, b1_some, stopped_number h.stop, b2_some]
    exact ⟨_, rfl, FrX.st (Or.inl rfl), Or.inr ⟨p + 1, _, m439_0 _ (nI p), h.stop, h.wrong (p + 1)⟩⟩
theorem slotMethod_big {σ : St} {C c k : Nat} (hC : C ≤ 32) (h3 : σ 3 0 = nI C) (hc : c < C) (hk : 16 ≤ k) (hk2 : k < 256) : F_X0_slotMethod (nI c) (nI k) σ = some (-1) := by
  unfold F_X0_slotMethod
  rw [has_in hC h3 hc, b1_some, if_neg (by decide), if_neg0 (by omega), show (16 : Int32) = nI 16 from rfl, if_le (by omega) (by omega), if_pos hk]
theorem slotMethod_neg {σ : St} {C c : Nat} (hC : C ≤ 32) (h3 : σ 3 0 = nI C) (hc : c < C) : F_X0_slotMethod (nI c) (-1) σ = some (-1) := by
  unfold F_X0_slotMethod
  rw [has_in hC h3 hc, b1_some, if_neg (by decide), if_pos (by decide)]
theorem stopAt_here {n p : Nat} {B : Nat → Nat} {σ τ : St} (h : Sy n B p σ τ) : (b1 (F_X5_place σ) fun r10 => (b1 (F_X5_stopAt r10 σ) fun u12 => (some u12))) = some (st σ 2 3 1) := by
  rw [place_X, b1_some]
  unfold F_X5_stopAt
  rw [nm_eq, nm_eq, b1_some, st_self rfl]
/-- a class, and a slot that it has -/
theorem op_slot {n p C : Nat} {B : Nat → Nat} {σ τ : St} {pt : Nat → Nat} (hp : p < 8000) (h : Sy n B (p + 1) σ τ) (hT : Tab C C pt σ τ) (L : Int32) :
    Opd n B p 3 σ τ (X_ops 5 9 L σ) (b2 (F_X8_overClass τ) fun r10 u11 => (if r10 = 0 then (F_X8_readInstruction_439 (nI p) r10 u11) else (b1 (F_X8_last u11) fun r14 => (b1 (F_X8_here u11) fun r16 => (if 16 ≤ r16 then (F_X8_readInstruction_410 (nI p) u11) else (b1 (F_X8_here u11) fun r19 => (ix 512 ((16 * r14) + r19) (if (u11 7 (((16 * r14) + r19)).toNatClampNeg) = (-1) then (F_X8_readInstruction_410 (nI p) u11) else (F_X8_readInstruction_411 (nI p) 1 u11))))))))) := by
  have hC := hT.2.2.1
  unfold X_ops F_X8_overClass
  rw [show F_X1_readOperand 5 L σ = (b2 (F_X5_number 0 ((σ 3 0) - 1) σ) fun r18 u19 => (some (r18, u19))) from rfl, hT.1, hT.2.1]
  rcases read_both h 0 (nI C - 1) with ⟨hp1, hb, g1, g2, e1, e2⟩ | ⟨-, e1, e2⟩
  · have hlt : B (p + 1) < C := (le_pred (by omega) (by omega)).mp g2
    rw [e1, e2, b2_some, b2_some, b2_some, bo_1, b2_some, if_neg (show ¬ (1 : Int32) = 0 by decide), if_neg (show ¬ (9 : Int32) = 6 by decide), if_pos rfl]
    have h1 := h.step hp1
    have t3 : st σ 2 2 (nI (p + 1 + 1)) 3 0 = nI C := by rw [st_row (by decide)]; exact hT.1
    have hbad : F_X8_readInstruction_410 (nI p) (st τ 0 5 (nI (p + 1 + 1))) = some (0, st (st τ 0 5 (nI (p + 1 + 1))) 0 6 (nI (p + 1 + 1))) := by
      unfold F_X8_readInstruction_410 F_X8_readInstruction_411
      rw [if_pos rfl, h1.2.2.2.1, bad_M h1.2.2.2.2.1, b2_some]
      exact m439_0 _ (nI p)
    have frx : FrX [] σ (st (st σ 2 2 (nI (p + 1 + 1))) 2 3 1) := (FrX.st (Or.inl rfl)).tr (FrX.st (Or.inl rfl))
    have fail : Opd n B p 3 σ τ (some (st (st σ 2 2 (nI (p + 1 + 1))) 2 3 1)) (some (0, st (st τ 0 5 (nI (p + 1 + 1))) 0 6 (nI (p + 1 + 1)))) := ⟨_, rfl, frx, Or.inr ⟨p + 1 + 1, _, rfl, h1.stop, h1.wrong (p + 1 + 1)⟩⟩
    rw [last_M h1, b1_some]
    unfold F_X1_readSlot
    by_cases hp2 : p + 1 + 1 < n
    · have hb2 := (h.2.1.2.2.2.1 _ hp2).1
      rw [next_in h1 hp2, b1_some, here_in h1 hp2, b1_some, b1_some]
      by_cases h16 : 16 ≤ B (p + 1 + 1)
      · rw [slotMethod_big hC t3 hlt h16 hb2, b1_some, if_pos rfl, stopAt_here h1, b1_some, if_pos (show (16 : Int32) ≤ nI (B (p + 1 + 1)) from nI_le h16 (by omega)), hbad]
        exact fail
      · rw [slotMethod_in hC t3 hlt (by omega), b1_some, if_neg (show ¬ (16 : Int32) ≤ nI (B (p + 1 + 1)) from nI_ge (b := 16) (by omega) (by omega)), show (16 : Int32) = nI 16 from rfl, pk_mul, nI_add, ix_in (by omega) (by omega), nI_clamp (by omega), st_row (by decide), st_row (by decide)]
        obtain ⟨e, f, c1, c2, c3, c4, c5, c6, c7⟩ := hT.2.2.2.2.2 _ hlt
        have hsl := (c7.1 (B (p + 1 + 1)) (by omega)).1
        rw [← hsl]
        by_cases hm1 : σ 12 (16 * B (p + 1) + B (p + 1 + 1)) = -1
        · rw [if_pos hm1, if_pos hm1, stopAt_here h1, b1_some, hbad]
          exact fail
        · rw [if_neg hm1, if_neg hm1]
          have hX := number_X h1 (nI (B (p + 1 + 1))) (nI (B (p + 1 + 1)))
          rw [if_pos ⟨hp2, nI_nlt (Nat.le_refl _) (by omega), nI_le (Nat.le_refl _) (by omega)⟩] at hX
          rw [hX, b2_some, b1_some]
          unfold F_X8_readInstruction_411
          rw [if_neg (by decide)]
          rcases read_both h1 0 255 with ⟨hp3, hb3, g3, g4, e3, e4⟩ | ⟨hno, e3, e4⟩
          · rw [e4, b2_some]
            exact ⟨_, rfl, (FrX.st (Or.inl rfl)).tr (FrX.st (Or.inl rfl)), Or.inl ⟨_, m439_1 _ hp, h1.step hp3, (FrM.st (Or.inl ⟨rfl, Or.inl rfl⟩)).tr (FrM.st (Or.inl ⟨rfl, Or.inl rfl⟩))⟩⟩
          · exfalso
            rcases hno with z | z | z
            · exact z hp2
            · exact not0 _ (by omega) z
            · exact z (nI_le (b := 255) (by omega) (by omega))
    · rw [next_out h1 hp2, b1_some, here_out h1 hp2, b1_some, b1_some, slotMethod_neg hC t3 hlt, b1_some, if_pos rfl, stopAt_here h1, b1_some, if_pos (by decide), hbad]
      exact fail
  · rw [e1, e2, b2_some, b2_some, b2_some, bo_0, b2_some, if_pos rfl, if_neg (show ¬ (9 : Int32) = 6 by decide), if_pos rfl]
    unfold F_X1_readSlot
    obtain ⟨r, hr⟩ := next_stop h.stop
    rw [hr, b1_some, slotMethod_m1, b1_some, if_pos rfl, place_X, b1_some]
    unfold F_X5_stopAt
    rw [nm_eq, nm_eq, b1_some, b1_some, st_self rfl, st_self h.stop.2.2.2.2.1, m439_0]
    exact ⟨_, rfl, FrX.st (Or.inl rfl), Or.inr ⟨p + 1, _, rfl, h.stop, h.wrong (p + 1)⟩⟩

