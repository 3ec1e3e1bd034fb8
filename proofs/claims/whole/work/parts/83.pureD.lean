/-! an instruction, and the code of a method -/
def M_ops (x1 v1 r7 : Int32) (u4 : St) : Option (Int32 × St) := if r7 = 0 then (b2 (F_X8_over 0 255 u4) fun r27 u28 => (if r27 = 0 then (F_X8_readInstruction_96 v1 u28) else (b2 (F_X8_over 0 255 u28) fun r31 u32 => (if r31 = 0 then (F_X8_readInstruction_96 v1 u32) else (b2 (F_X8_over 0 255 u32) fun r35 u36 => (if r35 = 0 then (F_X8_readInstruction_96 v1 u36) else (b2 (F_X8_over 0 255 u36) fun r39 u40 => (if r39 = 0 then (F_X8_readInstruction_96 v1 u40) else (F_X8_readInstruction_97 v1 1 u40))))))))) else (if r7 = 2 then (F_X8_readInstruction_114 x1 v1 u4) else (if r7 = 3 then (F_X8_readInstruction_114 x1 v1 u4) else (if r7 = 19 then (F_X8_readInstruction_146 v1 u4) else (if r7 = 20 then (F_X8_readInstruction_146 v1 u4) else (if r7 < 21 then (F_X8_readInstruction_233 v1 r7 1 u4) else (if 25 < r7 then (F_X8_readInstruction_233 v1 r7 1 u4) else (b2 (F_X8_over 0 255 u4) fun r19 u20 => (if r19 = 0 then (F_X8_readInstruction_227 v1 u20) else (b2 (F_X8_over 0 255 u20) fun r23 u24 => (if r23 = 0 then (F_X8_readInstruction_227 v1 u24) else (F_X8_readInstruction_228 v1 1 u24)))))))))))
theorem b2_id (o : Option (Int32 × St)) : (b2 o fun r u => some (r, u)) = o := by
  cases o with
  | none => rfl
  | some q => rfl
theorem ops_all {n p C m L : Nat} {B : Nat → Nat} {σ τ : St} {pt : Nat → Nat} (hp : p < 8000) (hm : m < 64) (h : Sy n B (p + 1) σ τ) (hT : Tab C C pt σ τ) (h14 : τ 14 m = nI L) : ∀ op, op < 42 → Opd n B p (wid op) σ τ (X_ops (tF op) (tS op) (nI L) σ) (M_ops (nI m) (nI p) (nI op) τ) := by
  have hcl : (nI m).toNatClampNeg = m := nI_clamp (by omega)
  have op_loc : Opd n B p 2 σ τ (X_ops 2 0 (nI L) σ) (F_X8_readInstruction_114 (nI m) (nI p) τ) := by
    unfold F_X8_readInstruction_114
    rw [ix_in hm (by omega), hcl, h14]
    exact op_num hp h (nI L) 2 0 (nI L - 1) (by rw [show F_X1_readOperand 2 (nI L) σ = (b2 (F_X5_number 0 (nI L - 1) σ) fun r3 u4 => (some (r3, u4))) from rfl, b2_id])
  have hov : ∀ u : St, F_X8_overClass u = F_X8_over 0 ((u 0 8) - 1) u := by
    intro u
    unfold F_X8_overClass
    have h01 : ∀ r u', F_X8_over 0 ((u 0 8) - 1) u = some (r, u') → r = 0 ∨ r = 1 := by
      intro r u' e
      unfold F_X8_over at e
      obtain ⟨r1, -, e⟩ := b1E e
      by_cases c1 : r1 < 0
      · rw [if_pos c1] at e
        unfold F_X8_over_26 at e
        obtain ⟨r2, u2, -, e⟩ := b2E e
        obtain ⟨g, e⟩ := boE e
        cases e
        exact g
      · rw [if_neg c1] at e
        obtain ⟨r2, -, e⟩ := b1E e
        by_cases c2 : (u 0 8) - 1 < r2
        · rw [if_pos c2] at e
          unfold F_X8_over_26 at e
          obtain ⟨r2, u2, -, e⟩ := b2E e
          obtain ⟨g, e⟩ := boE e
          cases e
          exact g
        · rw [if_neg c2] at e
          obtain ⟨r3, -, e⟩ := b1E e
          by_cases c3 : r3 = 256
          · rw [if_pos c3] at e
            unfold F_X8_over_26 at e
            obtain ⟨r2, u2, -, e⟩ := b2E e
            obtain ⟨g, e⟩ := boE e
            cases e
            exact g
          · rw [if_neg c3] at e
            cases e
            exact Or.inr rfl
    cases e : F_X8_over 0 ((u 0 8) - 1) u with
    | none => rfl
    | some q =>
      obtain ⟨r, u'⟩ := q
      rw [b2_some]
      rcases h01 r u' e with rfl | rfl
      · rw [bo_0]
      · rw [bo_1]
  have op_cls : Opd n B p 2 σ τ (X_ops 5 0 (nI L) σ) (F_X8_readInstruction_254 (nI p) τ) := by
    unfold F_X8_readInstruction_254
    rw [hov, hT.2.1]
    exact op_num hp h (nI L) 5 0 (nI C - 1) (by rw [show F_X1_readOperand 5 (nI L) σ = (b2 (F_X5_number 0 ((σ 3 0) - 1) σ) fun r18 u19 => (some (r18, u19))) from rfl, b2_id, hT.1])
  have op_con : Opd n B p 2 σ τ (X_ops 7 0 (nI L) σ) (b2 (F_X8_over 0 (τ 0 8) τ) fun r26 u27 => (F_X8_readInstruction_439 (nI p) r26 u27)) := by
    rw [hT.2.1]
    exact op_num hp h (nI L) 7 0 (nI C) (by rw [show F_X1_readOperand 7 (nI L) σ = (b2 (F_X5_number 0 (σ 3 0) σ) fun r18 u19 => (some (r18, u19))) from rfl, b2_id, hT.1])
  have op_met : Opd n B p 2 σ τ (X_ops 8 0 (nI L) σ) (b2 (F_X8_over 0 255 τ) fun r23 u24 => (F_X8_readInstruction_439 (nI p) r23 u24)) := by
    have e := op_any (k := 1) hp (by omega) h (nI L) 8 rfl
    have e2 : ovs 1 τ (fun u => F_X8_readInstruction_439 (nI p) 1 u) (fun u => F_X8_readInstruction_439 (nI p) 0 u) = (b2 (F_X8_over 0 255 τ) fun r23 u24 => (F_X8_readInstruction_439 (nI p) r23 u24)) := by
      rw [ovs]
      rcases read_both h 0 255 with ⟨-, -, -, -, -, e2⟩ | ⟨-, -, e2⟩
      · rw [e2, b2_some, b2_some, if_neg (by decide)]
        rfl
      · rw [e2, b2_some, b2_some, if_pos rfl]
    rw [e2] at e
    exact e
  intro op hop
  match op, hop with
  | 0, _ => exact op_any (k := 4) hp (by omega) h _ 1 rfl
  | 1, _ => exact op_none hp h _
  | 2, _ => exact op_loc
  | 3, _ => exact op_loc
  | 4, _ => exact op_none hp h _
  | 5, _ => exact op_none hp h _
  | 6, _ => exact op_none hp h _
  | 7, _ => exact op_none hp h _
  | 8, _ => exact op_none hp h _
  | 9, _ => exact op_none hp h _
  | 10, _ => exact op_none hp h _
  | 11, _ => exact op_none hp h _
  | 12, _ => exact op_none hp h _
  | 13, _ => exact op_none hp h _
  | 14, _ => exact op_none hp h _
  | 15, _ => exact op_none hp h _
  | 16, _ => exact op_none hp h _
  | 17, _ => exact op_none hp h _
  | 18, _ => exact op_none hp h _
  | 19, _ => exact op_cond hp h _
  | 20, _ => exact op_cond hp h _
  | 21, _ => exact op_any (k := 2) hp (by omega) h _ 4 rfl
  | 22, _ => exact op_any (k := 2) hp (by omega) h _ 4 rfl
  | 23, _ => exact op_any (k := 2) hp (by omega) h _ 4 rfl
  | 24, _ => exact op_any (k := 2) hp (by omega) h _ 4 rfl
  | 25, _ => exact op_any (k := 2) hp (by omega) h _ 4 rfl
  | 26, _ => exact op_cls
  | 27, _ => exact op_field hp h hT _
  | 28, _ => exact op_field hp h hT _
  | 29, _ => exact op_cls
  | 30, _ => exact op_cls
  | 31, _ => exact op_con
  | 32, _ => exact op_none hp h _
  | 33, _ => exact op_none hp h _
  | 34, _ => exact op_none hp h _
  | 35, _ => exact op_met
  | 36, _ => exact op_slot hp h hT _
  | 37, _ => exact op_none hp h _
  | 38, _ => exact op_none hp h _
  | 39, _ => exact op_none hp h _
  | 40, _ => exact op_none hp h _
  | 41, _ => exact op_none hp h _
  | k + 42, h => exact absurd h (by omega)
/-- an instruction on both sides -/
theorem instr_both {n p C m L e : Nat} {B : Nat → Nat} {σ τ : St} {pt : Nat → Nat} (hm : m < 64) (he : e < 20000) (hpe : p < e) (h : Sy n B p σ τ) (hT : Tab C C pt σ τ) (h14 : τ 14 m = nI L) :
    ∃ σ' : St, F_X1_readInstruction (nI L) (nI e) σ = some σ' ∧ FrX [24] σ σ' ∧
      ((∃ τ' : St, F_X8_readInstruction (nI m) (nI e) τ = some (1, fin τ' p) ∧ p < n ∧ B p < 42 ∧ p + wid (B p) ≤ e ∧ Sy n B (p + wid (B p)) σ' τ' ∧ FrM [] τ τ' ∧ σ' 24 = mk σ p 24) ∨
      (∃ (q : Nat) (τ' : St), F_X8_readInstruction (nI m) (nI e) τ = some (0, τ') ∧ Sp n B q σ' ∧ Wr q τ')) := by
  have hn := h.1.1
  unfold F_X1_readInstruction F_X8_readInstruction
  rw [place_X, b1_some, nm_eq, h.2.1.2.1, h.2.2.2.1]
  rcases read_both h 0 41 with ⟨hp, hb, g1, g2, e1, e2⟩ | ⟨-, e1, e2⟩
  · have hop : B p < 42 := by
      have := (nI_leI (b := 41) (by omega) (by omega)).mp g2
      omega
    have h1 := h.step hp
    have hw0 : wid (B p) < 10 := by
      have : ∀ op, op < 42 → wid op < 10 := by decide
      exact this _ hop
    rw [e1, e2, b2_some, b2_some, if_neg (show ¬ (1 : Int32) = 0 by decide), h1.run, b1_some, if_pos rfl, last_M h1, b1_some, len_X _ _ hop, b1_some, wide_M _ _ hop, b1_some, nI_add, pk_sub (by omega), if_le (by omega) (by omega), if_le (by omega) (by omega)]
    by_cases hfit : p + wid (B p) ≤ e
    · rw [if_pos (show wid (B p) ≤ e - p by omega), if_pos hfit, mark_X _ (by omega), b1_some, fst_X _ hop, b1_some]
      have hs : ∀ u, F_X4_second (nI (B p)) u = some (tS (B p)) := fun u => snd_X u hop
      simp only [hs, b1_some]
      have h2 : Sy n B (p + 1) (mk (st σ 2 2 (nI (p + 1))) p) (st τ 0 5 (nI (p + 1))) := h1.putX (by decide)
      have hT2 : Tab C C pt (mk (st σ 2 2 (nI (p + 1))) p) (st τ 0 5 (nI (p + 1))) := by
        unfold mk
        exact hT.cong (by rw [st_row (by decide), st_row (by decide)]) (by rw [st_row (by decide), st_row (by decide)]) (by rw [st_row (by decide), st_row (by decide)]) (by rw [st_row (by decide), st_row (by decide)]) (by rw [st_row (by decide), st_row (by decide)]) (by rw [st_row (by decide), st_row (by decide)]) (by rw [st_mis (Or.inr (by decide))]) (st_row (by decide)) (st_row (by decide)) (st_row (by decide)) (st_row (by decide)) (st_row (by decide))
      obtain ⟨σ', q1, frx, hcase⟩ := ops_all (L := L) (m := m) (by omega) hm h2 hT2 (by rw [st_row (by decide)]; exact h14) (B p) hop
      have q1' : X_ops (tF (B p)) (tS (B p)) (nI L) (mk (st σ 2 2 (nI (p + 1))) p) = some σ' := q1
      have frx2 : FrX [24] σ σ' := ((FrX.st (Or.inl rfl)).tr (FrX.st (Or.inr (by simp)))).tr (frx.mono (by intro d hd; simp at hd))
      refine ⟨σ', q1', frx2, ?_⟩
      rcases hcase with ⟨τ', q2, hS', frm⟩ | ⟨q, τ', q2, hSp, hW⟩
      · refine Or.inl ⟨τ', q2, hp, hop, hfit, hS', (FrM.st (Or.inl ⟨rfl, Or.inl rfl⟩)).tr frm, ?_⟩
        rw [frx 24 (by decide) (by simp)]
        unfold mk
        funext a
        rw [st_row (show 24 ≠ 2 by decide)]
        simp only [st_app]
        simp
      · exact Or.inr ⟨q, τ', q2, hSp, hW⟩
    · rw [if_neg (show ¬ wid (B p) ≤ e - p by omega), if_neg hfit, bad_M h1.2.2.2.2.1, b2_some, bo_0]
      refine ⟨st (st σ 2 2 (nI p)) 2 3 1, ?_, (FrX.st (Or.inl rfl)).tr (FrX.st (Or.inl rfl)), Or.inr ⟨p, _, rfl, ?_, h1.wrong p⟩⟩
      · unfold F_X5_stopAt
        rw [nm_eq, nm_eq, b1_some, st_st]
      · rw [st_self h.2.1.2.1]
        exact h.stop
  · rw [e1, e2, b2_some, b2_some, if_pos rfl, h.stop.halt, b1_some, if_neg (by decide)]
    exact ⟨_, rfl, FrX.st (Or.inl rfl), Or.inr ⟨p, _, rfl, h.stop, h.wrong p⟩⟩

