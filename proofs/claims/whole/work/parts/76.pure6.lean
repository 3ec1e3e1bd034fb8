/-! a class is read, on both sides -/
/-- what stays below class c -/
def LowX (c : Nat) (σ σ' : St) : Prop := (∀ i, i < c → σ' 9 i = σ 9 i ∧ σ' 10 i = σ 10 i) ∧ (∀ i, i < 15 * c → σ' 11 i = σ 11 i) ∧ ∀ i, i < 16 * c → σ' 12 i = σ 12 i ∧ σ' 13 i = σ 13 i
def LowM (c : Nat) (τ τ' : St) : Prop := (∀ i, i < c → τ' 4 i = τ 4 i ∧ τ' 5 i = τ 5 i) ∧ (∀ i, i < 15 * c → τ' 6 i = τ 6 i) ∧ ∀ i, i < 16 * c → τ' 7 i = τ 7 i ∧ τ' 8 i = τ 8 i
/-- what the slots come to, once the fields are read -/
theorem class_slots {n C c p lo f : Nat} {B : Nat → Nat} {σ τ : St} {x : Int32} {e : Option Nat} (hC : C ≤ 32) (hc : c < C) (hU : Up c x e) (hlo : lo ≤ p) (hS : Sy n B p σ τ)
    (h12 : ∀ k, k < 16 → σ 12 (16 * c + k) = slotUp (τ 7) e k) (h13 : ∀ k, k < 16 → σ 13 (16 * c + k) = -1) :
    ∃ (σ' : St) (r : Int32) (τ' : St), F_X0_readSlots (nI c) σ = some σ' ∧ F_X8_readClass_197 fu (nI c) x 0 τ = some (r, τ') ∧ FrX [12, 13] σ σ' ∧
      ((r = 1 ∧ FrM [7, 8] τ τ' ∧ OutX c σ σ' ∧ OutM c τ τ' ∧ ∃ p', p < p' ∧ Sy n B p' σ' τ' ∧ Slots c lo p' 16 (slotUp (τ 7) e) σ' τ') ∨ (r = 0 ∧ ∃ q, Sp n B q σ' ∧ Wr q τ')) := by
  have hm := slots_M (by omega) hU τ 16 0 fu rfl (by rw [show fu = 9000 from rfl]; omega)
  rw [show 16 * c + 0 = 16 * c from rfl, fill_nil, fill_nil] at hm
  have hm' : F_X8_readClass_197 fu (nI c) x 0 τ = _ := hm
  rw [hm', F_X8_readClass_197, if_pos (show (16 : Int32) ≤ nI 16 from nI_le (Nat.le_refl 16) (by omega))]
  generalize hτ' : fill (fill τ 7 (16 * c) (16 * c + 16) (slotUp (τ 7) e)) 8 (16 * c) (16 * c + 16) (fun _ => -1) = τ1
  have t7 : ∀ k, k < 16 → τ1 7 (16 * c + k) = slotUp (τ 7) e k := by
    intro k hk
    rw [← hτ', fill_row (by decide), fill_in (by omega)]
  have t8 : ∀ k, k < 16 → τ1 8 (16 * c + k) = -1 := by
    intro k hk
    rw [← hτ', fill_in (by omega)]
  have tr : ∀ d, d ≠ 7 → d ≠ 8 → τ1 d = τ d := by
    intro d h7 h8
    rw [← hτ', fill_row h8, fill_row h7]
  have to : OutM c τ τ1 := by
    intro i hi
    rw [← hτ', fill_row (by decide), fill_out hi, fill_out hi, fill_row (by decide)]
    exact ⟨rfl, rfl⟩
  have fr0 : FrM [7, 8] τ τ1 := ⟨fun d h0 hd => tr d (by intro z; subst z; simp at hd) (by intro z; subst z; simp at hd), fun k _ _ => by rw [tr 0 (by decide) (by decide)]⟩
  have hS1 : Sy n B p σ τ1 := hS.cong rfl rfl rfl (fun k _ => by rw [tr 0 (by decide) (by decide)]) (tr 2 (by decide) (by decide))
  unfold F_X0_readSlots
  rcases read_both hS1 0 16 with ⟨hp, hb, g1, g2, e1, e2⟩ | ⟨-, e1, e2⟩
  · rw [e1, e2, b2_some, b2_some, if_neg (by decide)]
    have hS2 := hS1.step hp
    rw [last_M hS2, b1_some]
    have ht : B p ≤ 16 := (nI_leI (b := 16) (by omega) (by omega)).mp g2
    have hI : Slots c lo (p + 1) 0 (slotUp (τ 7) e) (st σ 2 2 (nI (p + 1))) (st τ1 0 5 (nI (p + 1))) := by
      refine Slots.cong (σ := σ) (τ := τ1) ?_ (st_row (by decide)) (st_row (by decide)) (st_row (by decide)) (st_row (by decide))
      refine ⟨fun k hk => ⟨by rw [h12 k hk, t7 k hk], by rw [h13 k hk, t8 k hk], Or.inl ⟨h13 k hk, h12 k hk⟩⟩, fun k k' hkk hk' z => absurd (h13 k (by omega)) z⟩
    obtain ⟨σ', r, τ', f1, f2, frx, hcase⟩ := slots_loop (c := c) (lo := lo) (t := B p) (by omega) ht (B p) 0 0 (p + 1) fu fu _ _ (by omega) (by rw [show fu = 9000 from rfl]; omega) (by rw [show fu = 9000 from rfl]; omega) (by omega) (by omega) hS2 hI
    refine ⟨σ', r, τ', f1, f2, (FrX.st (Or.inl rfl)).tr frx, ?_⟩
    rcases hcase with ⟨hr, frm, ox, om, p', hp', hS', hI'⟩ | hbad
    · refine Or.inl ⟨hr, (fr0.tr (FrM.st (Or.inl ⟨rfl, Or.inl rfl⟩))).tr frm, ?_, ?_, p', by omega, hS', hI'⟩
      · intro i hi
        have := ox i hi
        rw [st_row (by decide), st_row (by decide)] at this
        exact this
      · intro i hi
        have := om i hi
        rw [st_row (by decide), st_row (by decide)] at this
        exact ⟨this.1.trans (to i hi).1, this.2.trans (to i hi).2⟩
    · exact Or.inr hbad
  · rw [e1, e2, b2_some, b2_some, if_pos rfl]
    have hSp := hS1.stop
    refine ⟨st σ 2 3 1, 0, _, ?_, rfl, FrX.st (Or.inl rfl), Or.inr ⟨rfl, p, hSp, hS1.wrong p⟩⟩
    rw [show fu = 8999 + 1 from rfl, F_X0_readSlots_14, if_pos (by decide)]
/-- fields and slots, once the upper class is known on both sides -/
theorem class_rest {n C c p f : Nat} {B : Nat → Nat} {σ τ : St} {x : Int32} {e : Option Nat} (hC : C ≤ 32) (hc : c < C) (hU : Up c x e) (hf : f ≤ 15) (hS : Sy n B p σ τ) (h3 : σ 3 0 = nI C) (h8 : τ 0 8 = nI C)
    (h10 : σ 10 c = nI f) (h12 : ∀ k, k < 16 → σ 12 (16 * c + k) = slotUp (τ 7) e k) (h13 : ∀ k, k < 16 → σ 13 (16 * c + k) = -1) (h11 : ∀ k, k < f → σ 11 (15 * c + k) = τ 6 (15 * c + k)) :
    ∃ (σ1 σ' : St) (r : Int32) (τ' : St), F_X0_readFields (nI c) σ = some σ1 ∧ F_X0_readSlots (nI c) σ1 = some σ' ∧ F_X8_readClass_86 1 (nI c) x (nI f) (nI f) τ = some (r, τ') ∧ FrX [10, 11, 12, 13] σ σ' ∧
      ((r = 1 ∧ FrM [5, 6, 7, 8] τ τ' ∧ LowX c σ σ' ∧ LowM c τ τ' ∧ ∃ p' g, p < p' ∧ Sy n B p' σ' τ' ∧ g ≤ 15 ∧ σ' 10 c = nI g ∧ τ' 5 c = nI g ∧ (∀ k, k < g → σ' 11 (15 * c + k) = τ' 6 (15 * c + k)) ∧ Slots c p p' 16 (slotUp (τ 7) e) σ' τ') ∨ (r = 0 ∧ ∃ q, Sp n B q σ' ∧ Wr q τ')) := by
  rw [F_X8_readClass_86, if_le (by omega) (by omega), if_pos (by omega)]
  unfold F_X0_readFields
  rw [ix_in (by omega) (by omega), nm_eq, nI_clamp (by omega), h10]
  rw [show (15 : Int32) = nI 15 from rfl, pk_sub (by omega)]
  rcases read_both hS 0 (nI (15 - f)) with ⟨hp, hb, g1, g2, e1, e2⟩ | ⟨-, e1, e2⟩
  · rw [e1, e2, b2_some, b2_some, if_neg (by decide)]
    have hS1 := hS.step hp
    rw [last_M hS1, b1_some, ix_in (by omega) (by omega), nm_eq, nI_add]
    have ho : B p ≤ 15 - f := (nI_leI (by omega) (by omega)).mp g2
    have hS2 := hS1.putM (c := 5) (k := c) (v := nI (f + B p)) ⟨by decide, Or.inl (by decide)⟩
    obtain ⟨σ2, q1, frx2, hcase⟩ := types_loop (f := f) (o := B p) hC hc (by omega) x (B p) 0 (p + 1) fu fu _ _ (by omega) (by rw [show fu = 9000 from rfl]; omega) (by rw [show fu = 9000 from rfl]; omega) hS2 (by rw [st_mis (Or.inl (by decide)), h3]) (by rw [st_mis (Or.inl (by decide)), st_mis (Or.inr (by decide)), h8]) st_hit
    have q1' : F_X0_readFields_21 fu (nI c) (nI f) (nI (B p)) 0 (st σ 2 2 (nI (p + 1))) = _ := q1
    rw [q1', readFields63 (by omega) (by omega)]
    rcases hcase with ⟨τ2, q2, hS3, frm2, x11, m6⟩ | ⟨q, τ2, q2, hSp, hW⟩
    · have q2' : F_X8_readClass_151 fu (nI c) x (nI f) (st (st τ 0 5 (nI (p + 1))) 5 c (nI (f + B p))) = _ := q2
      rw [q2']
      have hS4 := hS3.putX (c := 10) (k := c) (v := nI (f + B p)) (by decide)
      have rx : ∀ d, d ≠ 2 → d ≠ 10 → d ≠ 11 → (st σ2 10 c (nI (f + B p))) d = σ d := by
        intro d a1 a2 a3
        rw [st_row a2, frx2 d a1 (by simp [a3]), st_row a1]
      have rm7 : τ2 7 = τ 7 := by rw [frm2.1 7 (by decide) (by decide), st_row (by decide), st_row (by decide)]
      obtain ⟨σ', r, τ', f1, f2, frx3, hcase2⟩ := class_slots (p := p + 1 + B p) (lo := p) (f := f) hC hc hU (by omega) hS4 (fun k hk => by rw [rx 12 (by decide) (by decide) (by decide), rm7]; exact h12 k hk) (fun k hk => by rw [rx 13 (by decide) (by decide) (by decide)]; exact h13 k hk)
      have frxA : FrX [10, 11, 12, 13] σ σ' := by
        refine FrX.tr (b := st σ2 10 c (nI (f + B p))) ?_ (frx3.mono (by intro d hd; simp at hd ⊢; omega))
        intro d a1 a2
        exact rx d a1 (by intro z; subst z; simp at a2) (by intro z; subst z; simp at a2)
      refine ⟨_, σ', r, τ', rfl, f1, f2, frxA, ?_⟩
      rcases hcase2 with ⟨hr, frm3, ox, om, p', hp', hS', hI'⟩ | hbad
      · have y10 : σ' 10 = st σ2 10 c (nI (f + B p)) 10 := frx3 10 (by decide) (by decide)
        have y11 : σ' 11 = σ2 11 := by rw [frx3 11 (by decide) (by decide), st_row (by decide)]
        have y9 : σ' 9 = σ 9 := frxA 9 (by decide) (by decide)
        have z10 : σ2 10 = σ 10 := by rw [frx2 10 (by decide) (by decide), st_row (by decide)]
        have n5 : τ' 5 = st (st τ 0 5 (nI (p + 1))) 5 c (nI (f + B p)) 5 := by rw [frm3.1 5 (by decide) (by decide), frm2.1 5 (by decide) (by decide)]
        have n6 : τ' 6 = τ2 6 := frm3.1 6 (by decide) (by decide)
        have s11 : ∀ i, st σ 2 2 (nI (p + 1)) 11 i = σ 11 i := fun i => by rw [st_row (by decide)]
        have s6 : ∀ i, st (st τ 0 5 (nI (p + 1))) 5 c (nI (f + B p)) 6 i = τ 6 i := fun i => by rw [st_row (by decide), st_row (by decide)]
        refine Or.inl ⟨hr, ?_, ?_, ?_, p', f + B p, by omega, hS', by omega, by rw [y10, st_hit], by rw [n5, st_hit], ?_, ?_⟩
        · refine FrM.tr (b := τ2) ?_ (frm3.mono (by intro d hd; simp at hd ⊢; omega))
          refine FrM.tr (b := st (st τ 0 5 (nI (p + 1))) 5 c (nI (f + B p))) ((FrM.st (Or.inl ⟨rfl, Or.inl rfl⟩)).tr (FrM.st (Or.inr ⟨by decide, by simp⟩))) (frm2.mono (by intro d hd; simp at hd ⊢; omega))
        · refine ⟨fun i hi => ⟨by rw [y9], by rw [y10, st_mis (Or.inr (by omega)), z10]⟩, fun i hi => ?_, fun i hi => ?_⟩
          · rw [y11, x11, fill_out (by omega), s11]
          · have := ox i (Or.inl hi)
            rw [rx 12 (by decide) (by decide) (by decide), rx 13 (by decide) (by decide) (by decide)] at this
            exact this
        · refine ⟨fun i hi => ⟨?_, by rw [n5, st_mis (Or.inr (by omega)), st_row (by decide)]⟩, fun i hi => ?_, fun i hi => ?_⟩
          · rw [frm3.1 4 (by decide) (by decide), frm2.1 4 (by decide) (by decide), st_row (by decide), st_row (by decide)]
          · rw [n6, m6, fill_out (by omega), s6]
          · have := om i (Or.inl hi)
            rw [rm7, frm2.1 8 (by decide) (by decide), st_row (by decide), st_row (by decide)] at this
            exact this
        · intro k hk
          rw [y11, n6, x11, m6]
          by_cases a : k < f
          · rw [fill_out (by omega), fill_out (by omega), s11, s6]
            exact h11 k a
          · rw [show 15 * c + k = 15 * c + f + 0 + (k - f) by omega, fill_in (by omega), fill_in (by omega)]
        · rw [rm7] at hI'
          exact hI'
      · exact Or.inr hbad
    · have q2' : F_X8_readClass_151 fu (nI c) x (nI f) (st (st τ 0 5 (nI (p + 1))) 5 c (nI (f + B p))) = _ := q2
      rw [q2']
      have hSp2 := hSp.put (c := 10) (k := c) (v := nI (f + B p)) (by decide)
      refine ⟨_, _, 0, τ2, rfl, readSlots_stop hSp2 _, rfl, ?_, Or.inr ⟨rfl, q, hSp2, hW⟩⟩
      refine FrX.tr (b := σ2) (FrX.tr (b := st σ 2 2 (nI (p + 1))) (FrX.st (Or.inl rfl)) (frx2.mono (by intro d hd; simp at hd ⊢; omega))) (FrX.st (Or.inr (by simp)))
  · rw [e1, e2, b2_some, b2_some, if_pos rfl]
    have hSp := hS.stop
    have e63 : F_X0_readFields_21 fu (nI c) (nI f) (-1) 0 (st σ 2 3 1) = some (st (st σ 2 3 1) 10 c (nI f)) := by
      rw [show fu = 8999 + 1 from rfl, F_X0_readFields_21, if_pos (by decide)]
      unfold F_X0_readFields_63
      rw [ix_in (by omega) (by omega), nm_eq, nI_clamp (by omega), if_pos (by decide)]
      show some (st _ 10 c (nI f + nI 0)) = _
      rw [nI_add]
      rfl
    rw [e63]
    have hSp2 := hSp.put (c := 10) (k := c) (v := nI f) (by decide)
    exact ⟨_, _, 0, _, rfl, readSlots_stop hSp2 _, rfl, (FrX.st (Or.inl rfl)).tr (FrX.st (Or.inr (by simp))), Or.inr ⟨rfl, p, hSp2, hS.wrong p⟩⟩
