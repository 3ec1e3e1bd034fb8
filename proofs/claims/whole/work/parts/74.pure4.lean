/-! reading a class: its slots -/
/-- the slots of class c on both sides: alike, each from above or told at a place from lo on below p, rising; from slot s on none is told -/
def Slots (c lo p s : Nat) (up : Nat → Int32) (σ τ : St) : Prop :=
  (∀ k, k < 16 → σ 12 (16 * c + k) = τ 7 (16 * c + k) ∧ σ 13 (16 * c + k) = τ 8 (16 * c + k) ∧
    ((σ 13 (16 * c + k) = -1 ∧ σ 12 (16 * c + k) = up k) ∨ (k < s ∧ ∃ q b : Nat, σ 13 (16 * c + k) = nI q ∧ lo ≤ q ∧ q < p ∧ σ 12 (16 * c + k) = nI b ∧ b < 256))) ∧
  ∀ k k', k < k' → k' < 16 → σ 13 (16 * c + k) ≠ -1 → σ 13 (16 * c + k') ≠ -1 → σ 13 (16 * c + k) < σ 13 (16 * c + k')
def OutX (c : Nat) (σ σ' : St) : Prop := ∀ i, i < 16 * c ∨ 16 * c + 16 ≤ i → σ' 12 i = σ 12 i ∧ σ' 13 i = σ 13 i
def OutM (c : Nat) (τ τ' : St) : Prop := ∀ i, i < 16 * c ∨ 16 * c + 16 ≤ i → τ' 7 i = τ 7 i ∧ τ' 8 i = τ 8 i
theorem place_X {σ : St} : F_X5_place σ = some (σ 2 2) := rfl
theorem Slots.mono {c lo p p' s : Nat} {up : Nat → Int32} {σ τ : St} (h : Slots c lo p s up σ τ) (hp : p ≤ p') : Slots c lo p' s up σ τ := by
  refine ⟨fun k hk => ?_, h.2⟩
  obtain ⟨a, b, d⟩ := h.1 k hk
  refine ⟨a, b, d.imp id ?_⟩
  rintro ⟨h1, q, v, e1, e2, e3, e4⟩
  exact ⟨h1, q, v, e1, e2, by omega, e4⟩
theorem Slots.cong {c lo p s : Nat} {up : Nat → Int32} {σ τ σ' τ' : St} (h : Slots c lo p s up σ τ) (x2 : σ' 12 = σ 12) (x3 : σ' 13 = σ 13) (m7 : τ' 7 = τ 7) (m8 : τ' 8 = τ 8) : Slots c lo p s up σ' τ' := by
  unfold Slots
  rw [x2, x3, m7, m8]
  exact h
theorem slots_loop {n c lo t : Nat} {B : Nat → Nat} {up : Nat → Int32} (hc : c < 32) (ht : t ≤ 16) :
    ∀ (j i s p m1 m2 : Nat) (σ τ : St), i + j = t → j < m1 → j < m2 → s ≤ 16 → lo ≤ p → Sy n B p σ τ → Slots c lo p s up σ τ →
      ∃ (σ' : St) (r : Int32) (τ' : St), F_X0_readSlots_14 m1 (nI c) (nI t) (nI s) (nI i) σ = some σ' ∧ F_X8_readClass_279 m2 (nI c) (nI t) (nI s) (nI i) τ = some (r, τ') ∧ FrX [12, 13] σ σ' ∧
        ((r = 1 ∧ FrM [7, 8] τ τ' ∧ OutX c σ σ' ∧ OutM c τ τ' ∧ ∃ p', p ≤ p' ∧ Sy n B p' σ' τ' ∧ Slots c lo p' 16 up σ' τ') ∨ (r = 0 ∧ ∃ q, Sp n B q σ' ∧ Wr q τ')) := by
  intro j
  induction j with
  | zero =>
    intro i s p m1 m2 σ τ hi hm1 hm2 hs hlo hS hI
    obtain ⟨m1, rfl⟩ : ∃ m', m1 = m' + 1 := ⟨m1 - 1, by omega⟩
    obtain ⟨m2, rfl⟩ : ∃ m', m2 = m' + 1 := ⟨m2 - 1, by omega⟩
    refine ⟨σ, 1, τ, ?_, ?_, FrX.rf, Or.inl ⟨rfl, FrM.rf, fun _ _ => ⟨rfl, rfl⟩, fun _ _ => ⟨rfl, rfl⟩, p, Nat.le_refl _, hS, ?_⟩⟩
    · rw [F_X0_readSlots_14, if_le (by omega) (by omega), if_pos (by omega)]
    · rw [F_X8_readClass_279, if_le (by omega) (by omega), if_pos (by omega)]
    · refine ⟨fun k hk => ?_, hI.2⟩
      obtain ⟨a, b, d⟩ := hI.1 k hk
      exact ⟨a, b, d.imp id (fun z => ⟨by omega, z.2⟩)⟩
  | succ j ih =>
    intro i s p m1 m2 σ τ hi hm1 hm2 hs hlo hS hI
    obtain ⟨m1, rfl⟩ : ∃ m', m1 = m' + 1 := ⟨m1 - 1, by omega⟩
    obtain ⟨m2, rfl⟩ : ∃ m', m2 = m' + 1 := ⟨m2 - 1, by omega⟩
    rw [F_X0_readSlots_14, if_le (by omega) (by omega), if_neg (by omega), F_X8_readClass_279, if_le (by omega) (by omega), if_neg (by omega)]
    rcases read_both hS (nI s) 15 with ⟨hp, hb, g1, g2, e1, e2⟩ | ⟨-, e1, e2⟩
    · rw [e1, e2, b2_some, b2_some, if_neg (by decide)]
      have hS1 := hS.step hp
      have hs1 : s ≤ B p := by
        rcases Nat.lt_or_ge (B p) s with z | z
        · exact absurd (nI_lt z (by omega)) g1
        · exact z
      have hs2 : B p ≤ 15 := (nI_leI (by omega) (by omega)).mp g2
      rw [last_M hS1, b1_some, nm_eq, place_X, b1_some, hS1.2.1.2.1]
      rcases read_both hS1 0 255 with ⟨hp2, hb2, g3, g4, e3, e4⟩ | ⟨-, e3, e4⟩
      · rw [e3, e4, b2_some, b2_some, if_neg (by decide)]
        have hS2 := hS1.step hp2
        rw [hS2.run, b1_some, if_pos rfl, last_M hS2, b1_some]
        rw [show (16 : Int32) = nI 16 from rfl, pk_mul, nI_add, pk_mul, nI_add, Nat.mul_comm c 16]
        have hix : ∀ {α : Type} (x : Option α), ix 512 (nI (16 * c + B p)) x = x := fun x => ix_in (by omega) (by omega)
        have hcl : (nI (16 * c + B p)).toNatClampNeg = 16 * c + B p := nI_clamp (by omega)
        simp only [hix, nm_eq, hcl]
        rw [show nI (B p) + 1 = nI (B p + 1) from nI_1 _, show nI i + 1 = nI (i + 1) from nI_1 i]
        generalize hσ2 : st (st σ 2 2 (nI (p + 1))) 2 2 (nI (p + 1 + 1)) = σ2
        generalize hτ2 : st (st τ 0 5 (nI (p + 1))) 0 5 (nI (p + 1 + 1)) = τ2
        rw [hσ2, hτ2] at hS2
        have hpl : st τ2 7 (16 * c + B p) (nI (B (p + 1))) 0 5 - 1 = nI (p + 1) := by
          rw [st_mis (Or.inl (by decide)), hS2.2.2.2.1]
          exact nI_pred (p + 1)
        rw [hpl]
        have hS3 : Sy n B (p + 1 + 1) (st (st σ2 12 (16 * c + B p) (nI (B (p + 1)))) 13 (16 * c + B p) (nI (p + 1))) (st (st τ2 7 (16 * c + B p) (nI (B (p + 1)))) 8 (16 * c + B p) (nI (p + 1))) := (((hS2.putX (c := 12) (k := 16 * c + B p) (v := nI (B (p + 1))) (by decide)).putX (c := 13) (k := 16 * c + B p) (v := nI (p + 1)) (by decide)).putM (c := 7) (k := 16 * c + B p) (v := nI (B (p + 1))) ⟨by decide, Or.inl (by decide)⟩).putM (c := 8) (k := 16 * c + B p) (v := nI (p + 1)) ⟨by decide, Or.inl (by decide)⟩
        have r12 : σ2 12 = σ 12 := by rw [← hσ2, st_row (by decide), st_row (by decide)]
        have r13 : σ2 13 = σ 13 := by rw [← hσ2, st_row (by decide), st_row (by decide)]
        have r7 : τ2 7 = τ 7 := by rw [← hτ2, st_row (by decide), st_row (by decide)]
        have r8 : τ2 8 = τ 8 := by rw [← hτ2, st_row (by decide), st_row (by decide)]
        have hn : p + 1 < 8000 := by have := hS.1.1; omega
        have v12 : ∀ k, (st (st σ2 12 (16 * c + B p) (nI (B (p + 1)))) 13 (16 * c + B p) (nI (p + 1))) 12 k = if k = 16 * c + B p then nI (B (p + 1)) else σ 12 k := by
          intro k
          rw [st_mis (Or.inl (by decide)), st_app, r12]
          simp
        have v13 : ∀ k, (st (st σ2 12 (16 * c + B p) (nI (B (p + 1)))) 13 (16 * c + B p) (nI (p + 1))) 13 k = if k = 16 * c + B p then nI (p + 1) else σ 13 k := by
          intro k
          rw [st_app, st_row (by decide), r13]
          simp
        have w7 : ∀ k, (st (st τ2 7 (16 * c + B p) (nI (B (p + 1)))) 8 (16 * c + B p) (nI (p + 1))) 7 k = if k = 16 * c + B p then nI (B (p + 1)) else τ 7 k := by
          intro k
          rw [st_mis (Or.inl (by decide)), st_app, r7]
          simp
        have w8 : ∀ k, (st (st τ2 7 (16 * c + B p) (nI (B (p + 1)))) 8 (16 * c + B p) (nI (p + 1))) 8 k = if k = 16 * c + B p then nI (p + 1) else τ 8 k := by
          intro k
          rw [st_app, st_row (by decide), r8]
          simp
        have hI3 : Slots c lo (p + 1 + 1) (B p + 1) up (st (st σ2 12 (16 * c + B p) (nI (B (p + 1)))) 13 (16 * c + B p) (nI (p + 1))) (st (st τ2 7 (16 * c + B p) (nI (B (p + 1)))) 8 (16 * c + B p) (nI (p + 1))) := by
          constructor
          · intro k hk
            rw [v12, v13, w7, w8]
            by_cases a : k = B p
            · subst a
              simp only [if_pos]
              exact ⟨trivial, trivial, Or.inr ⟨by omega, p + 1, B (p + 1), rfl, by omega, by omega, rfl, hb2⟩⟩
            · rw [if_neg (by omega), if_neg (by omega), if_neg (by omega), if_neg (by omega)]
              obtain ⟨x1, x2, x3⟩ := hI.1 k hk
              refine ⟨x1, x2, x3.imp id ?_⟩
              rintro ⟨y1, q, b, y2, y3, y4, y5⟩
              exact ⟨by omega, q, b, y2, y3, by omega, y5⟩
          · intro k k' hkk hk'
            rw [v13, v13]
            by_cases a : k' = B p
            · subst a
              rw [if_pos (show 16 * c + B p = 16 * c + B p from rfl), if_neg (show ¬ 16 * c + k = 16 * c + B p by omega)]
              intro h1 _
              obtain ⟨-, -, x3⟩ := hI.1 k (by omega)
              rcases x3 with x3 | ⟨-, q, b, y2, -, y4, -⟩
              · exact absurd x3.1 h1
              · rw [y2]
                exact nI_lt (by omega) (by omega)
            · rw [if_neg (show ¬ 16 * c + k' = 16 * c + B p by omega)]
              by_cases a2 : k = B p
              · intro _ h1
                obtain ⟨-, -, x3⟩ := hI.1 k' hk'
                rcases x3 with x3 | ⟨y1, -⟩
                · exact absurd x3.1 h1
                · omega
              · rw [if_neg (show ¬ 16 * c + k = 16 * c + B p by omega)]
                exact hI.2 k k' hkk hk'
        obtain ⟨σ', r, τ', f1, f2, frx, hcase⟩ := ih (i + 1) (B p + 1) (p + 1 + 1) m1 m2 _ _ (by omega) (by omega) (by omega) (by omega) (by omega) hS3 hI3
        have frx0 : FrX [12, 13] σ (st (st σ2 12 (16 * c + B p) (nI (B (p + 1)))) 13 (16 * c + B p) (nI (p + 1))) := by
          rw [← hσ2]
          exact (((FrX.st (Or.inl rfl)).tr (FrX.st (Or.inl rfl))).tr (FrX.st (Or.inr (by simp)))).tr (FrX.st (Or.inr (by simp)))
        refine ⟨σ', r, τ', f1, f2, frx0.tr frx, ?_⟩
        rcases hcase with ⟨hr, frm, ox, om, p', hp', hS', hI'⟩ | hbad
        · refine Or.inl ⟨hr, ?_, ?_, ?_, p', by omega, hS', hI'⟩
          · have frm0 : FrM [7, 8] τ (st (st τ2 7 (16 * c + B p) (nI (B (p + 1)))) 8 (16 * c + B p) (nI (p + 1))) := by
              rw [← hτ2]
              exact (((FrM.st (Or.inl ⟨rfl, Or.inl rfl⟩)).tr (FrM.st (Or.inl ⟨rfl, Or.inl rfl⟩))).tr (FrM.st (Or.inr ⟨by decide, by simp⟩))).tr (FrM.st (Or.inr ⟨by decide, by simp⟩))
            exact frm0.tr frm
          · intro k hk
            have := ox k hk
            rw [v12, v13, if_neg (by omega), if_neg (by omega)] at this
            exact this
          · intro k hk
            have := om k hk
            rw [w7, w8, if_neg (by omega), if_neg (by omega)] at this
            exact this
        · exact Or.inr hbad
      · rw [e3, e4, b2_some, b2_some, if_pos rfl]
        have hSp := hS1.stop
        rw [hSp.halt, b1_some, if_neg (by decide)]
        exact ⟨_, 0, _, rfl, rfl, (FrX.st (Or.inl rfl)).tr (FrX.st (Or.inl rfl)), Or.inr ⟨rfl, p + 1, hSp, hS1.wrong (p + 1)⟩⟩
    · rw [e1, e2, b2_some, b2_some, if_pos rfl]
      have hSp := hS.stop
      rw [place_X, b1_some, stopped_number hSp, b2_some, hSp.halt, b1_some, if_neg (by decide)]
      exact ⟨_, 0, _, rfl, rfl, FrX.st (Or.inl rfl), Or.inr ⟨rfl, p, hSp, hS.wrong p⟩⟩
