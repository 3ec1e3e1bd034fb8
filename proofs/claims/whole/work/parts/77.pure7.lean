/-! the upper class; a whole class; all classes -/
theorem fill_cong {σ σ' : St} {r lo hi : Nat} {g : Nat → Int32} (h : σ r = σ' r) : fill σ r lo hi g r = fill σ' r lo hi g r := by
  funext i
  unfold fill
  rw [h]
theorem class_upper {n C c p : Nat} {B : Nat → Nat} {σ τ : St} {pt : Nat → Nat} (hS : Sy n B p σ τ) (hT : Tab C c pt σ τ) (hc : c < C) (hok : p < n ∧ (B p = 255 ∨ B p < c)) :
    ∃ (x : Int32) (e : Option Nat) (f : Nat), Up c x e ∧ f ≤ 15 ∧ cntUp (σ 10) e f ∧ (e = none → f = 0) ∧ (∀ k, k < f → fieldUp (σ 11) e k = fieldUp (τ 6) e k) ∧ (∀ k, k < 16 → slotUp (σ 12) e k = slotUp (τ 7) e k) ∧
      F_X0_readClass (nI c) σ = F_X0_readClass_25 (nI c) x (nI c) (st σ 2 2 (nI (p + 1))) ∧ F_X8_readClass (nI c) τ = F_X8_readClass_86 fu (nI c) x (nI f) 0 (st (st τ 4 c x) 0 5 (nI (p + 1))) := by
  obtain ⟨t3, t8, hC, hcC, hpt, hcl⟩ := hT
  have hb := (hS.2.1.2.2.2.1 p hok.1).1
  have eX : F_X0_readClass (nI c) σ = if B p = 255 then F_X0_readClass_25 (nI c) (-1) (nI c) (st σ 2 2 (nI (p + 1))) else F_X0_readClass_25 (nI c) (nI (B p)) (nI c) (st σ 2 2 (nI (p + 1))) := by
    unfold F_X0_readClass
    rw [orNothing_X hS (by omega), if_pos hok, b2_some, show (255 : Int32) = nI 255 from rfl, if_eq (by omega) (by omega)]
  have eM : F_X8_readClass (nI c) τ = F_X8_readClass_27 (nI c) τ := by
    unfold F_X8_readClass
    rw [here_in hS hok.1, b1_some, b1_some, show (255 : Int32) = nI 255 from rfl, if_eq (by omega) (by omega), if_lt (by omega) (by omega)]
    by_cases h : B p = 255
    · rw [if_pos h]
    · rw [if_neg h, if_pos (hok.2.resolve_left h)]
  have e27 : F_X8_readClass_27 (nI c) τ = if B p = 255 then F_X8_readClass_50 (nI c) (-1) (nI c) τ else F_X8_readClass_50 (nI c) (nI (B p)) (nI c) τ := by
    unfold F_X8_readClass_27
    rw [here_in hS hok.1, b1_some, b1_some, show (255 : Int32) = nI 255 from rfl, if_eq (by omega) (by omega)]
  have e50 : ∀ x : Int32, F_X8_readClass_50 (nI c) x (nI c) τ = if 0 ≤ x then ix 32 x (F_X8_readClass_82 (nI c) x (st (st τ 4 c x) 0 5 (nI (p + 1)) 5 x.toNatClampNeg) (st (st τ 4 c x) 0 5 (nI (p + 1)))) else F_X8_readClass_82 (nI c) x 0 (st (st τ 4 c x) 0 5 (nI (p + 1))) := by
    intro x
    unfold F_X8_readClass_50
    have hix : ∀ {α : Type} (y : Option α), ix 32 (nI c) y = y := fun y => ix_in (by omega) (by omega)
    have hcl : (nI c).toNatClampNeg = c := nI_clamp (by omega)
    have hpl : st τ 4 c x 0 5 + 1 = nI (p + 1) := by
      rw [st_mis (Or.inl (by decide)), hS.2.2.2.1]
      exact nI_1 p
    have hx4 : st (st τ 4 c x) 0 5 (nI (p + 1)) 4 c = x := by rw [st_mis (Or.inl (by decide)), st_hit]
    simp only [hix, nm_eq, hcl, hpl, hx4]
  by_cases h : B p = 255
  · refine ⟨-1, none, 0, Or.inl ⟨rfl, rfl⟩, by omega, rfl, fun _ => rfl, fun k hk => by omega, fun k _ => rfl, ?_, ?_⟩
    · rw [eX, if_pos h]
    · rw [eM, e27, if_pos h, e50, if_neg (by decide)]
      rfl
  · have hlt := hok.2.resolve_left h
    obtain ⟨e', f, c1, c2, c3, c4, c5, c6, c7⟩ := hcl (B p) hlt
    refine ⟨nI (B p), some (B p), f, Or.inr ⟨B p, hlt, rfl, rfl⟩, c3, c4, (fun z => by cases z), fun k hk => c6 k hk, fun k hk => (c7.1 k hk).1, ?_, ?_⟩
    · rw [eX, if_neg h]
    · rw [eM, e27, if_neg h, e50, if_pos (nI_pos' (by omega)), ix_in (by omega) (by omega), nI_clamp (by omega), st_mis (Or.inl (by decide)), st_mis (Or.inl (by decide)), c5]
      rfl
def ptSet (pt : Nat → Nat) (c p : Nat) : Nat → Nat := fun d => if d = c then p else pt d
theorem class_both {n C c p : Nat} {B : Nat → Nat} {σ τ : St} {pt : Nat → Nat} (hS : Sy n B p σ τ) (hT : Tab C c pt σ τ) (hc : c < C) (hp0 : pt c = p) :
    ∃ (σ' : St) (r : Int32) (τ' : St), F_X0_readClass (nI c) σ = some σ' ∧ F_X8_readClass (nI c) τ = some (r, τ') ∧ FrX [9, 10, 11, 12, 13] σ σ' ∧
      ((r = 1 ∧ FrM [4, 5, 6, 7, 8] τ τ' ∧ ∃ p', p < p' ∧ Sy n B p' σ' τ' ∧ Tab C (c + 1) (ptSet pt (c + 1) p') σ' τ') ∨ (r = 0 ∧ ∃ q, Sp n B q σ' ∧ Wr q τ')) := by
  have hTT := hT
  obtain ⟨t3, t8, hC, hcC, hpt, hcl⟩ := hTT
  by_cases hok : p < n ∧ (B p = 255 ∨ B p < c)
  · obtain ⟨x, e, f, hU, hf, hF, hF0, hfe, hse, eX, eM⟩ := class_upper hS hT hc hok
    rw [eX, eM]
    have hS1 := hS.step hok.1
    unfold F_X0_readClass_25
    rw [ix_in (by omega) (by omega), nm_eq, nI_clamp (by omega)]
    generalize hσ2 : st (st σ 2 2 (nI (p + 1))) 9 c x = σ2
    have x2 : ∀ d, d ≠ 2 → d ≠ 9 → σ2 d = σ d := fun d a b => by rw [← hσ2, st_row b, st_row a]
    have x9 : σ2 9 c = x := by rw [← hσ2, st_hit]
    have hinh := inherit_X hC hc hf σ2 (e := e) (by rw [x9]; exact hU) (by rw [x2 3 (by decide) (by decide), t3]) (by rw [x2 10 (by decide) (by decide)]; exact hF)
    rw [hinh, b1_some]
    generalize hσ3 : inh σ2 c f e = σ3
    have x3 : ∀ d, d ≠ 10 → d ≠ 11 → d ≠ 12 → d ≠ 13 → σ3 d = σ2 d := fun d a b c' d' => by rw [← hσ3, inh_row ⟨a, b, c', d'⟩]
    have x3_10 : σ3 10 = st σ2 10 c (nI f) 10 := by
      rw [← hσ3]; unfold inh
      rw [fill_row (by decide), fill_row (by decide), fill_row (by decide)]
    have x3_11 : σ3 11 = fill σ 11 (15 * c) (15 * c + f) (fieldUp (σ 11) e) 11 := by
      rw [← hσ3]; unfold inh
      rw [fill_row (by decide), fill_row (by decide), x2 11 (by decide) (by decide)]
      exact fill_cong (by rw [st_row (by decide), x2 11 (by decide) (by decide)])
    have x3_12 : σ3 12 = fill σ 12 (16 * c) (16 * c + 16) (slotUp (σ 12) e) 12 := by
      rw [← hσ3]; unfold inh
      rw [fill_row (by decide), x2 12 (by decide) (by decide)]
      exact fill_cong (by rw [fill_row (by decide), st_row (by decide), x2 12 (by decide) (by decide)])
    have x3_13 : σ3 13 = fill σ 13 (16 * c) (16 * c + 16) (fun _ => -1) 13 := by
      rw [← hσ3]; unfold inh
      exact fill_cong (by rw [fill_row (by decide), fill_row (by decide), st_row (by decide), x2 13 (by decide) (by decide)])
    generalize hτ2 : st (st τ 4 c x) 0 5 (nI (p + 1)) = τ2
    have m2 : ∀ d, d ≠ 0 → d ≠ 4 → τ2 d = τ d := fun d a b => by rw [← hτ2, st_row a, st_row b]
    have m2_0 : ∀ k, k ≠ 5 → τ2 0 k = τ 0 k := fun k a => by rw [← hτ2, st_mis (Or.inr a), st_mis (Or.inl (by decide))]
    have m2_5 : τ2 0 5 = nI (p + 1) := by rw [← hτ2, st_hit]
    have m2_4 : τ2 4 = st τ 4 c x 4 := by rw [← hτ2, st_row (by decide)]
    have hcm := copy_M (by omega) hf hU τ2 hF0 f 0 fu (by omega) (by rw [show fu = 9000 from rfl]; omega)
    rw [show 15 * c + 0 = 15 * c from rfl, fill_nil] at hcm
    have hcm' : F_X8_readClass_86 fu (nI c) x (nI f) 0 τ2 = _ := hcm
    rw [hcm']
    generalize hτ3 : fill τ2 6 (15 * c) (15 * c + f) (fieldUp (τ2 6) e) = τ3
    have m3 : ∀ d, d ≠ 6 → τ3 d = τ2 d := fun d a => by rw [← hτ3, fill_row a]
    have m3_6 : τ3 6 = fill τ 6 (15 * c) (15 * c + f) (fieldUp (τ 6) e) 6 := by
      rw [← hτ3, m2 6 (by decide) (by decide)]
      exact fill_cong (m2 6 (by decide) (by decide))
    have hS3 : Sy n B (p + 1) σ3 τ3 := by
      refine hS1.cong ?_ ?_ ?_ ?_ ?_
      · rw [x3 1 (by decide) (by decide) (by decide) (by decide), x2 1 (by decide) (by decide), st_row (by decide)]
      · rw [x3 2 (by decide) (by decide) (by decide) (by decide), ← hσ2, st_row (by decide)]
      · rw [x3 8 (by decide) (by decide) (by decide) (by decide), x2 8 (by decide) (by decide), st_row (by decide)]
      · intro k hk
        rw [m3 0 (by decide), ← hτ2]
        by_cases a : k = 5
        · subst a; rw [st_hit, st_hit]
        · rw [st_mis (Or.inr a), st_mis (Or.inl (by decide)), st_mis (Or.inr a)]
      · rw [m3 2 (by decide), m2 2 (by decide) (by decide), st_row (by decide)]
    have r7 : τ3 7 = τ 7 := by rw [m3 7 (by decide), m2 7 (by decide) (by decide)]
    obtain ⟨σ4, σ', r, τ', f1, f2, f3, frx, hcase⟩ := class_rest (f := f) hC hc hU hf hS3 (by rw [x3 3 (by decide) (by decide) (by decide) (by decide), x2 3 (by decide) (by decide), t3]) (by rw [m3 0 (by decide), m2_0 8 (by decide), t8])
      (by rw [x3_10, st_hit]) (fun k hk => by rw [x3_12, fill_in (by omega), r7]; exact hse k hk) (fun k hk => by rw [x3_13, fill_in (by omega)]) (fun k hk => by rw [x3_11, m3_6, fill_in (by omega), fill_in (by omega)]; exact hfe k hk)
    rw [f1, b1_some, f2, b1_some, f3]
    have frA : FrX [9, 10, 11, 12, 13] σ σ' := by
      refine FrX.tr (b := σ3) ?_ (frx.mono (by intro d hd; simp at hd ⊢; omega))
      intro d a1 a2
      rw [x3 d (by intro z; subst z; simp at a2) (by intro z; subst z; simp at a2) (by intro z; subst z; simp at a2) (by intro z; subst z; simp at a2), x2 d a1 (by intro z; subst z; simp at a2)]
    refine ⟨σ', r, τ', rfl, rfl, frA, ?_⟩
    rcases hcase with ⟨hr, frm, lx, lm, p', g, hp', hS', hg, y10, y5, y11, hI⟩ | hbad
    · have frB : FrM [4, 5, 6, 7, 8] τ τ' := by
        refine FrM.tr (b := τ3) ?_ (frm.mono (by intro d hd; simp at hd ⊢; omega))
        refine ⟨fun d a1 a2 => ?_, fun k a1 a2 => ?_⟩
        · rw [m3 d (by intro z; subst z; simp at a2), m2 d a1 (by intro z; subst z; simp at a2)]
        · rw [m3 0 (by decide), m2_0 k a1]
      have z9 : σ' 9 = σ2 9 := by rw [frx 9 (by decide) (by decide), x3 9 (by decide) (by decide) (by decide) (by decide)]
      have z4 : τ' 4 = τ2 4 := by rw [frm.1 4 (by decide) (by decide), m3 4 (by decide)]
      refine Or.inl ⟨hr, frB, p', by omega, hS', ?_⟩
      have low12 : ∀ i, i < 16 * c → σ' 12 i = σ 12 i := fun i hi => by rw [(lx.2.2 i hi).1, x3_12, fill_out (by omega)]
      have k9 : ∀ i, i < c → σ' 9 i = σ 9 i := fun i hi => by rw [z9, ← hσ2, st_mis (Or.inr (by omega)), st_row (by decide)]
      refine ⟨by rw [frA 3 (by decide) (by decide), t3], by rw [frB.2 8 (by decide) (by decide), t8], hC, by omega, ?_, ?_⟩
      · intro d hd
        unfold ptSet
        by_cases a : d = c
        · subst a
          rw [if_neg (by omega), if_pos rfl]
          omega
        · rw [if_neg (by omega), if_neg (by omega)]
          exact hpt d (by omega)
      · intro d hd
        by_cases a : d = c
        · subst a
          unfold ptSet
          rw [if_neg (by omega), if_pos rfl]
          refine ⟨e, g, ?_, ?_, hg, y10, y5, y11, ?_⟩
          · rw [z9, x9]; exact hU
          · rw [z9, x9, z4, m2_4, st_hit]
          · have h8 := hI.up (up' := slotUp (σ' 12) e) (fun k hk => by
              rw [slotUp_eq hU (Nat.le_refl d) low12 k hk, hse k hk, r7])
            refine ⟨fun k hk => ?_, h8.2⟩
            obtain ⟨a1, a2, a3⟩ := h8.1 k hk
            refine ⟨a1, a2, a3.imp id ?_⟩
            rintro ⟨b1, q, v, b2, b3, b4⟩
            exact ⟨b1, q, v, b2, by omega, b4⟩
        · have hd' : d < c := by omega
          unfold ptSet
          rw [if_neg (by omega), if_neg (by omega)]
          refine (hcl d hd').keep hd' k9 ?_ ?_ low12 ?_ ?_ ?_ ?_ ?_ ?_
          · intro i hi
            rw [(lx.1 i hi).2, x3_10, st_mis (Or.inr (by omega)), x2 10 (by decide) (by decide)]
          · intro i hi
            rw [lx.2.1 i hi, x3_11, fill_out (by omega)]
          · intro i hi
            rw [(lx.2.2 i hi).2, x3_13, fill_out (by omega)]
          · intro i hi
            rw [z4, m2_4, st_mis (Or.inr (by omega))]
          · intro i hi
            rw [(lm.1 i hi).2, m3 5 (by decide), m2 5 (by decide) (by decide)]
          · intro i hi
            rw [lm.2.1 i hi, m3_6, fill_out (by omega)]
          · intro i hi
            rw [(lm.2.2 i hi).1, r7]
          · intro i hi
            rw [(lm.2.2 i hi).2, m3 8 (by decide), m2 8 (by decide) (by decide)]
    · exact Or.inr hbad
  · -- the upper class' byte is wrong
    have eX : F_X0_readClass (nI c) σ = F_X0_readClass_25 (nI c) (-1) (nI c) (st σ 2 3 1) := by
      unfold F_X0_readClass
      rw [orNothing_X hS (by omega), if_neg hok, b2_some, if_neg (by decide)]
    have eM : F_X8_readClass (nI c) τ = some (0, st τ 0 6 (nI p)) := by
      unfold F_X8_readClass
      by_cases hp : p < n
      · have hb := (hS.2.1.2.2.2.1 p hp).1
        rw [here_in hS hp, b1_some, b1_some, show (255 : Int32) = nI 255 from rfl, if_eq (by omega) (by omega), if_lt (by omega) (by omega), if_neg (fun z => hok ⟨hp, Or.inl z⟩), if_neg (fun z => hok ⟨hp, Or.inr z⟩), hS.2.2.2.1, bad_M hS.2.2.2.2.1, b2_some, bo_0]
      · rw [here_out hS hp, b1_some, b1_some, if_neg (by decide), show (256 : Int32) = nI 256 from rfl, if_lt (by omega) (by omega), if_neg (by omega), hS.2.2.2.1, bad_M hS.2.2.2.2.1, b2_some, bo_0]
    have hSp := hS.stop
    rw [eX, eM]
    unfold F_X0_readClass_25
    rw [ix_in (by omega) (by omega), nm_eq, nI_clamp (by omega)]
    have hSp2 := hSp.put (c := 9) (k := c) (v := -1) (by decide)
    have hinh := inherit_X hC hc (f := 0) (by omega) (st (st σ 2 3 1) 9 c (-1)) (e := none) (Or.inl ⟨st_hit, rfl⟩) (by rw [st_mis (Or.inl (by decide)), st_mis (Or.inl (by decide)), t3]) rfl
    rw [hinh, b1_some]
    have hSp3 : Sp n B p (inh (st (st σ 2 3 1) 9 c (-1)) c 0 none) := hSp2.cong (inh_row (by decide)) (inh_row (by decide)) (inh_row (by decide))
    have e10 : inh (st (st σ 2 3 1) 9 c (-1)) c 0 none 10 c = nI 0 := by
      unfold inh
      rw [fill_row (by decide), fill_row (by decide), fill_row (by decide), st_hit]
    rw [readFields_stop hSp3 (by omega) (by omega) e10, b1_some]
    have hSp4 := hSp3.put (c := 10) (k := c) (v := nI 0) (by decide)
    rw [readSlots_stop hSp4, b1_some]
    refine ⟨_, 0, _, rfl, rfl, ?_, Or.inr ⟨rfl, p, hSp4, hS.wrong p⟩⟩
    intro d a1 a2
    rw [st_row (by intro z; subst z; simp at a2), inh_row ⟨by intro z; subst z; simp at a2, by intro z; subst z; simp at a2, by intro z; subst z; simp at a2, by intro z; subst z; simp at a2⟩, st_row (by intro z; subst z; simp at a2), st_row a1]
