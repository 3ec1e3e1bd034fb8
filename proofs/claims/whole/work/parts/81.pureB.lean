/-! the owner and the parameters; the head of a method on both sides -/
/-- a method's head as both tables have it -/
def HeadOK (C m : Nat) (σ τ : St) : Prop := ∃ (P L : Nat), σ 15 m = τ 10 m ∧ (σ 15 m = -1 ∨ ∃ o, o < C ∧ σ 15 m = nI o) ∧ P ≤ 8 ∧ σ 16 m = nI P ∧ τ 11 m = nI P ∧ (∀ k, k < P → σ 17 (8 * m + k) = τ 12 (8 * m + k)) ∧ σ 18 m = τ 13 m ∧ L ≤ 12 ∧ σ 19 m = nI L ∧ τ 14 m = nI L ∧ σ 20 m = τ 15 m
/-- other methods' rows stay -/
def OthX (m : Nat) (σ σ' : St) : Prop := (∀ r i, r ≠ 2 → r ≠ 17 → i ≠ m → σ' r i = σ r i) ∧ ∀ i, i < 8 * m → σ' 17 i = σ 17 i
def OthM (m : Nat) (τ τ' : St) : Prop := (∀ r i, r ≠ 0 → r ≠ 12 → i ≠ m → τ' r i = τ r i) ∧ ∀ i, i < 8 * m → τ' 12 i = τ 12 i
def M_told (x1 : Int32) (u3 : St) : Option (Int32 × St) := b2 (F_X8_over 0 7 u3) fun r5 u6 => (if r5 = 0 then (some (0, u6)) else (b1 (F_X8_last u6) fun r9 => (ix 64 x1 (if (u6 10 (x1).toNatClampNeg) < 0 then (F_X8_readMethod_111 x1 r9 0 u6) else (ix 64 x1 (ix 512 (8 * x1) (nm (st u6 12 ((8 * x1)).toNatClampNeg (1 + (u6 10 (x1).toNatClampNeg))) fun u14 => (F_X8_readMethod_111 x1 r9 1 u14))))))))
theorem params40_both {n C m p bf : Nat} {B : Nat → Nat} {σ τ : St} {xo : Int32} (hC : C ≤ 32) (hm : m < 64) (hbf : bf ≤ 1) (hS : Sy n B p σ τ) (h8 : τ 0 8 = nI C)
    (h10 : τ 10 m = xo) (hx : (bf = 0 ∧ xo = -1) ∨ (bf = 1 ∧ ∃ o, o < 256 ∧ xo = nI o)) (h17 : bf = 1 → σ 17 (8 * m) = xo + 1) :
    ∃ σ' : St, F_X3_readParameters_40 (nI C) (nI m) (nI bf) σ = some σ' ∧ FrX [16, 17] σ σ' ∧
      ((∃ (τ' : St) (p' t : Nat), M_told (nI m) τ = F_X8_readMethod_114 1 (nI m) (nI t) (nI (bf + t)) (nI t) τ' ∧ t ≤ 7 ∧ p < p' ∧ Sy n B p' σ' τ' ∧ FrM [12] τ τ' ∧ σ' 16 = st σ 16 m (nI (bf + t)) 16 ∧ (∀ i, i < 8 * m → σ' 17 i = σ 17 i ∧ τ' 12 i = τ 12 i) ∧ (∀ k, k < bf + t → σ' 17 (8 * m + k) = τ' 12 (8 * m + k))) ∨
      (∃ (q : Nat) (τ' : St), M_told (nI m) τ = some (0, τ') ∧ Sp n B q σ' ∧ Wr q τ')) := by
  have hfu : fu = 9000 := rfl
  have hix : ∀ {α : Type} (y : Option α), ix 64 (nI m) y = y := fun y => ix_in (by omega) (by omega)
  have hcl : (nI m).toNatClampNeg = m := nI_clamp (by omega)
  have h8m : (8 : Int32) * nI m = nI (8 * m) := pk_mul 8 m
  have hix2 : ∀ {α : Type} (y : Option α), ix 512 (nI (8 * m)) y = y := fun y => ix_in (by omega) (by omega)
  have hcl2 : (nI (8 * m)).toNatClampNeg = 8 * m := nI_clamp (by omega)
  unfold M_told
  simp only [hix, hcl, h8m, hix2, hcl2, nm_eq]
  unfold F_X3_readParameters_40
  rcases read_both hS 0 7 with ⟨hp, hb, g1, g2, e1, e2⟩ | ⟨-, e1, e2⟩
  · have ht : B p ≤ 7 := (nI_leI (b := 7) (by omega) (by omega)).mp g2
    rw [e1, e2, b2_some, b2_some, if_neg (show ¬ (1 : Int32) = 0 by decide), nm_eq, if_neg (nI_pos (a_lt hb))]
    have hS1 := hS.step hp
    rw [last_M hS1, b1_some, st_mis (Or.inl (by decide)), h10]
    have key : ∀ τ4 : St, Sy n B (p + 1) (st σ 2 2 (nI (p + 1))) τ4 → τ4 0 8 = nI C → FrM [12] τ τ4 → (∀ i, i < 8 * m → τ4 12 i = τ 12 i) → (∀ k, k < bf → σ 17 (8 * m + k) = τ4 12 (8 * m + k)) →
        ∃ σ' : St, F_X3_readParameters_56 fu (nI C) (nI m) (nI bf) (nI (B p)) 0 (st σ 2 2 (nI (p + 1))) = some σ' ∧ FrX [16, 17] σ σ' ∧
          ((∃ (τ' : St) (p' t : Nat), F_X8_readMethod_111 (nI m) (nI (B p)) (nI bf) τ4 = F_X8_readMethod_114 1 (nI m) (nI t) (nI (bf + t)) (nI t) τ' ∧ t ≤ 7 ∧ p < p' ∧ Sy n B p' σ' τ' ∧ FrM [12] τ τ' ∧ σ' 16 = st σ 16 m (nI (bf + t)) 16 ∧ (∀ i, i < 8 * m → σ' 17 i = σ 17 i ∧ τ' 12 i = τ 12 i) ∧ (∀ k, k < bf + t → σ' 17 (8 * m + k) = τ' 12 (8 * m + k))) ∨
          (∃ (q : Nat) (τ' : St), F_X8_readMethod_111 (nI m) (nI (B p)) (nI bf) τ4 = some (0, τ') ∧ Sp n B q σ' ∧ Wr q τ')) := by
      intro τ4 hS4 h84 fr4 lo4 r4
      obtain ⟨σ', f1, frx, hcase⟩ := params_loop hC hm hbf ht (B p) 0 (p + 1) fu fu _ _ (by omega) (by omega) (by omega) hS4 h84 (fun k hk => by rw [st_row (by decide)]; exact r4 k hk)
      have f1' : F_X3_readParameters_56 fu (nI C) (nI m) (nI bf) (nI (B p)) 0 (st σ 2 2 (nI (p + 1))) = _ := f1
      refine ⟨σ', f1', (FrX.st (Or.inl rfl)).tr frx, ?_⟩
      rcases hcase with ⟨τ', p', f2, hp', hS', frm, x16, low, hi⟩ | ⟨q, τ', f2, hSp, hW⟩
      · have f2' : F_X8_readMethod_111 (nI m) (nI (B p)) (nI bf) τ4 = _ := f2
        refine Or.inl ⟨τ', p', B p, f2', ht, by omega, hS', fr4.tr frm, ?_, ?_, hi⟩
        · rw [x16]
          funext a
          simp only [st_app]
          simp
        · intro a ha
          obtain ⟨l1, l2⟩ := low a ha
          rw [st_row (by decide)] at l1
          exact ⟨l1, l2.trans (lo4 a ha)⟩
      · have f2' : F_X8_readMethod_111 (nI m) (nI (B p)) (nI bf) τ4 = _ := f2
        exact Or.inr ⟨q, τ', f2', hSp, hW⟩
    rcases hx with ⟨rfl, rfl⟩ | ⟨rfl, o, ho, rfl⟩
    · rw [if_pos (show (-1 : Int32) < 0 by decide)]
      exact key _ hS1 (by rw [st_mis (Or.inr (by decide)), h8]) (FrM.st (Or.inl ⟨rfl, Or.inl rfl⟩)) (fun i _ => by rw [st_row (by decide)]) (fun k hk => by omega)
    · rw [if_neg (nI_pos (a_lt ho))]
      refine key _ (hS1.putM ⟨by decide, Or.inl (by decide)⟩) (by rw [st_mis (Or.inl (by decide)), st_mis (Or.inr (by decide)), h8]) ((FrM.st (Or.inl ⟨rfl, Or.inl rfl⟩)).tr (FrM.st (Or.inr ⟨by decide, by simp⟩))) (fun i hi => by rw [st_mis (Or.inr (by omega)), st_row (by decide)]) (fun k hk => ?_)
      rw [show k = 0 by omega, show 8 * m + 0 = 8 * m from rfl, st_hit, h17 rfl]
      exact Int32.add_comm _ _
  · rw [e1, e2, b2_some, b2_some, if_pos rfl, nm_eq, if_pos (show (-1 : Int32) < 0 by decide)]
    obtain ⟨σ', f1, hSp, fr⟩ := params56_stop (t := 0) (nI C) hm hbf (by omega) 0 0 fu _ rfl (by omega) hS.stop
    exact ⟨σ', f1, (FrX.st (Or.inl rfl)).tr fr, Or.inr ⟨p, _, rfl, hSp, hS.wrong p⟩⟩
theorem head_both {n C m p : Nat} {B : Nat → Nat} {σ τ : St} (hC : C ≤ 32) (hm : m < 64) (hS : Sy n B p σ τ) (h8 : τ 0 8 = nI C) :
    ∃ σ' : St, F_X3_readHead (nI C) (nI m) σ = some σ' ∧ FrX [15, 16, 17, 18, 19, 20] σ σ' ∧
      ((∃ (τ' : St) (p' : Nat), F_X8_readMethod (nI m) τ = M_code (nI m) τ' ∧ p < p' ∧ Sy n B p' σ' τ' ∧ FrM [10, 11, 12, 13, 14, 15] τ τ' ∧ OthX m σ σ' ∧ OthM m τ τ' ∧ HeadOK C m σ' τ') ∨
      (∃ (q : Nat) (τ' : St), F_X8_readMethod (nI m) τ = some (0, τ') ∧ Sp n B q σ' ∧ Wr q τ')) := by
  have hix : ∀ {α : Type} (y : Option α), ix 64 (nI m) y = y := fun y => ix_in (by omega) (by omega)
  have hcl : (nI m).toNatClampNeg = m := nI_clamp (by omega)
  by_cases hok : p < n ∧ (B p = 255 ∨ B p < C)
  · have hb := (hS.2.1.2.2.2.1 p hok.1).1
    have eX : F_X3_readHead (nI C) (nI m) σ = if B p = 255 then F_X3_readHead_28 (nI C) (nI m) (-1) (nI m) (st σ 2 2 (nI (p + 1))) else F_X3_readHead_28 (nI C) (nI m) (nI (B p)) (nI m) (st σ 2 2 (nI (p + 1))) := by
      unfold F_X3_readHead
      rw [orNothing_X hS (by omega), if_pos hok, b2_some, show (255 : Int32) = nI 255 from rfl, if_eq (by omega) (by omega)]
    have eM : F_X8_readMethod (nI m) τ = if B p = 255 then F_X8_readMethod_53 (nI m) (-1) (nI m) τ else F_X8_readMethod_53 (nI m) (nI (B p)) (nI m) τ := by
      unfold F_X8_readMethod F_X8_readMethod_30
      rw [here_in hS hok.1, b1_some, b1_some, b1_some, b1_some, h8, show (255 : Int32) = nI 255 from rfl, if_eq (by omega) (by omega), if_lt (by omega) (by omega), if_eq (by omega) (by omega)]
      by_cases h : B p = 255
      · rw [if_pos h, if_pos h]
      · rw [if_neg h, if_pos (hok.2.resolve_left h), if_neg h]
    have key : ∀ (xo : Int32) (bf : Nat), bf ≤ 1 → ((bf = 0 ∧ xo = -1) ∨ (bf = 1 ∧ ∃ o, o < 256 ∧ o < C ∧ xo = nI o)) → ∃ σ' : St, F_X3_readHead_28 (nI C) (nI m) xo (nI m) (st σ 2 2 (nI (p + 1))) = some σ' ∧ FrX [15, 16, 17, 18, 19, 20] σ σ' ∧
      ((∃ (τ' : St) (p' : Nat), F_X8_readMethod_53 (nI m) xo (nI m) τ = M_code (nI m) τ' ∧ p < p' ∧ Sy n B p' σ' τ' ∧ FrM [10, 11, 12, 13, 14, 15] τ τ' ∧ OthX m σ σ' ∧ OthM m τ τ' ∧ HeadOK C m σ' τ') ∨
      (∃ (q : Nat) (τ' : St), F_X8_readMethod_53 (nI m) xo (nI m) τ = some (0, τ') ∧ Sp n B q σ' ∧ Wr q τ')) := by
      intro xo bf hbf hx
      unfold F_X3_readHead_28
      have e53 : F_X8_readMethod_53 (nI m) xo (nI m) τ = ix 64 (nI m) (nm (st τ 10 (nI m).toNatClampNeg xo) fun u2 => nm (st u2 0 5 ((u2 0 5) + 1)) fun u3 => M_told (nI m) u3) := rfl
      rw [e53]
      have hpl : st τ 10 m xo 0 5 + 1 = nI (p + 1) := by
        rw [st_mis (Or.inl (by decide)), hS.2.2.2.1]
        exact nI_1 p
      rw [hix, hix, hcl, nm_eq, nm_eq, nm_eq, hpl]
      have hS1 : Sy n B (p + 1) (st (st σ 2 2 (nI (p + 1))) 15 m xo) (st (st τ 10 m xo) 0 5 (nI (p + 1))) := by
        refine (hS.step hok.1).cong (st_row (by decide)) (st_row (by decide)) (st_row (by decide)) ?_ (by rw [st_row (by decide), st_row (by decide), st_row (by decide)])
        intro k hk
        by_cases a : k = 5
        · subst a; rw [st_hit, st_hit]
        · rw [st_mis (Or.inr a), st_mis (Or.inl (by decide)), st_mis (Or.inr a)]
      generalize hσ2 : st (st σ 2 2 (nI (p + 1))) 15 m xo = σ2
      generalize hτ2 : st (st τ 10 m xo) 0 5 (nI (p + 1)) = τ2
      rw [hσ2, hτ2] at hS1
      have x15 : σ2 15 m = xo := by rw [← hσ2, st_hit]
      have m10 : τ2 10 m = xo := by rw [← hτ2, st_row (by decide), st_hit]
      have m08 : τ2 0 8 = nI C := by rw [← hτ2, st_mis (Or.inr (by decide)), st_mis (Or.inl (by decide)), h8]
      have fx2 : FrX [15, 16, 17, 18, 19, 20] σ σ2 := by rw [← hσ2]; exact (FrX.st (Or.inl rfl)).tr (FrX.st (Or.inr (by simp)))
      have fm2 : FrM [10, 11, 12, 13, 14, 15] τ τ2 := by rw [← hτ2]; exact (FrM.st (Or.inr ⟨by decide, by simp⟩)).tr (FrM.st (Or.inl ⟨rfl, Or.inl rfl⟩))
      have ox2 : Onl 2 m σ σ2 := by rw [← hσ2]; exact Onl.rd.tr Onl.pt
      have om2 : Onl 0 m τ τ2 := by rw [← hτ2]; exact Onl.pt.tr Onl.rd
      -- the parameters
      have hpar : ∃ σ3 : St, F_X3_readParameters (nI C) (nI m) σ2 = F_X3_readParameters_40 (nI C) (nI m) (nI bf) σ3 ∧ (∀ r, r ≠ 17 → σ3 r = σ2 r) ∧ (∀ i, i < 8 * m → σ3 17 i = σ2 17 i) ∧ (bf = 1 → σ3 17 (8 * m) = xo + 1) := by
        unfold F_X3_readParameters
        rw [hix, hcl, x15]
        rcases hx with ⟨rfl, rfl⟩ | ⟨rfl, o, ho, -, rfl⟩
        · rw [if_pos rfl]
          unfold F_X3_readParameters_15
          rw [if_neg (show ¬ (0 : Int32) = 1 by decide)]
          exact ⟨σ2, rfl, fun _ _ => rfl, fun _ _ => rfl, fun z => by omega⟩
        · rw [if_neg (ne_m1 (a_lt ho))]
          unfold F_X3_readParameters_15
          rw [if_pos rfl, hix, show (8 : Int32) = nI 8 from rfl, pk_mul, ix_in (by omega) (by omega), nm_eq, hcl, x15, nI_clamp (by omega), Nat.mul_comm m 8]
          exact ⟨_, rfl, fun r hr => st_row hr, fun i hi => st_mis (Or.inr (by omega)), fun _ => st_hit⟩
      obtain ⟨σ3, p1, p2, p3, p4⟩ := hpar
      rw [p1]
      have hS3 : Sy n B (p + 1) σ3 τ2 := hS1.cong (p2 1 (by decide)) (p2 2 (by decide)) (p2 8 (by decide)) (fun _ _ => rfl) rfl
      obtain ⟨σ4, q1, fx4, hcase⟩ := params40_both (xo := xo) hC hm hbf hS3 m08 m10 (hx.imp id (fun z => ⟨z.1, z.2.choose, z.2.choose_spec.1, z.2.choose_spec.2.2⟩)) p4
      rw [q1, b1_some]
      have fx4' : FrX [15, 16, 17, 18, 19, 20] σ2 σ4 := by
        intro d a1 a2
        rw [fx4 d a1 (by simp at a2 ⊢; omega), p2 d (by intro z; subst z; simp at a2)]
      rcases hcase with ⟨τ4, p', t, q2, ht, hp', hS4, fm4, x16, low, hi⟩ | ⟨q, τ4, q2, hSp, hW⟩
      · rw [q2]
        have h16 : σ4 16 m = nI (bf + t) := by rw [x16, st_hit]
        obtain ⟨σ5, r1, fx5, ax5, hc5⟩ := head_gives (P := bf + t) (t := t) hC hm (by omega) ht hS4 (by rw [fm4.2 8 (by decide) (by decide), m08]) h16
        rw [r1]
        refine ⟨σ5, rfl, (fx2.tr fx4').tr (fx5.mono (by intro d hd; simp at hd ⊢; omega)), ?_⟩
        rcases hc5 with ⟨τ5, p5, L, gv, r2, hp5, hS5, fm5, am5, y11, y18, y13, hL, y19, y14, y20⟩ | ⟨q, τ5, r2, hSp, hW⟩
        · refine Or.inl ⟨τ5, p5, r2, by omega, hS5, ?_, ?_, ?_, bf + t, L, ?_, ?_, by omega, ?_, y11, ?_, by rw [y18, y13], hL, y19, y14, y20⟩
          · exact (fm2.tr (fm4.mono (by intro d hd; simp at hd ⊢; omega))).tr (fm5.mono (by intro d hd; simp at hd ⊢; omega))
          · refine ⟨fun r i a1 a2 a3 => ?_, fun i hi2 => ?_⟩
            · rw [ax5 r i a1 a3]
              by_cases a4 : r = 16
              · subst a4
                rw [x16, st_mis (Or.inr a3), p2 16 (by decide)]
                exact ox2 16 i a1 a3
              · rw [fx4 r a1 (by simp; omega), p2 r a2]
                exact ox2 r i a1 a3
            · rw [fx5 17 (by decide) (by decide), (low i hi2).1, p3 i hi2, ← hσ2, st_row (by decide), st_row (by decide)]
          · refine ⟨fun r i a1 a2 a3 => ?_, fun i hi2 => ?_⟩
            · rw [am5 r i a1 a3, fm4.1 r a1 (by simp; omega)]
              exact om2 r i a1 a3
            · rw [fm5.1 12 (by decide) (by decide), (low i hi2).2, ← hτ2, st_row (by decide), st_row (by decide)]
          · rw [fx5 15 (by decide) (by decide), fx4 15 (by decide) (by decide), p2 15 (by decide), x15, fm5.1 10 (by decide) (by decide), fm4.1 10 (by decide) (by decide), m10]
          · rw [fx5 15 (by decide) (by decide), fx4 15 (by decide) (by decide), p2 15 (by decide), x15]
            rcases hx with ⟨-, h⟩ | ⟨-, o, -, ho, h⟩
            · exact Or.inl h
            · exact Or.inr ⟨o, ho, h⟩
          · rw [fx5 16 (by decide) (by decide), h16]
          · intro k hk
            rw [fx5 17 (by decide) (by decide), fm5.1 12 (by decide) (by decide)]
            exact hi k hk
        · exact Or.inr ⟨q, τ5, r2, hSp, hW⟩
      · rw [q2, typeNothing_stop hSp, b2_some, if_neg (show ¬ (-1 : Int32) = 255 by decide)]
        obtain ⟨σ5, r1, hSp5, fx5⟩ := st_head62_stop hSp hm (-1)
        exact ⟨σ5, r1, (fx2.tr fx4').tr (fx5.mono (by intro d hd; simp at hd ⊢; omega)), Or.inr ⟨q, τ4, rfl, hSp5, hW⟩⟩
    rw [eX, eM]
    by_cases h : B p = 255
    · rw [if_pos h, if_pos h]
      exact key (-1) 0 (by omega) (Or.inl ⟨rfl, rfl⟩)
    · rw [if_neg h, if_neg h]
      exact key (nI (B p)) 1 (by omega) (Or.inr ⟨rfl, B p, hb, hok.2.resolve_left h, rfl⟩)
  · have eX : F_X3_readHead (nI C) (nI m) σ = F_X3_readHead_28 (nI C) (nI m) (-1) (nI m) (st σ 2 3 1) := by
      unfold F_X3_readHead
      rw [orNothing_X hS (by omega), if_neg hok, b2_some, if_neg (by decide)]
    have eM : F_X8_readMethod (nI m) τ = some (0, st τ 0 6 (nI p)) := by
      unfold F_X8_readMethod
      rw [h8]
      by_cases hp : p < n
      · have hb := (hS.2.1.2.2.2.1 p hp).1
        rw [here_in hS hp, b1_some, b1_some, show (255 : Int32) = nI 255 from rfl, if_eq (by omega) (by omega), if_lt (by omega) (by omega), if_neg (fun z => hok ⟨hp, Or.inl z⟩), if_neg (fun z => hok ⟨hp, Or.inr z⟩), hS.2.2.2.1, bad_M hS.2.2.2.2.1, b2_some, bo_0]
      · rw [here_out hS hp, b1_some, b1_some, if_neg (by decide), show (256 : Int32) = nI 256 from rfl, if_lt (by omega) (by omega), if_neg (by omega), hS.2.2.2.1, bad_M hS.2.2.2.2.1, b2_some, bo_0]
    rw [eX, eM]
    obtain ⟨σ', e, hSp, fr⟩ := head28_stop hS.stop (nI C) (-1) hm
    exact ⟨σ', e, (FrX.st (Or.inl rfl)).tr fr, Or.inr ⟨p, _, rfl, hSp, hS.wrong p⟩⟩
