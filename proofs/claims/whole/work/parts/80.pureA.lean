/-! the head of a method, whole -/
def M_code (m : Int32) (u : St) : Option (Int32 × St) := b2 (F_X8_over 0 3 u) fun r21 u22 => (if r21 = 0 then (some (0, u22)) else (b1 (F_X8_last u22) fun r25 => (if r25 = 0 then (F_X8_readMethod_268 m 1 u22) else (F_X8_readMethod_268 m 0 u22))))
/-- nothing but place m of any row changes (row r0 holds the readers) -/
def Onl (r0 m : Nat) (σ σ' : St) : Prop := ∀ r i, r ≠ r0 → i ≠ m → σ' r i = σ r i
theorem Onl.rf {r0 m : Nat} {σ : St} : Onl r0 m σ σ := fun _ _ _ _ => rfl
theorem Onl.tr {r0 m : Nat} {a b c : St} (h1 : Onl r0 m a b) (h2 : Onl r0 m b c) : Onl r0 m a c := fun r i h h' => (h2 r i h h').trans (h1 r i h h')
theorem Onl.pt {r0 m c : Nat} {σ : St} {v : Int32} : Onl r0 m σ (st σ c m v) := fun r i _ h' => st_mis (Or.inr h')
theorem Onl.rd {r0 m k : Nat} {σ : St} {v : Int32} : Onl r0 m σ (st σ r0 k v) := fun r i h _ => st_mis (Or.inl h)
theorem head_tail {n m p P : Nat} {B : Nat → Nat} {σ τ : St} (hm : m < 64) (hP : P ≤ 8) (hS : Sy n B p σ τ) (h16 : σ 16 m = nI P) (gv : Int32) :
    ∃ σ' : St, F_X3_readHead_62 (nI m) gv (nI m) σ = some σ' ∧ FrX [18, 19, 20] σ σ' ∧ Onl 2 m σ σ' ∧
      ((∃ (τ' : St) (p' L : Nat), F_X8_readMethod_194 (nI m) (nI P) gv (nI m) τ = M_code (nI m) τ' ∧ p < p' ∧ Sy n B p' σ' τ' ∧ FrM [13, 14, 15] τ τ' ∧ Onl 0 m τ τ' ∧ σ' 18 m = gv ∧ τ' 13 m = gv ∧ L ≤ 12 ∧ σ' 19 m = nI L ∧ τ' 14 m = nI L ∧ σ' 20 m = τ' 15 m) ∨
      (∃ (q : Nat) (τ' : St), F_X8_readMethod_194 (nI m) (nI P) gv (nI m) τ = some (0, τ') ∧ Sp n B q σ' ∧ Wr q τ')) := by
  have hix : ∀ {α : Type} (y : Option α), ix 64 (nI m) y = y := fun y => ix_in (by omega) (by omega)
  have hcl : (nI m).toNatClampNeg = m := nI_clamp (by omega)
  unfold F_X3_readHead_62 F_X8_readMethod_194
  simp only [hix, hcl, nm_eq]
  rw [st_mis (σ := σ) (c := 18) (Or.inl (by decide)), h16]
  have hS1 := (hS.putX (c := 18) (k := m) (v := gv) (by decide)).putM (c := 13) (k := m) (v := gv) ⟨by decide, Or.inl (by decide)⟩
  rcases read_both hS1 (nI P) 12 with ⟨hp, hb, g1, g2, e1, e2⟩ | ⟨-, e1, e2⟩
  · have hL : B p ≤ 12 := (nI_leI (b := 12) (by omega) (by omega)).mp g2
    rw [e1, e2, b2_some, b2_some, if_neg (show ¬ (1 : Int32) = 0 by decide)]
    have hS2 := hS1.step hp
    rw [last_M hS2, b1_some]
    have hS3 := (hS2.putX (c := 19) (k := m) (v := nI (B p)) (by decide)).putM (c := 14) (k := m) (v := nI (B p)) ⟨by decide, Or.inl (by decide)⟩
    rw [st_hit, st_hit, show (12 : Int32) = nI 12 from rfl, pk_sub hL]
    rcases read_both hS3 0 (nI (12 - B p)) with ⟨hp2, hb2, g3, g4, e3, e4⟩ | ⟨-, e3, e4⟩
    · rw [e3, e4, b2_some, b2_some, if_neg (show ¬ (1 : Int32) = 0 by decide)]
      have hS4 := hS3.step hp2
      rw [last_M hS4, b1_some]
      have hS5 := (hS4.putX (c := 20) (k := m) (v := nI (B (p + 1))) (by decide)).putM (c := 15) (k := m) (v := nI (B (p + 1))) ⟨by decide, Or.inl (by decide)⟩
      refine ⟨_, rfl, ?_, ?_, Or.inl ⟨_, p + 1 + 1, B p, rfl, by omega, hS5, ?_, ?_, ?_, ?_, hL, ?_, ?_, ?_⟩⟩
      · exact ((((FrX.st (Or.inr (by simp))).tr (FrX.st (Or.inl rfl))).tr (FrX.st (Or.inr (by simp)))).tr (FrX.st (Or.inl rfl))).tr (FrX.st (Or.inr (by simp)))
      · exact (((Onl.pt.tr Onl.rd).tr Onl.pt).tr Onl.rd).tr Onl.pt
      · exact ((((FrM.st (Or.inr ⟨by decide, by simp⟩)).tr (FrM.st (Or.inl ⟨rfl, Or.inl rfl⟩))).tr (FrM.st (Or.inr ⟨by decide, by simp⟩))).tr (FrM.st (Or.inl ⟨rfl, Or.inl rfl⟩))).tr (FrM.st (Or.inr ⟨by decide, by simp⟩))
      · exact (((Onl.pt.tr Onl.rd).tr Onl.pt).tr Onl.rd).tr Onl.pt
      · rw [st_row (by decide), st_row (by decide), st_row (by decide), st_row (by decide), st_hit]
      · rw [st_row (by decide), st_row (by decide), st_row (by decide), st_row (by decide), st_hit]
      · rw [st_row (by decide), st_row (by decide), st_hit]
      · rw [st_row (by decide), st_row (by decide), st_hit]
      · rw [st_hit, st_hit]
    · rw [e3, e4, b2_some, b2_some, if_pos rfl]
      refine ⟨_, rfl, ?_, ?_, Or.inr ⟨p + 1, _, rfl, hS3.stop.put (by decide), hS3.wrong (p + 1)⟩⟩
      · exact ((((FrX.st (Or.inr (by simp))).tr (FrX.st (Or.inl rfl))).tr (FrX.st (Or.inr (by simp)))).tr (FrX.st (Or.inl rfl))).tr (FrX.st (Or.inr (by simp)))
      · exact (((Onl.pt.tr Onl.rd).tr Onl.pt).tr Onl.rd).tr Onl.pt
  · rw [e1, e2, b2_some, b2_some, if_pos rfl]
    have hSp := hS1.stop.put (c := 19) (k := m) (v := -1) (by decide)
    rw [stopped_number hSp, b2_some]
    refine ⟨_, rfl, ?_, ?_, Or.inr ⟨p, _, rfl, hSp.put (by decide), hS1.wrong p⟩⟩
    · exact (((FrX.st (Or.inr (by simp))).tr (FrX.st (Or.inl rfl))).tr (FrX.st (Or.inr (by simp)))).tr (FrX.st (Or.inr (by simp)))
    · exact ((Onl.pt.tr Onl.rd).tr Onl.pt).tr Onl.pt
/-- from the type that the method gives on -/
theorem head_gives {n C m p P t : Nat} {B : Nat → Nat} {σ τ : St} (hC : C ≤ 32) (hm : m < 64) (hP : P ≤ 8) (ht : t ≤ 7) (hS : Sy n B p σ τ) (h8 : τ 0 8 = nI C) (h16 : σ 16 m = nI P) :
    ∃ σ' : St, (b2 (F_X5_typeOrNothing (nI C) σ) fun r6 u7 => (if r6 = 255 then (F_X3_readHead_62 (nI m) (-1) (nI m) u7) else (F_X3_readHead_62 (nI m) r6 (nI m) u7))) = some σ' ∧ FrX [18, 19, 20] σ σ' ∧ Onl 2 m σ σ' ∧
      ((∃ (τ' : St) (p' L : Nat) (gv : Int32), F_X8_readMethod_114 1 (nI m) (nI t) (nI P) (nI t) τ = M_code (nI m) τ' ∧ p < p' ∧ Sy n B p' σ' τ' ∧ FrM [11, 13, 14, 15] τ τ' ∧ Onl 0 m τ τ' ∧ τ' 11 m = nI P ∧ σ' 18 m = gv ∧ τ' 13 m = gv ∧ L ≤ 12 ∧ σ' 19 m = nI L ∧ τ' 14 m = nI L ∧ σ' 20 m = τ' 15 m) ∨
      (∃ (q : Nat) (τ' : St), F_X8_readMethod_114 1 (nI m) (nI t) (nI P) (nI t) τ = some (0, τ') ∧ Sp n B q σ' ∧ Wr q τ')) := by
  rw [F_X8_readMethod_114, if_pos (nI_le (Nat.le_refl _) (by omega)), ix_in (by omega) (by omega), nm_eq, nI_clamp (by omega)]
  have hS1 := hS.putM (c := 11) (k := m) (v := nI P) ⟨by decide, Or.inl (by decide)⟩
  have h81 : st τ 11 m (nI P) 0 8 = nI C := by rw [st_mis (Or.inl (by decide)), h8]
  by_cases hok : p < n ∧ (B p = 255 ∨ okType C (B p))
  · have hb := (hS.2.1.2.2.2.1 p hok.1).1
    rw [(typeNothing_X hS1 hC).1 hok, b2_some, (type_M hS1 hC h81 1 (Or.inr rfl)).1 ⟨hok.1, hok.2.elim (fun z => Or.inr ⟨rfl, z⟩) Or.inl⟩, b2_some, if_neg (show ¬ (1 : Int32) = 0 by decide)]
    have hS2 := hS1.step hok.1
    rw [last_M hS2, b1_some, b1_some]
    have key : ∀ gv : Int32, ∃ σ' : St, F_X3_readHead_62 (nI m) gv (nI m) (st σ 2 2 (nI (p + 1))) = some σ' ∧ FrX [18, 19, 20] σ σ' ∧ Onl 2 m σ σ' ∧
      ((∃ (τ' : St) (p' L : Nat) (gv' : Int32), F_X8_readMethod_194 (nI m) (nI P) gv (nI m) (st (st τ 11 m (nI P)) 0 5 (nI (p + 1))) = M_code (nI m) τ' ∧ p < p' ∧ Sy n B p' σ' τ' ∧ FrM [11, 13, 14, 15] τ τ' ∧ Onl 0 m τ τ' ∧ τ' 11 m = nI P ∧ σ' 18 m = gv' ∧ τ' 13 m = gv' ∧ L ≤ 12 ∧ σ' 19 m = nI L ∧ τ' 14 m = nI L ∧ σ' 20 m = τ' 15 m) ∨
      (∃ (q : Nat) (τ' : St), F_X8_readMethod_194 (nI m) (nI P) gv (nI m) (st (st τ 11 m (nI P)) 0 5 (nI (p + 1))) = some (0, τ') ∧ Sp n B q σ' ∧ Wr q τ')) := by
      intro gv
      obtain ⟨σ', e1, fx, ax, hcase⟩ := head_tail hm hP hS2 (by rw [st_row (by decide), h16]) gv
      refine ⟨σ', e1, (FrX.st (Or.inl rfl)).tr fx, Onl.rd.tr ax, ?_⟩
      rcases hcase with ⟨τ', p', L, e2, hp', hS', fm, am, y1, y2, y3, y4, y5, y6⟩ | hbad
      · refine Or.inl ⟨τ', p', L, gv, e2, by omega, hS', ((FrM.st (Or.inr ⟨by decide, by simp⟩)).tr (FrM.st (Or.inl ⟨rfl, Or.inl rfl⟩))).tr (fm.mono (by intro d hd; simp at hd ⊢; omega)), (Onl.pt.tr Onl.rd).tr am, ?_, y1, y2, y3, y4, y5, y6⟩
        rw [fm.1 11 (by decide) (by decide), st_row (by decide), st_hit]
      · exact Or.inr hbad
    by_cases a : nI (B p) = 255
    · simp only [if_pos a]
      exact key (-1)
    · simp only [if_neg a]
      exact key (nI (B p))
  · rw [(typeNothing_X hS1 hC).2 hok, b2_some, (type_M hS1 hC h81 1 (Or.inr rfl)).2 (fun z => hok ⟨z.1, z.2.elim Or.inr (fun y => Or.inl y.2)⟩), b2_some, if_pos rfl, if_neg (show ¬ (-1 : Int32) = 255 by decide)]
    obtain ⟨σ', e, h', fr⟩ := st_head62_stop hS1.stop hm (-1)
    refine ⟨σ', e, (FrX.st (Or.inl rfl)).tr fr, ?_, Or.inr ⟨p, _, rfl, h', hS1.wrong p⟩⟩
    unfold F_X3_readHead_62 at e
    have hix : ∀ {α : Type} (y : Option α), ix 64 (nI m) y = y := fun y => ix_in (by omega) (by omega)
    have hcl : (nI m).toNatClampNeg = m := nI_clamp (by omega)
    simp only [hix, hcl, nm_eq] at e
    rw [stopped_number (hS1.stop.put (by decide)), b2_some, stopped_number ((hS1.stop.put (by decide)).put (by decide)), b2_some] at e
    cases e
    exact ((Onl.rd.tr Onl.pt).tr Onl.pt).tr Onl.pt
