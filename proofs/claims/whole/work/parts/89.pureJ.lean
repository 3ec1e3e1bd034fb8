/-! an image is read alike on both sides, or told wrong at the same byte -/
/-- the tables of an image, on both sides -/
def Img (n : Nat) (B : Nat → Nat) (C M : Nat) (pt pm : Nat → Nat) (σ τ : St) : Prop :=
  (n ≤ 8000 ∧ σ 2 1 = nI n ∧ τ 0 4 = nI n ∧ BX σ n B ∧ BM τ n B) ∧ (1 ≤ C ∧ Tab C C pt σ τ ∧ Thr C 5 σ τ) ∧ (1 ≤ M ∧ M ≤ 64 ∧ σ 4 0 = nI M ∧ τ 0 15 = nI M ∧ Mths C B M pm σ τ ∧ pt C ≤ pm 0 ∧ pm M ≤ n) ∧ (∀ q, q < n → (bitX σ q ↔ τ 3 q ≠ 0)) ∧ σ 5 0 = τ 0 26 ∧ σ 4 1 = τ 0 27 ∧ (∃ f, f < M ∧ τ 0 27 = nI f)
theorem parse_both {n : Nat} {B : Nat → Nat} {σ τ : St} (hS : Sy n B 0 σ τ) (h3 : ∀ q, q < n → τ 3 q = 0) (h26 : τ 0 26 = 0) :
    ∃ σ1 σ2 σ3 : St, F_X0_read σ = some σ1 ∧ F_X3_read σ1 = some σ2 ∧ F_X5_close σ2 = some σ3 ∧
      ((∃ (τ' : St) (C M : Nat) (pt pm : Nat → Nat), F_X8_readAll τ = some (1, τ') ∧ Img n B C M pt pm σ3 τ' ∧ σ3 2 3 = 0 ∧ τ' 0 6 = -1 ∧ σ3 1 1 = 0 ∧ τ' 0 1 = 0) ∨
      (∃ (q : Nat) (τ' : St), F_X8_readAll τ = some (0, τ') ∧ Sp n B q σ3 ∧ Wr q τ')) := by
  have hfu : fu = 9000 := rfl
  obtain ⟨σ1, e1, fr1, hcase⟩ := part1 hS
  rcases hcase with ⟨τ1, C, p1, pt, f1, md, m0, hC1, hS1, hT, hpt, hTh⟩ | ⟨q, τ1, f1, hSp, hW⟩
  · have hC := hT.2.2.1
    have hS2 : Sy n B p1 (clr σ1) τ1 := hS1.cong (clr_row (by decide)) (clr_row (by decide)) (clr_row (by decide)) (fun _ _ => rfl) rfl
    have r3 : τ1 3 = τ 3 := md 3 (by decide) (by decide)
    have hn := hS.1.1
    rw [f1, F_X8_readAll_48, if_pos (show (5 : Int32) ≤ nI 5 from nI_le (Nat.le_refl 5) (by omega))]
    rcases read_both hS2 1 64 with ⟨hp, hb, g1, g2, q1, q2⟩ | ⟨-, q1, q2⟩
    · have hM : B p1 ≤ 64 := (nI_leI (b := 64) (by omega) (by omega)).mp g2
      have hM1 : 1 ≤ B p1 := by
        rcases Nat.lt_or_ge (B p1) 1 with z | z
        · exact absurd (nI_lt (b := 1) z (by omega)) g1
        · exact z
      have hS3 := hS2.step hp
      rw [q2, b2_some, if_neg (show ¬ (1 : Int32) = 0 by decide), last_M hS3, b1_some, nm_eq]
      have hS4 := (hS3.putX (c := 4) (k := 0) (v := nI (B p1)) (by decide)).putM (c := 0) (k := 15) (v := nI (B p1)) (by decide)
      generalize hσ4 : st (st (clr σ1) 2 2 (nI (p1 + 1))) 4 0 (nI (B p1)) = σ4
      generalize hτ4 : st (st τ1 0 5 (nI (p1 + 1))) 0 15 (nI (B p1)) = τ4
      rw [hσ4, hτ4] at hS4
      have x4 : ∀ d, d ≠ 2 → d ≠ 4 → d ≠ 5 → d ≠ 24 → σ4 d = σ1 d := fun d a b c e => by rw [← hσ4, st_row b, st_row a, clr_row ⟨b, c, e⟩]
      have y4 : ∀ d, d ≠ 0 → τ4 d = τ1 d := fun d a => by rw [← hτ4, st_row a, st_row a]
      have y0 : ∀ k, k ≠ 5 → k ≠ 15 → τ4 0 k = τ1 0 k := fun k a b => by rw [← hτ4, st_mis (Or.inr b), st_mis (Or.inr a)]
      have hT4 : Tab C C pt σ4 τ4 := hT.cong (x4 3 (by decide) (by decide) (by decide) (by decide)) (x4 9 (by decide) (by decide) (by decide) (by decide)) (x4 10 (by decide) (by decide) (by decide) (by decide)) (x4 11 (by decide) (by decide) (by decide) (by decide)) (x4 12 (by decide) (by decide) (by decide) (by decide)) (x4 13 (by decide) (by decide) (by decide) (by decide)) (y0 8 (by decide) (by decide)) (y4 4 (by decide)) (y4 5 (by decide)) (y4 6 (by decide)) (y4 7 (by decide)) (y4 8 (by decide))
      have hB4 : Begs n (p1 + 1) σ4 τ4 := by
        refine ⟨fun q hq => ?_, fun q _ hq => by rw [y4 3 (by decide), r3]; exact h3 q hq⟩
        have hb : ¬ bitX σ4 q := by
          unfold bitX
          rw [← hσ4, st_row (by decide), st_row (by decide)]
          exact clr_bit (σ := σ1) (by omega)
        rw [y4 3 (by decide), r3, h3 q hq]
        exact ⟨fun z => absurd z hb, fun z => absurd rfl z⟩
      have h50 : σ4 5 0 = 0 := by
        rw [← hσ4, st_row (by decide), st_row (by decide)]
        unfold clr
        rw [fill_row (by decide), st_hit]
      have h5 : σ4 5 0 = τ4 0 26 := by rw [h50, y0 26 (by decide) (by decide), m0 26 (by decide) (by decide) (by decide), h26]
      obtain ⟨σ5, s1, fr5, hc5⟩ := methods_both (M := B p1) hM (B p1) 0 (p1 + 1) fu fu (fun _ => p1 + 1) σ4 τ4 (by omega) (by omega) (by omega) rfl hS4 hT4 hB4 ⟨fun d hd => by omega, fun d hd => by omega⟩ (by rw [← hσ4, st_hit]) (by rw [← hτ4, st_hit]) h5
      have s1' : F_X3_read_21 fu 0 σ4 = _ := s1
      have eX : F_X3_read σ1 = F_X3_read_81 σ5 := by
        unfold F_X3_read
        rw [clear_X, b1_some, q1, b2_some, nm_eq, if_neg (nI_pos (a_lt hb)), hσ4, s1']
      rcases hc5 with ⟨τ5, p5, pm, s2, hp5, hpm, hpd, hS5, hB5, hMs, kd, k0, h55⟩ | ⟨q, τ5, s2, hSp, hW⟩
      · have s2' : F_X8_readAll_100 fu 0 τ4 = _ := s2
        have h45 : σ5 4 0 = nI (B p1) := by rw [fr5 4 (by decide) (by decide), ← hσ4, st_hit]
        have h155 : τ5 0 15 = nI (B p1) := by rw [k0 15 (by decide) (by decide) (by decide), ← hτ4, st_hit]
        obtain ⟨σ6, σ7, u1, u2, hc6⟩ := first_both hM hS5 hMs h45 h155
        refine ⟨σ1, σ6, σ7, e1, by rw [eX, u1], u2, ?_⟩
        rw [s2']
        rcases hc6 with ⟨u3, hpn, hlt, hσ7⟩ | hbad
        · refine Or.inl ⟨_, C, B p1, pt, pm, u3, ?_, ?_, ?_, ?_, ?_⟩
          · have z : ∀ d, d ≠ 2 → d ≠ 4 → σ7 d = σ5 d := fun d a b => by rw [hσ7, st_row b, st_row a]
            have w : ∀ d, d ≠ 0 → (st (st τ5 0 27 (nI (B p5))) 0 5 (nI (p5 + 1))) d = τ5 d := fun d a => by rw [st_row a, st_row a]
            have w0 : ∀ k, k ≠ 5 → k ≠ 27 → (st (st τ5 0 27 (nI (B p5))) 0 5 (nI (p5 + 1))) 0 k = τ5 0 k := fun k a b => by rw [st_mis (Or.inr a), st_mis (Or.inr b)]
            have hT7 : Tab C C pt σ7 (st (st τ5 0 27 (nI (B p5))) 0 5 (nI (p5 + 1))) := by
              refine hT4.cong ?_ ?_ ?_ ?_ ?_ ?_ ?_ ?_ ?_ ?_ ?_ ?_
              · rw [z 3 (by decide) (by decide), fr5 3 (by decide) (by decide)]
              · rw [z 9 (by decide) (by decide), fr5 9 (by decide) (by decide)]
              · rw [z 10 (by decide) (by decide), fr5 10 (by decide) (by decide)]
              · rw [z 11 (by decide) (by decide), fr5 11 (by decide) (by decide)]
              · rw [z 12 (by decide) (by decide), fr5 12 (by decide) (by decide)]
              · rw [z 13 (by decide) (by decide), fr5 13 (by decide) (by decide)]
              · rw [w0 8 (by decide) (by decide), k0 8 (by decide) (by decide) (by decide)]
              · rw [w 4 (by decide), kd 4 (by decide) (by decide)]
              · rw [w 5 (by decide), kd 5 (by decide) (by decide)]
              · rw [w 6 (by decide), kd 6 (by decide) (by decide)]
              · rw [w 7 (by decide), kd 7 (by decide) (by decide)]
              · rw [w 8 (by decide), kd 8 (by decide) (by decide)]
            refine ⟨⟨hn, ?_, ?_, ?_, ?_⟩, ⟨hC1, hT7, ?_⟩, ⟨hM1, hM, ?_, ?_, ⟨hMs.1, fun d hd => ?_⟩, ?_, ?_⟩, ?_, ?_, ?_, ?_⟩
            · rw [hσ7, st_mis (Or.inl (by decide)), st_mis (Or.inr (by decide))]; exact hS5.2.1.1
            · rw [w0 4 (by decide) (by decide)]; exact hS5.2.2.1
            · intro k hk; rw [z 8 (by decide) (by decide)]; exact hS5.2.1.2.2.2.1 k hk
            · intro k hk; rw [w 2 (by decide)]; exact hS5.2.2.2.2.2.1 k hk
            · intro j hj
              rw [z 14 (by decide) (by decide), fr5 14 (by decide) (by decide), x4 14 (by decide) (by decide) (by decide) (by decide), w 9 (by decide), kd 9 (by decide) (by decide), y4 9 (by decide)]
              exact hTh j hj
            · rw [hσ7, st_mis (Or.inr (by decide)), st_row (by decide)]; exact h45
            · rw [w0 15 (by decide) (by decide)]; exact h155
            · refine (hMs.2 d hd).keep (m := d + 1) (by omega) (fun r a1 a2 a3 a4 a5 => ?_) (fun i _ => by rw [z 17 (by decide) (by decide)]) (fun r a1 a2 a3 => by rw [w r a1]) (fun i _ => by rw [w 12 (by decide)]) (fun q _ => by rw [w 3 (by decide)])
              rw [z r a1 a5]
            · rw [hpd 0 (by omega)]; omega
            · rw [hpm]; omega
            · intro q hq
              rw [w 3 (by decide), ← hB5.1 q hq]
              unfold bitX
              rw [z 24 (by decide) (by decide)]
            · rw [z 5 (by decide) (by decide), w0 26 (by decide) (by decide)]; exact h55
            · rw [hσ7, st_hit, st_mis (Or.inr (by decide)), st_hit]
            · exact ⟨B p5, hlt, by rw [st_mis (Or.inr (by decide)), st_hit]⟩
          · rw [hσ7, st_mis (Or.inl (by decide)), st_mis (Or.inr (by decide))]; exact hS5.2.1.2.2.1
          · rw [st_mis (Or.inr (by decide)), st_mis (Or.inr (by decide))]; exact hS5.2.2.2.2.1
          · rw [hσ7, st_row (by decide), st_row (by decide)]; exact hS5.2.1.2.2.2.2
          · rw [st_mis (Or.inr (by decide)), st_mis (Or.inr (by decide))]; exact hS5.2.2.2.2.2.2
        · exact Or.inr hbad
      · have s2' : F_X8_readAll_100 fu 0 τ4 = _ := s2
        rw [s2']
        exact ⟨σ1, σ5, σ5, e1, by rw [eX, first_stop hSp], close_stop hSp, Or.inr ⟨q, τ5, rfl, hSp, hW⟩⟩
    · rw [q2, b2_some, if_pos rfl]
      have hSp := hS2.stop.put (c := 4) (k := 0) (v := 0) (by decide)
      have eX : F_X3_read σ1 = some (st (st (clr σ1) 2 3 1) 4 0 0) := by
        unfold F_X3_read
        rw [clear_X, b1_some, q1, b2_some, nm_eq, if_pos (by decide), show fu = 8999 + 1 from rfl, F_X3_read_21, st_hit, if_pos (by decide), first_stop hSp]
      exact ⟨σ1, _, _, e1, eX, close_stop hSp, Or.inr ⟨p1, _, rfl, hSp, hS2.wrong p1⟩⟩
  · have hSp2 : Sp n B q (clr σ1) := hSp.cong (clr_row (by decide)) (clr_row (by decide)) (clr_row (by decide))
    have hSp3 := hSp2.put (c := 4) (k := 0) (v := 0) (by decide)
    have eX : F_X3_read σ1 = some (st (clr σ1) 4 0 0) := by
      unfold F_X3_read
      rw [clear_X, b1_some, stopped_number hSp2, b2_some, nm_eq, if_pos (by decide), show fu = 8999 + 1 from rfl, F_X3_read_21, st_hit, if_pos (by decide), first_stop hSp3]
    exact ⟨σ1, _, _, e1, eX, close_stop hSp3, Or.inr ⟨q, τ1, f1, hSp3, hW⟩⟩
