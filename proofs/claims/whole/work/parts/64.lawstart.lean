theorem law_K {s : State} {b : Nat} (hts : ∀ w ∈ lw_tbl, w.before #[Value.ref b] s = true) : ∃ (D : va_G) (cI cZ : ClassId), va_K D vwCl [(cI, .int), (cZ, .boolean)] s := by
  obtain ⟨c0, i0, k0⟩ := u_known (C := RX0) (T := TX0) (N := 7) (n := 7) hts inX0 (hts (.instantiable RX0 7) (by decide +kernel))
  obtain ⟨c1, i1, k1⟩ := u_known (C := RX1) (T := TX1) (N := 5) (n := 5) hts inX1 (hts (.instantiable RX1 5) (by decide +kernel))
  obtain ⟨c2, i2, k2⟩ := u_known (C := RX2) (T := TX2) (N := 2) (n := 2) hts inX2 (hts (.instantiable RX2 2) (by decide +kernel))
  obtain ⟨c3, i3, k3⟩ := u_known (C := RX3) (T := TX3) (N := 10) (n := 10) hts inX3 (hts (.instantiable RX3 10) (by decide +kernel))
  obtain ⟨c4, i4, k4⟩ := u_known (C := RX5) (T := TX5) (N := 4) (n := 4) hts inX5 (hts (.instantiable RX5 4) (by decide +kernel))
  obtain ⟨c5, i5, k5⟩ := u_known (C := RX6) (T := TX6) (N := 2) (n := 2) hts inX6 (hts (.instantiable RX6 2) (by decide +kernel))
  obtain ⟨c6, i6, k6⟩ := u_known (C := RX7) (T := TX7) (N := 4) (n := 4) hts inX7 (hts (.instantiable RX7 4) (by decide +kernel))
  obtain ⟨c7, i7, k7⟩ := u_known (C := RX8) (T := TX8) (N := 28) (n := 28) hts inX8 (hts (.instantiable RX8 28) (by decide +kernel))
  obtain ⟨cI, kI, compI, hI1, hI2, hI3⟩ := Cond.arrayClass_spec (hts (.arrayClass .int) (by decide +kernel))
  obtain ⟨cZ, kZ, compZ, hZ1, hZ2, hZ3⟩ := Cond.arrayClass_spec (hts (.arrayClass .boolean) (by decide +kernel))
  refine ⟨(fun k => if k = 0 then c0 else if k = 1 then c1 else if k = 2 then c2 else if k = 3 then c3 else if k = 4 then c4 else if k = 5 then c5 else if k = 6 then c6 else c7, fun k => if k = 0 then i0 else if k = 1 then i1 else if k = 2 then i2 else if k = 3 then i3 else if k = 4 then i4 else if k = 5 then i5 else if k = 6 then i6 else i7), cI, cZ, ?_, ?_⟩
  · intro k q hq
    match k, hq with
    | 0, hq => cases hq; exact k0
    | 1, hq => cases hq; exact k1
    | 2, hq => cases hq; exact k2
    | 3, hq => cases hq; exact k3
    | 4, hq => cases hq; exact k4
    | 5, hq => cases hq; exact k5
    | 6, hq => cases hq; exact k6
    | 7, hq => cases hq; exact k7
    | k + 8, hq => simp [vwCl] at hq
  · intro k q hq
    match k, hq with
    | 0, hq => cases hq; exact ⟨fun n z => ⟨fun k h => (by cases h), kI, hI2, compI, hI3⟩, hI1⟩
    | 1, hq => cases hq; exact ⟨fun n z => ⟨fun k h => (by cases h), kZ, hZ2, compZ, hZ3⟩, hZ1⟩
    | k + 2, hq => simp at hq
theorem ztF : ∀ j, j < 42 → Cond.eq (.elem (.static RX4 "FIRSTS" "[I") (.int (Int32.ofNat j))) (.int (tF j)) ∈ flatC (Jvm.Cond.and given_1 narrow_1) := by decide +kernel
theorem law_tF {s : State} {b : Nat} (hts : ∀ w ∈ lw_tbl, w.before #[Value.ref b] s = true) (hgv : (Jvm.Cond.and given_1 narrow_1).before #[Value.ref b] s = true) : ∃ t : Nat, Z1 "FIRSTS" t 42 tF s.heap.size s := by
  have hg := flat_of_before _ hgv
  obtain ⟨t, ht, hT⟩ := va_Tof (tm := .static RX4 "FIRSTS" "[I") (ty := .int) (N := 42) (f := fun j => .int (tF j)) (A := fun q : Nat => s.heap.size ≤ q) (by decide) (hg (.arrayOf (.static RX4 "FIRSTS" "[I") .int) (by decide +kernel)) (va_eqt (z := 42) (hg (.eq (.length (.static RX4 "FIRSTS" "[I")) (.int 42)) (by decide +kernel))) (fun j hj => va_eqt (hg _ (ztF j hj))) (fun a h => Nat.not_le.mpr h)
  have hz := va_Zof (C := RX4) (n := "FIRSTS") (d := "[I") (A := fun q : Nat => s.heap.size ≤ q) (hts (.laysStatic RX4 "FIRSTS" "[I") (by decide +kernel)) (hts (.initialized RX4) (by decide +kernel)) ht (fun a h => Nat.not_le.mpr h)
  have hlt : t < s.heap.size := (Array.getElem?_eq_some_iff.mp hT.choose_spec.1).1
  exact ⟨t, hz, hT, hlt⟩
theorem ztS : ∀ j, j < 42 → Cond.eq (.elem (.static RX4 "SECONDS" "[I") (.int (Int32.ofNat j))) (.int (tS j)) ∈ flatC (Jvm.Cond.and given_1 narrow_1) := by decide +kernel
theorem law_tS {s : State} {b : Nat} (hts : ∀ w ∈ lw_tbl, w.before #[Value.ref b] s = true) (hgv : (Jvm.Cond.and given_1 narrow_1).before #[Value.ref b] s = true) : ∃ t : Nat, Z1 "SECONDS" t 42 tS s.heap.size s := by
  have hg := flat_of_before _ hgv
  obtain ⟨t, ht, hT⟩ := va_Tof (tm := .static RX4 "SECONDS" "[I") (ty := .int) (N := 42) (f := fun j => .int (tS j)) (A := fun q : Nat => s.heap.size ≤ q) (by decide) (hg (.arrayOf (.static RX4 "SECONDS" "[I") .int) (by decide +kernel)) (va_eqt (z := 42) (hg (.eq (.length (.static RX4 "SECONDS" "[I")) (.int 42)) (by decide +kernel))) (fun j hj => va_eqt (hg _ (ztS j hj))) (fun a h => Nat.not_le.mpr h)
  have hz := va_Zof (C := RX4) (n := "SECONDS") (d := "[I") (A := fun q : Nat => s.heap.size ≤ q) (hts (.laysStatic RX4 "SECONDS" "[I") (by decide +kernel)) (hts (.initialized RX4) (by decide +kernel)) ht (fun a h => Nat.not_le.mpr h)
  have hlt : t < s.heap.size := (Array.getElem?_eq_some_iff.mp hT.choose_spec.1).1
  exact ⟨t, hz, hT, hlt⟩
theorem ztW : ∀ j, j < 10 → Cond.eq (.elem (.static RX4 "WIDTHS" "[I") (.int (Int32.ofNat j))) (.int (tW j)) ∈ flatC (Jvm.Cond.and given_1 narrow_1) := by decide +kernel
theorem law_tW {s : State} {b : Nat} (hts : ∀ w ∈ lw_tbl, w.before #[Value.ref b] s = true) (hgv : (Jvm.Cond.and given_1 narrow_1).before #[Value.ref b] s = true) : ∃ t : Nat, Z1 "WIDTHS" t 10 tW s.heap.size s := by
  have hg := flat_of_before _ hgv
  obtain ⟨t, ht, hT⟩ := va_Tof (tm := .static RX4 "WIDTHS" "[I") (ty := .int) (N := 10) (f := fun j => .int (tW j)) (A := fun q : Nat => s.heap.size ≤ q) (by decide) (hg (.arrayOf (.static RX4 "WIDTHS" "[I") .int) (by decide +kernel)) (va_eqt (z := 10) (hg (.eq (.length (.static RX4 "WIDTHS" "[I")) (.int 10)) (by decide +kernel))) (fun j hj => va_eqt (hg _ (ztW j hj))) (fun a h => Nat.not_le.mpr h)
  have hz := va_Zof (C := RX4) (n := "WIDTHS") (d := "[I") (A := fun q : Nat => s.heap.size ≤ q) (hts (.laysStatic RX4 "WIDTHS" "[I") (by decide +kernel)) (hts (.initialized RX4) (by decide +kernel)) ht (fun a h => Nat.not_le.mpr h)
  have hlt : t < s.heap.size := (Array.getElem?_eq_some_iff.mp hT.choose_spec.1).1
  exact ⟨t, hz, hT, hlt⟩
theorem law_Z {s : State} {b : Nat} (hts : ∀ w ∈ lw_tbl, w.before #[Value.ref b] s = true) (hgv : (Jvm.Cond.and given_1 narrow_1).before #[Value.ref b] s = true) : ∃ z : Nat → Nat, ZZ z s.heap.size s := by
  obtain ⟨t0, h0⟩ := law_tF hts hgv
  obtain ⟨t1, h1⟩ := law_tS hts hgv
  obtain ⟨t2, h2⟩ := law_tW hts hgv
  exact ⟨mkA [t0, t1, t2], h0, h1, h2⟩
theorem law_N {s : State} {b : Nat} (hts : ∀ w ∈ lw_tbl, w.before #[Value.ref b] s = true) : NX s :=
  ⟨⟨va_Nw.of rfl (hts (.methodLinkNest RX7 9 yX6_init RX7) (by decide +kernel)), va_Nw.of rfl (hts (.methodLinkNest RX7 18 yX5_init RX7) (by decide +kernel)), va_Nw.of rfl (hts (.methodLinkNest RX7 25 yX0_init RX7) (by decide +kernel)), va_Nw.of rfl (hts (.methodLinkNest RX7 32 yX3_init RX7) (by decide +kernel))⟩, va_Nw.of rfl (hts (.methodLinkNest RX3 36 yX1_init RX7) (by decide +kernel)), va_Nw.of rfl (hts (.methodLinkNest RX3 43 yX2_init RX7) (by decide +kernel))⟩
set_option maxHeartbeats 8000000 in
set_option maxRecDepth 100000 in
theorem law_start {Rel : St → St → Prop} (hAg : Ag Rel) (hR0 : Rel X0 M0) {p : Program} {e : Env} {s : State} {m : MethodId} {below : List Frame} {meth : Method} {c : Code} (l : Launch) {b L : Nat} {xs : Nat → Int32} (hL : L ≤ 3072) (C0 : lw_At p s m meth c b L xs) : W p l e room_1 s m #[Value.ref b] below meth c s.heap [] 0 0 (lw_Z below #[Value.ref b] s) (entryFrame m ([Value.ref b] : List Value).toArray 4) := by
  obtain ⟨hx, hb, hr, hml, hown, hts, hX, hbl, hlocks, hgv⟩ := id C0
  obtain ⟨D, cI, cZ, hK⟩ := law_K hts
  obtain ⟨z, hZ⟩ := law_Z hts hgv
  have hN : NX s := law_N hts
  have C : Cx p s m #[Value.ref b] c D [(cI, .int), (cZ, .boolean)] (fun q : Nat => s.heap.size ≤ q) z s.heap.size RL wsL_law cL_law 4 := ⟨⟨hx, hb, hml, hown, fun w h => hts w (wsL_law_in w h)⟩, hK, fun _ h => h, fun _ h => h, Nat.le_refl _, hZ⟩
  have hw : Wd D (fun q : Nat => s.heap.size ≤ q) s.heap s.heap [] [] := ⟨fun k q h => by simp at h, ⟨fun i j p q h => by simp at h, fun k q h => by simp at h⟩, va_S.rf⟩
  have hl := lv_entry ([.ref b]) (n := 4) (Nat.le_of_ble_eq_true rfl)
  rw [lg_entry_eq]
  generalize (lg_sl ([.ref b]) ++ List.replicate (4 - (lg_sl ([.ref b])).length) Slot.unset).toArray = ls at hl ⊢
  have hl : lv_has ls 4 [(0, .ref b)] := hl
  refine r_new C hw inlX7 tyX7 tyX7_ok (by decide +kernel) (by decide +kernel) (by decide +kernel) (ci := 6) rfl (fs := [.null, .null, .null, .null]) (fun j hj => by rcases (show j = 0 ∨ j = 1 ∨ j = 2 ∨ j = 3 by omega) with rfl | rfl | rfl | rfl <;> rfl) (by decide) (by decide) dL_law_0 (fun q0 H hw => ?_)
  refine W.widen (k := 1) (n := 4) (by decide) (by decide) ?_
  refine lv_dup hx hb dL_law_3 rfl ?_
  refine r_callI (wr := []) (wc := [(q0, .inr (6, [.null, .null, .null, .null]))]) C hN hw (c_X7_init l D cI cZ z s.heap.size q0) (cwI 0 C.1.2.2.2.2 gL_law_X7_init rfl rfl rfl (hts (.initialized RX7) (by decide +kernel)) (hts (.methodLink RL 9 yX7_init) (by decide +kernel)) (hts (.instanceMethod yX7_init) (by decide +kernel)) rfl (by decide +kernel) ⟨Nat.le_of_ble_eq_true rfl, Nat.le_of_ble_eq_true rfl⟩) hl.1 (Nat.le_of_ble_eq_true rfl) dL_law_4 ⟨by decide, by decide⟩ (fun ax H locs hax hw => ?_)
  have hw : Wd D (fun q : Nat => s.heap.size ≤ q) s.heap H locs (XW cI cZ ax X0) := hw
  refine W.widen (k := 27) (n := 7009) (by decide) (by decide) ?_
  refine lv_astore_n (lv' := [(1, .ref q0), (0, .ref b)]) hx hb dL_law_7 rfl hl (by decide) rfl (fun ls hl => ?_)
  refine r_new C hw inlX8 tyX8 tyX8_ok (by decide +kernel) (by decide +kernel) (by decide +kernel) (ci := 7) rfl (fs := [.null, .int 0, .null, .null, .int 0, .int 0, .int 0, .int 0, .int 0, .null, .null, .null, .null, .null, .null, .int 0, .null, .null, .null, .null, .null, .null, .null, .null, .null, .null, .int 0, .int 0]) (fun j hj => by rcases (show j = 0 ∨ j = 1 ∨ j = 2 ∨ j = 3 ∨ j = 4 ∨ j = 5 ∨ j = 6 ∨ j = 7 ∨ j = 8 ∨ j = 9 ∨ j = 10 ∨ j = 11 ∨ j = 12 ∨ j = 13 ∨ j = 14 ∨ j = 15 ∨ j = 16 ∨ j = 17 ∨ j = 18 ∨ j = 19 ∨ j = 20 ∨ j = 21 ∨ j = 22 ∨ j = 23 ∨ j = 24 ∨ j = 25 ∨ j = 26 ∨ j = 27 by omega) with rfl | rfl | rfl | rfl | rfl | rfl | rfl | rfl | rfl | rfl | rfl | rfl | rfl | rfl | rfl | rfl | rfl | rfl | rfl | rfl | rfl | rfl | rfl | rfl | rfl | rfl | rfl | rfl <;> rfl) (by decide) (by decide) dL_law_8 (fun q1 H hw => ?_)
  refine W.widen (k := 28) (n := 7037) (by decide) (by decide) ?_
  refine lv_dup hx hb dL_law_11 rfl ?_
  refine r_callI (wr := XW cI cZ ax X0) (wc := [(q1, .inr (7, [.null, .int 0, .null, .null, .int 0, .int 0, .int 0, .int 0, .int 0, .null, .null, .null, .null, .null, .null, .int 0, .null, .null, .null, .null, .null, .null, .null, .null, .null, .null, .int 0, .int 0]))]) C hN hw (c_X8_init l D cI cZ z s.heap.size q1) (cwI 0 C.1.2.2.2.2 gL_law_X8_init rfl rfl rfl (hts (.initialized RX8) (by decide +kernel)) (hts (.methodLink RL 12 yX8_init) (by decide +kernel)) (hts (.instanceMethod yX8_init) (by decide +kernel)) rfl (by decide +kernel) ⟨Nat.le_of_ble_eq_true rfl, Nat.le_of_ble_eq_true rfl⟩) hl.1 (Nat.le_of_ble_eq_true rfl) dL_law_12 ⟨by decide, by decide⟩ (fun am H locs ham hw => ?_)
  have hw := hw.comm
  refine W.widen (k := 47) (n := 33698) (by decide) (by decide) ?_
  refine lv_astore_n (lv' := [(2, .ref q1), (1, .ref q0), (0, .ref b)]) hx hb dL_law_15 rfl hl (by decide) rfl (fun ls hl => ?_)
  refine lv_iconst (v := 0) hx hb dL_law_16 (by decide) ?_
  refine lv_istore_n (lv' := [(3, .int 0), (2, .ref q1), (1, .ref q0), (0, .ref b)]) hx hb dL_law_17 rfl hl (by decide) rfl (fun ls hl => ?_)
  have hl : lv_has ls 4 [(0, .ref b), (1, .ref (ax 0)), (2, .ref (am 0)), (3, .int 0)] := by rw [hax, ham]; exact lv_sub hl [3, 2, 1, 0] rfl
  exact law_loop hL hAg C hX hbl hr hlocks (L + 7) 0 0 (by omega) (by omega) nI_0.symm ax am X0 M0 _ _ _ hR0 hw hl
