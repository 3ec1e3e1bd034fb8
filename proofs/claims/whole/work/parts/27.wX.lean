abbrev rmX3_misfit : Room := { frames := 4, cells := 0, slots := 0, locals := 94 }
theorem hiX3_misfit_X3 : ∀ w ∈ wsX30, w ∈ wsX3_misfit := by decide +kernel
set_option maxHeartbeats 4000000 in
set_option maxRecDepth 100000 in
theorem c_X3_misfit (l : Launch) (D : va_G) (cI cZ : ClassId) (z : Nat → Nat) (base : Nat) (a : Nat → Nat) (u0 : St) (ro : Int32) (h : F_X3_misfit u0 = some ro) : MI l D [(cI, .int), (cZ, .boolean)] z base yX3_misfit wsX3_misfit rmX3_misfit [.ref (a 4), .ref (a 2), .ref (a 3)] (XW cI cZ a u0) ro (XW cI cZ a u0) := by
  refine MI.ofI (own := RX3) (cc := cX3_misfit) (maxL := 6) (by decide) rfl rfl (Nat.le_of_ble_eq_true rfl) ?_
  intro p e s m args below meth c A Q ls C hl hw hQ
  have hx := C.1.1
  have hb := C.1.2.1
  have J35 : ∀ n35 : Nat, ∀ (x3 : Int32) (H : Heap) (locs : List Loc) (ls : Array Slot), F_X3_misfit_35 n35 x3 u0 = some ro → Wd D A s.heap H locs (XW cI cZ a u0) → lv_has ls 6 [(0, .ref (a 4)), (1, .ref (a 2)), (3, .int x3)] → W p l e rmX3_misfit s m args below meth c H locs 0 0 Q (F0 m 35 ls []) := by
    intro n35
    induction n35 with
    | zero => intro x3 H locs ls h; rw [F_X3_misfit_35] at h; cases h
    | succ n35 ih35 =>
      have J82 : ∀ (x3 t0 : Int32) (H : Heap) (locs : List Loc) (ls : Array Slot), F_X3_misfit_82 (F_X3_misfit_35 n35) x3 t0 u0 = some ro → Wd D A s.heap H locs (XW cI cZ a u0) → lv_has ls 6 [(0, .ref (a 4)), (1, .ref (a 2)), (3, .int x3)] → W p l e rmX3_misfit s m args below meth c H locs 0 0 Q (F0 m 82 ls [.int t0]) := by
        intro x3 t0 H locs ls h hw hl
        rw [F_X3_misfit_82] at h
        refine lv_istore (lv' := [(5, .int t0), (0, .ref (a 4)), (1, .ref (a 2)), (3, .int x3)]) hx hb dX3_misfit_82 hl (by decide) rfl (fun ls hl => ?_)
        refine lv_iload hx hb dX3_misfit_84 (lv_at hl 0 rfl) ?_
        refine lv_iconst (v := (-1)) hx hb dX3_misfit_86 (by decide) ?_
        refine lv_icmp_eq (tgt := 93) hx hb dX3_misfit_87 (by decide) (fun c1 => ?_) (fun c1 => ?_)
        · have h := itT c1 h
          obtain ⟨v2, ev2⟩ : ∃ y : Int32, y = x3 + 1 := ⟨_, rfl⟩
          have h := nmE ev2 h
          refine lv_iinc (v := v2) (lv' := [(3, .int v2), (5, .int t0), (0, .ref (a 4)), (1, .ref (a 2))]) hx hb dX3_misfit_93 hl (k := 3) rfl (by rw [ev2]; rfl) (by decide) rfl (fun ls hl => ?_)
          refine lv_goto (tgt := 35) hx hb dX3_misfit_96 (by decide) ?_
          exact ih35 v2 _ _ _ h hw (lv_sub hl [2, 3, 0] rfl)
        · have h := itF c1 h
          refine lv_iload hx hb dX3_misfit_90 (lv_at hl 0 rfl) ?_
          exact r_iretP hQ h hw dX3_misfit_92
      intro x3 H locs ls h hw hl
      rw [F_X3_misfit_35] at h
      refine lv_iload_n hx hb dX3_misfit_35 rfl (lv_at hl 2 rfl) ?_
      refine lv_aload_n hx hb dX3_misfit_36 rfl (lv_at hl 0 rfl) ?_
      refine r_get C hw hiX3_misfit_X3 4 (XWa_4 cI cZ a u0) rfl 0 (by decide) (by decide +kernel) rfl dX3_misfit_37 ?_
      refine lv_icmp_ge (tgt := 99) hx hb dX3_misfit_40 (by decide) (fun c1 => ?_) (fun c1 => ?_)
      · have h := itT c1 h
        refine lv_iconst (v := (-1)) hx hb dX3_misfit_99 (by decide) ?_
        exact r_iretP hQ h hw dX3_misfit_100
      · have h := itF c1 h
        refine lv_aload_n hx hb dX3_misfit_43 rfl (lv_at hl 0 rfl) ?_
        refine r_get C hw hiX3_misfit_X3 4 (XWa_4 cI cZ a u0) rfl 8 (by decide) (by decide +kernel) rfl dX3_misfit_44 ?_
        refine lv_aload_n hx hb dX3_misfit_47 rfl (lv_at hl 1 rfl) ?_
        refine lv_iload_n hx hb dX3_misfit_48 rfl (lv_at hl 2 rfl) ?_
        refine lv_aload_n hx hb dX3_misfit_49 rfl (lv_at hl 0 rfl) ?_
        refine r_get C hw hiX3_misfit_X3 4 (XWa_4 cI cZ a u0) rfl 0 (by decide) (by decide +kernel) rfl dX3_misfit_50 ?_
        obtain ⟨r3, h2, h⟩ := b1E h
        refine r_callV (rest := []) C hw (c_X1_misfit l D cI cZ z base a x3 (u0 4 0) u0 r3 h2) (cwV 3 C.1.2.2.2.2 gX3_misfit_X1_misfit rfl rfl rfl (by decide +kernel) ⟨Nat.le_of_ble_eq_true rfl, Nat.le_of_ble_eq_true rfl⟩) (va_recv C.2.1 hw.1 (ci := 1) (q0 := 5) rfl (XWa_5 cI cZ a u0)) rfl hl.1 rfl (Nat.le_of_ble_eq_true rfl) dX3_misfit_53 ⟨Nat.zero_le _, Nat.zero_le _⟩ (fun H locs hw => ?_)
        refine lv_istore (lv' := [(4, .int r3), (0, .ref (a 4)), (1, .ref (a 2)), (3, .int x3)]) hx hb dX3_misfit_56 hl (by decide) rfl (fun ls hl => ?_)
        refine lv_iload hx hb dX3_misfit_58 (lv_at hl 0 rfl) ?_
        refine lv_iconst (v := (-1)) hx hb dX3_misfit_60 (by decide) ?_
        refine lv_icmp_eq (tgt := 69) hx hb dX3_misfit_61 (by decide) (fun c4 => ?_) (fun c4 => ?_)
        · have h := itT c4 h
          refine lv_aload_n hx hb dX3_misfit_69 rfl (lv_at hl 1 rfl) ?_
          refine r_get C hw hiX3_misfit_X3 4 (XWa_4 cI cZ a u0) rfl 9 (by decide) (by decide +kernel) rfl dX3_misfit_70 ?_
          refine lv_aload_n hx hb dX3_misfit_73 rfl (lv_at hl 2 rfl) ?_
          refine lv_aload_n hx hb dX3_misfit_74 rfl (lv_at hl 1 rfl) ?_
          refine r_get C hw hiX3_misfit_X3 4 (XWa_4 cI cZ a u0) rfl 8 (by decide) (by decide +kernel) rfl dX3_misfit_75 ?_
          refine lv_iload_n hx hb dX3_misfit_78 rfl (lv_at hl 3 rfl) ?_
          obtain ⟨r6, h5, h⟩ := b1E h
          refine r_callV (rest := []) C hw (c_X2_misfit l D cI cZ z base a x3 u0 r6 h5) (cwV 3 C.1.2.2.2.2 gX3_misfit_X2_misfit rfl rfl rfl (by decide +kernel) ⟨Nat.le_of_ble_eq_true rfl, Nat.le_of_ble_eq_true rfl⟩) (va_recv C.2.1 hw.1 (ci := 2) (q0 := 6) rfl (XWa_6 cI cZ a u0)) rfl hl.1 rfl (Nat.le_of_ble_eq_true rfl) dX3_misfit_79 ⟨Nat.zero_le _, Nat.zero_le _⟩ (fun H locs hw => ?_)
          exact J82 x3 r6 _ _ _ h hw (lv_sub hl [1, 2, 3] rfl)
        · have h := itF c4 h
          refine lv_iload hx hb dX3_misfit_64 (lv_at hl 0 rfl) ?_
          refine lv_goto (tgt := 82) hx hb dX3_misfit_66 (by decide) ?_
          exact J82 x3 r3 _ _ _ h hw (lv_sub hl [1, 2, 3] rfl)
  have J2 : ∀ n2 : Nat, ∀ (x3 : Int32) (H : Heap) (locs : List Loc) (ls : Array Slot), F_X3_misfit_2 n2 x3 u0 = some ro → Wd D A s.heap H locs (XW cI cZ a u0) → lv_has ls 6 [(0, .ref (a 4)), (1, .ref (a 2)), (2, .ref (a 3)), (3, .int x3)] → W p l e rmX3_misfit s m args below meth c H locs 0 0 Q (F0 m 2 ls []) := by
    intro n2
    induction n2 with
    | zero => intro x3 H locs ls h; rw [F_X3_misfit_2] at h; cases h
    | succ n2 ih2 =>
      intro x3 H locs ls h hw hl
      rw [F_X3_misfit_2] at h
      refine lv_iload_n hx hb dX3_misfit_2 rfl (lv_at hl 3 rfl) ?_
      refine lv_aload_n hx hb dX3_misfit_3 rfl (lv_at hl 2 rfl) ?_
      obtain ⟨r2, h1, h⟩ := b1E h
      refine r_callV (rest := [.int x3]) C hw (c_X0_size l D cI cZ z base a u0 r2 h1) (cwV 0 C.1.2.2.2.2 gX3_misfit_X0_size rfl rfl rfl (by decide +kernel) ⟨Nat.le_of_ble_eq_true rfl, Nat.le_of_ble_eq_true rfl⟩) (va_recv C.2.1 hw.1 (ci := 0) (q0 := 3) rfl (XWa_3 cI cZ a u0)) rfl hl.1 rfl (Nat.le_of_ble_eq_true rfl) dX3_misfit_4 ⟨Nat.zero_le _, Nat.zero_le _⟩ (fun H locs hw => ?_)
      refine lv_icmp_ge (tgt := 33) hx hb dX3_misfit_7 (by decide) (fun c3 => ?_) (fun c3 => ?_)
      · have h := itT c3 h
        refine lv_iconst (v := 0) hx hb dX3_misfit_33 (by decide) ?_
        refine lv_istore_n (lv' := [(3, .int 0), (0, .ref (a 4)), (1, .ref (a 2)), (2, .ref (a 3))]) hx hb dX3_misfit_34 rfl hl (by decide) rfl (fun ls hl => ?_)
        exact J35 fu 0 _ _ _ h hw (lv_sub hl [1, 2, 0] rfl)
      · have h := itF c3 h
        refine lv_aload_n hx hb dX3_misfit_10 rfl (lv_at hl 0 rfl) ?_
        refine lv_aload_n hx hb dX3_misfit_11 rfl (lv_at hl 2 rfl) ?_
        refine lv_iload_n hx hb dX3_misfit_12 rfl (lv_at hl 3 rfl) ?_
        obtain ⟨r5, h4, h⟩ := b1E h
        refine r_callV (rest := []) C hw (c_X3_misfitSlot l D cI cZ z base a x3 u0 r5 h4) (cwV 2 C.1.2.2.2.2 gX3_misfit_X3_misfitSlot rfl rfl rfl (by decide +kernel) ⟨Nat.le_of_ble_eq_true rfl, Nat.le_of_ble_eq_true rfl⟩) (va_recv C.2.1 hw.1 (ci := 3) (q0 := 4) rfl (XWa_4 cI cZ a u0)) rfl hl.1 rfl (Nat.le_of_ble_eq_true rfl) dX3_misfit_13 ⟨Nat.zero_le _, Nat.zero_le _⟩ (fun H locs hw => ?_)
        refine lv_istore (lv' := [(4, .int r5), (0, .ref (a 4)), (1, .ref (a 2)), (2, .ref (a 3)), (3, .int x3)]) hx hb dX3_misfit_16 hl (by decide) rfl (fun ls hl => ?_)
        refine lv_iload hx hb dX3_misfit_18 (lv_at hl 0 rfl) ?_
        refine lv_iconst (v := (-1)) hx hb dX3_misfit_20 (by decide) ?_
        refine lv_icmp_eq (tgt := 27) hx hb dX3_misfit_21 (by decide) (fun c6 => ?_) (fun c6 => ?_)
        · have h := itT c6 h
          obtain ⟨v7, ev7⟩ : ∃ y : Int32, y = x3 + 1 := ⟨_, rfl⟩
          have h := nmE ev7 h
          refine lv_iinc (v := v7) (lv' := [(3, .int v7), (4, .int r5), (0, .ref (a 4)), (1, .ref (a 2)), (2, .ref (a 3))]) hx hb dX3_misfit_27 hl (k := 4) rfl (by rw [ev7]; rfl) (by decide) rfl (fun ls hl => ?_)
          refine lv_goto (tgt := 2) hx hb dX3_misfit_30 (by decide) ?_
          exact ih2 v7 _ _ _ h hw (lv_sub hl [2, 3, 4, 0] rfl)
        · have h := itF c6 h
          refine lv_iload hx hb dX3_misfit_24 (lv_at hl 0 rfl) ?_
          exact r_iretP hQ h hw dX3_misfit_26
  have hl : lv_has ls 6 [(0, .ref (a 4)), (1, .ref (a 2)), (2, .ref (a 3))] := hl
  rw [F_X3_misfit] at h
  refine lv_iconst (v := 0) hx hb dX3_misfit_0 (by decide) ?_
  refine lv_istore_n (lv' := [(3, .int 0), (0, .ref (a 4)), (1, .ref (a 2)), (2, .ref (a 3))]) hx hb dX3_misfit_1 rfl hl (by decide) rfl (fun ls hl => ?_)
  exact J2 fu 0 _ _ _ h hw (lv_sub hl [1, 2, 3, 0] rfl)
abbrev rmX1_total : Room := { frames := 0, cells := 0, slots := 0, locals := 0 }
theorem hiX1_total_X1 : ∀ w ∈ wsX10, w ∈ wsX1_total := by decide +kernel
set_option maxHeartbeats 4000000 in
set_option maxRecDepth 100000 in
theorem c_X1_total (l : Launch) (D : va_G) (cI cZ : ClassId) (z : Nat → Nat) (base : Nat) (a : Nat → Nat) (u0 : St) (ro : Int32) (h : F_X1_total u0 = some ro) : MI l D [(cI, .int), (cZ, .boolean)] z base yX1_total wsX1_total rmX1_total [.ref (a 5)] (XW cI cZ a u0) ro (XW cI cZ a u0) := by
  refine MI.ofI (own := RX1) (cc := cX1_total) (maxL := 1) (by decide) rfl rfl (Nat.le_of_ble_eq_true rfl) ?_
  intro p e s m args below meth c A Q ls C hl hw hQ
  have hx := C.1.1
  have hb := C.1.2.1
  have hl : lv_has ls 1 [(0, .ref (a 5))] := hl
  rw [F_X1_total] at h
  refine lv_aload_n hx hb dX1_total_0 rfl (lv_at hl 0 rfl) ?_
  refine r_get C hw hiX1_total_X1 5 (XWa_5 cI cZ a u0) rfl 0 (by decide) (by decide +kernel) rfl dX1_total_1 ?_
  exact r_iretP hQ h hw dX1_total_4
abbrev rmX3_instructions : Room := { frames := 1, cells := 0, slots := 0, locals := 20 }
theorem hiX3_instructions_X3 : ∀ w ∈ wsX30, w ∈ wsX3_instructions := by decide +kernel
set_option maxHeartbeats 4000000 in
set_option maxRecDepth 100000 in
theorem c_X3_instructions (l : Launch) (D : va_G) (cI cZ : ClassId) (z : Nat → Nat) (base : Nat) (a : Nat → Nat) (u0 : St) (ro : Int32) (h : F_X3_instructions u0 = some ro) : MI l D [(cI, .int), (cZ, .boolean)] z base yX3_instructions wsX3_instructions rmX3_instructions [.ref (a 4)] (XW cI cZ a u0) ro (XW cI cZ a u0) := by
  refine MI.ofI (own := RX3) (cc := cX3_instructions) (maxL := 1) (by decide) rfl rfl (Nat.le_of_ble_eq_true rfl) ?_
  intro p e s m args below meth c A Q ls C hl hw hQ
  have hx := C.1.1
  have hb := C.1.2.1
  have hl : lv_has ls 1 [(0, .ref (a 4))] := hl
  rw [F_X3_instructions] at h
  refine lv_aload_n hx hb dX3_instructions_0 rfl (lv_at hl 0 rfl) ?_
  refine r_get C hw hiX3_instructions_X3 4 (XWa_4 cI cZ a u0) rfl 8 (by decide) (by decide +kernel) rfl dX3_instructions_1 ?_
  obtain ⟨r2, h1, h⟩ := b1E h
  refine r_callV (rest := []) C hw (c_X1_total l D cI cZ z base a u0 r2 h1) (cwV 0 C.1.2.2.2.2 gX3_instructions_X1_total rfl rfl rfl (by decide +kernel) ⟨Nat.le_of_ble_eq_true rfl, Nat.le_of_ble_eq_true rfl⟩) (va_recv C.2.1 hw.1 (ci := 1) (q0 := 5) rfl (XWa_5 cI cZ a u0)) rfl hl.1 rfl (Nat.le_of_ble_eq_true rfl) dX3_instructions_4 ⟨Nat.zero_le _, Nat.zero_le _⟩ (fun H locs hw => ?_)
  exact r_iretP hQ h hw dX3_instructions_7
abbrev rmX0_clear : Room := { frames := 0, cells := 0, slots := 0, locals := 0 }
theorem hiX0_clear_X0 : ∀ w ∈ wsX00, w ∈ wsX0_clear := by decide +kernel
set_option maxHeartbeats 4000000 in
set_option maxRecDepth 100000 in
theorem c_X0_clear (l : Launch) (D : va_G) (cI cZ : ClassId) (z : Nat → Nat) (base : Nat) (a : Nat → Nat) (u0 : St) (uo : St) (h : F_X0_clear u0 = some uo) : MV l D [(cI, .int), (cZ, .boolean)] z base yX0_clear wsX0_clear rmX0_clear [.ref (a 3)] (XW cI cZ a u0) (XW cI cZ a uo) := by
  refine MV.of (own := RX0) (cc := cX0_clear) (maxL := 1) (by decide) rfl rfl (Nat.le_of_ble_eq_true rfl) ?_
  intro p e s m args below meth c A Q ls C hl hw hQ
  have hx := C.1.1
  have hb := C.1.2.1
  have hl : lv_has ls 1 [(0, .ref (a 3))] := hl
  rw [F_X0_clear] at h
  refine lv_aload_n hx hb dX0_clear_0 rfl (lv_at hl 0 rfl) ?_
  refine lv_iconst (v := 0) hx hb dX0_clear_1 (by decide) ?_
  obtain ⟨u1, eu1⟩ : ∃ y : St, y = st u0 3 0 0 := ⟨_, rfl⟩
  have h := nmE eu1 h
  refine r_put (ws' := (XW cI cZ a u1)) C hw hiX0_clear_X0 tyX0 tyX0_ok nmX0 3 (XWa_3 cI cZ a u0) rfl 0 (by decide) (by decide +kernel) rfl (ty := .int) (by decide +kernel) rfl rfl (Nat.le_of_ble_eq_true rfl) (by rw [eu1]; exact XWs_3_0 cI cZ a u0 0) dX0_clear_2 (fun H locs hw => ?_)
  exact r_vret (f := XW cI cZ a) hQ h hw dX0_clear_5
theorem Wd.turn {D : va_G} {A : Nat → Prop} {H0 H : Heap} {locs : List Loc} {cI cZ : ClassId} {a : Nat → Nat} {σ : St} (hw : Wd D A H0 H locs (XV cI cZ a (a 8) (a 7) σ)) : Wd D A H0 H locs (XW cI cZ (swp a) (ssw σ)) :=
  ⟨hw.1.sub [0, 1, 2, 3, 4, 5, 6, 8, 7, 9, 10, 11, 12, 13, 14, 15, 16, 17, 18, 19, 20, 21, 22, 23, 24, 25, 26] rfl, hw.2.1.sub [0, 1, 2, 3, 4, 5, 6, 8, 7, 9, 10, 11, 12, 13, 14, 15, 16, 17, 18, 19, 20, 21, 22, 23, 24, 25, 26] (by decide) rfl, hw.2.2⟩
abbrev rmX6_exchange : Room := { frames := 0, cells := 0, slots := 0, locals := 0 }
theorem hiX6_exchange_X6 : ∀ w ∈ wsX60, w ∈ wsX6_exchange := by decide +kernel
set_option maxHeartbeats 4000000 in
set_option maxRecDepth 100000 in
theorem c_X6_exchange (l : Launch) (D : va_G) (cI cZ : ClassId) (z : Nat → Nat) (base : Nat) (a : Nat → Nat) (u0 : St) (sz : Nat) : Met l yX6_exchange wsX6_exchange rmX6_exchange (va_Pc [.ref (a 1), .ref (a 8)] (Pre D [(cI, .int), (cZ, .boolean)] z base (XW cI cZ a u0) sz)) (va_Qr (fun (u : va_W) => u = XV cI cZ a (a 8) (a 8) (st u0 1 1 0)) (fun u q t => q = a 7 ∧ Post D [(cI, .int), (cZ, .boolean)] (XW cI cZ a u0) sz u t) (va_A (XW cI cZ a u0) sz)) 0 0 (va_A (XW cI cZ a u0) sz) := by
  refine Met.ofW (cc := cX6_exchange) (maxL := 3) (ret := some (.array .int)) (by decide) rfl ?_
  intro p e s m args below meth c s₁ B hml hv
  obtain ⟨rfl, hsz, hP, hK, hD0, hbs, hZ⟩ := hv
  subst hsz
  have hx := B.exec
  have hb := B.bytes
  have hr := B.returns
  have hts := atoms_spec (ws := wsX6_exchange) B.pre
  have hown : s.vm.findClass RX6 = some m.cls := findClass_of_methodNamed B.named
  have hlocks := B.notSynchronized
  have hD := hD0.self (sz := s.heap.size)
  have hl := lv_entry ([.ref (a 1), .ref (a 8)]) (n := 3) (Nat.le_of_ble_eq_true rfl)
  rw [lg_entry_eq]
  generalize (lg_sl ([.ref (a 1), .ref (a 8)]) ++ List.replicate (3 - (lg_sl ([.ref (a 1), .ref (a 8)])).length) Slot.unset).toArray = ls at hl ⊢
  have hl : lv_has ls 3 [(0, .ref (a 1)), (1, .ref (a 8))] := hl
  have hAb : ∀ q, va_A (XW cI cZ a u0) s.heap.size q → base ≤ q := by
    intro q h
    rcases h with ⟨k, e, h⟩ | h
    · exact hD0.2 k _ h
    · exact Nat.le_trans hbs h
  have C : Cx p s m ([.ref (a 1), .ref (a 8)] : List Value).toArray c D [(cI, .int), (cZ, .boolean)] (va_A (XW cI cZ a u0) s.heap.size) z base RX6 wsX6_exchange cX6_exchange 3 := ⟨⟨hx, hb, hml, hown, hts⟩, hK, fun q h => Or.inr h, hAb, hbs, hZ⟩
  have hw : Wd D (va_A (XW cI cZ a u0) s.heap.size) s.heap s.heap [] (XW cI cZ a u0) := ⟨hP, hD, va_S.rf⟩
  refine lv_aload_n hx hb dX6_exchange_0 rfl (lv_at hl 0 rfl) ?_
  refine r_get C hw hiX6_exchange_X6 1 (XWa_1 cI cZ a u0) rfl 0 (by decide) (by decide +kernel) rfl dX6_exchange_1 ?_
  refine lv_astore_n (lv' := [(2, .ref (a 7)), (0, .ref (a 1)), (1, .ref (a 8))]) hx hb dX6_exchange_4 rfl hl (by decide) rfl (fun ls hl => ?_)
  refine lv_aload_n hx hb dX6_exchange_5 rfl (lv_at hl 1 rfl) ?_
  refine lv_aload_n hx hb dX6_exchange_6 rfl (lv_at hl 2 rfl) ?_
  refine r_put (ws' := XV cI cZ a (a 8) (a 8) u0) C hw hiX6_exchange_X6 tyX6 tyX6_ok nmX6 1 (XWa_1 cI cZ a u0) rfl 0 (by decide) (by decide +kernel) rfl (ty := .array .int) (by decide +kernel) rfl rfl (Nat.le_of_ble_eq_true rfl) rfl dX6_exchange_7 (fun H locs hw => ?_)
  refine lv_aload_n hx hb dX6_exchange_10 rfl (lv_at hl 1 rfl) ?_
  refine lv_iconst (v := 0) hx hb dX6_exchange_11 (by decide) ?_
  refine r_put (ws' := XV cI cZ a (a 8) (a 8) (st u0 1 1 0)) C hw hiX6_exchange_X6 tyX6 tyX6_ok nmX6 1 (fs := [.ref (a 8), .int (u0 1 1)]) (ci := 5) rfl rfl 1 (by decide) (by decide +kernel) rfl (ty := .int) (by decide +kernel) rfl rfl (Nat.le_of_ble_eq_true rfl) rfl dX6_exchange_12 (fun H locs hw => ?_)
  refine lv_aload_n hx hb dX6_exchange_15 rfl (lv_at hl 0 rfl) ?_
  exact W.aret hx hb hr (Or.inr ⟨_, rfl⟩) (Or.inr ⟨_, rfl⟩) (fun t ht hW => ⟨⟨_, a 7, rfl, rfl, rfl, by rw [ht]; exact hw.1, va_K.moved hW.alike hK, hw.2.1⟩, hw.2.2.F ht⟩) hw.2.2.2.2 dX6_exchange_16
abbrev rmX5_take : Room := { frames := 1, cells := 0, slots := 0, locals := 22 }
theorem hiX5_take_X5 : ∀ w ∈ wsX50, w ∈ wsX5_take := by decide +kernel
set_option maxHeartbeats 4000000 in
set_option maxRecDepth 100000 in
theorem c_X5_take (l : Launch) (D : va_G) (cI cZ : ClassId) (z : Nat → Nat) (base : Nat) (a : Nat → Nat) (x2 : Int32) (u0 : St) (ro : Int32) (uo : St) (h : F_X5_take x2 u0 = some (ro, uo)) : MI l D [(cI, .int), (cZ, .boolean)] z base yX5_take wsX5_take rmX5_take [.ref (a 2), .ref (a 1), .int x2] (XW cI cZ a u0) ro (XW cI cZ (asw ro a) uo) := by
  refine MI.ofZ (own := RX5) (cc := cX5_take) (maxL := 3) (by decide) rfl rfl (Nat.le_of_ble_eq_true rfl) ?_
  intro p e s m args below meth c A Q ls C hl hw hQ
  have hx := C.1.1
  have hb := C.1.2.1
  have J12 : ∀ (u0 : St) (H : Heap) (locs : List Loc) (ls : Array Slot), F_X5_take_12 u0 = some (ro, uo) → Wd D A s.heap H locs (XW cI cZ a u0) → lv_has ls 3 [(1, .ref (a 1))] → W p l e rmX5_take s m args below meth c H locs 0 0 Q (F0 m 12 ls []) := by
    intro u0 H locs ls h hw hl
    rw [F_X5_take_12] at h
    refine lv_aload_n hx hb dX5_take_12 rfl (lv_at hl 0 rfl) ?_
    obtain ⟨u1, h1, h⟩ := b1E h
    refine r_callVv (rest := []) C hw (c_X6_clear l D cI cZ z base a u0 u1 h1) (cwV 0 C.1.2.2.2.2 gX5_take_X6_clear rfl rfl rfl (by decide +kernel) ⟨Nat.le_of_ble_eq_true rfl, Nat.le_of_ble_eq_true rfl⟩) (va_recv C.2.1 hw.1 (ci := 5) (q0 := 1) rfl (XWa_1 cI cZ a u0)) rfl hl.1 rfl (Nat.le_of_ble_eq_true rfl) dX5_take_13 ⟨Nat.zero_le _, Nat.zero_le _⟩ (fun H locs hw => ?_)
    refine lv_iconst (v := 0) hx hb dX5_take_16 (by decide) ?_
    cases h
    rw [asw_0] at hQ
    exact hQ _ _ _ _ dX5_take_17 (Or.inl rfl) hw
  have hl : lv_has ls 3 [(0, .ref (a 2)), (1, .ref (a 1)), (2, .int x2)] := hl
  rw [F_X5_take] at h
  refine lv_iload_n hx hb dX5_take_0 rfl (lv_at hl 2 rfl) ?_
  refine lv_if_lt (tgt := 12) hx hb dX5_take_1 (by decide) (fun c1 => ?_) (fun c1 => ?_)
  · have h := itT c1 h
    exact J12 u0 _ _ _ h hw (lv_sub hl [1] rfl)
  · have h := itF c1 h
    refine lv_iload_n hx hb dX5_take_4 rfl (lv_at hl 2 rfl) ?_
    refine lv_aload_n hx hb dX5_take_5 rfl (lv_at hl 1 rfl) ?_
    obtain ⟨r1, h1, h⟩ := b1E h
    refine r_callV (rest := [.int x2]) C hw (c_X6_length l D cI cZ z base a u0 r1 h1) (cwV 0 C.1.2.2.2.2 gX5_take_X6_length rfl rfl rfl (by decide +kernel) ⟨Nat.le_of_ble_eq_true rfl, Nat.le_of_ble_eq_true rfl⟩) (va_recv C.2.1 hw.1 (ci := 5) (q0 := 1) rfl (XWa_1 cI cZ a u0)) rfl hl.1 rfl (Nat.le_of_ble_eq_true rfl) dX5_take_6 ⟨Nat.zero_le _, Nat.zero_le _⟩ (fun H locs hw => ?_)
    refine lv_icmp_le (tgt := 18) hx hb dX5_take_9 (by decide) (fun c2 => ?_) (fun c2 => ?_)
    · have h := itT c2 h
      refine lv_aload_n hx hb dX5_take_18 rfl (lv_at hl 0 rfl) ?_
      refine lv_aload_n hx hb dX5_take_19 rfl (lv_at hl 1 rfl) ?_
      refine lv_aload_n hx hb dX5_take_20 rfl (lv_at hl 0 rfl) ?_
      refine r_get C hw hiX5_take_X5 2 (XWa_2 cI cZ a u0) rfl 0 (by decide) (by decide +kernel) rfl dX5_take_21 ?_
      have hFc := hw.free C.2.2.1
      refine va_callr (va_runV (rest := [.ref (a 2)]) C.1 (c_X6_exchange l D cI cZ z base a u0 H.size) (cwV 1 C.1.2.2.2.2 gX5_take_X6_exchange rfl rfl rfl (by decide +kernel) ⟨Nat.le_of_ble_eq_true rfl, Nat.le_of_ble_eq_true rfl⟩) ⟨Pre.blind, va_recv C.2.1 hw.1 (ci := 5) (q0 := 1) rfl (XWa_1 cI cZ a u0), fun U hU hW => Wd.pre C hw rfl U hU hW rfl⟩ rfl rfl hl.1 rfl (lv_room (Nat.le_of_ble_eq_true rfl)) dX5_take_24 ⟨Nat.zero_le _, Nat.zero_le _⟩) hw.2.2 (fun q _ h => hFc q h) hFc (fun u ra t H1 locs1 ht hvm hp hB hz1 hk1 hS => ?_)
      subst hp
      obtain ⟨hra, hP1, hK1, hD1⟩ := hB
      subst hra
      rw [ht] at hP1
      have hw : Wd D A s.heap H1 locs1 (XV cI cZ a (a 8) (a 8) (st u0 1 1 0)) := ⟨hP1, hD1.weaken (fun k q _ h => hFc q.1 h), hS⟩
      obtain ⟨u1, e1⟩ : ∃ y : St, y = st u0 1 1 0 := ⟨_, rfl⟩
      have h := nmE e1 h
      rw [← e1] at hw
      refine r_put (ws' := XV cI cZ a (a 8) (a 7) u1) C hw hiX5_take_X5 tyX5 tyX5_ok nmX5 2 (fs := [.ref (a 8), .int (u1 2 1), .int (u1 2 2), .int (u1 2 3)]) (ci := 4) rfl rfl 0 (by decide) (by decide +kernel) rfl (ty := .array .int) (by decide +kernel) rfl rfl (Nat.le_of_ble_eq_true rfl) rfl dX5_take_27 (fun H locs hw => ?_)
      refine lv_aload_n hx hb dX5_take_30 rfl (lv_at hl 0 rfl) ?_
      refine lv_iload_n hx hb dX5_take_31 rfl (lv_at hl 2 rfl) ?_
      obtain ⟨u2, e2⟩ : ∃ y : St, y = st u1 2 1 x2 := ⟨_, rfl⟩
      have h := nmE e2 h
      refine r_put (ws' := XV cI cZ a (a 8) (a 7) u2) C hw hiX5_take_X5 tyX5 tyX5_ok nmX5 2 (fs := [.ref (a 7), .int (u1 2 1), .int (u1 2 2), .int (u1 2 3)]) (ci := 4) rfl rfl 1 (by decide) (by decide +kernel) rfl (ty := .int) (by decide +kernel) rfl rfl (Nat.le_of_ble_eq_true rfl) (by rw [e2]; rfl) dX5_take_32 (fun H locs hw => ?_)
      refine lv_aload_n hx hb dX5_take_35 rfl (lv_at hl 0 rfl) ?_
      refine lv_iconst (v := 0) hx hb dX5_take_36 (by decide) ?_
      obtain ⟨u3, e3⟩ : ∃ y : St, y = st u2 2 2 0 := ⟨_, rfl⟩
      have h := nmE e3 h
      refine r_put (ws' := XV cI cZ a (a 8) (a 7) u3) C hw hiX5_take_X5 tyX5 tyX5_ok nmX5 2 (fs := [.ref (a 7), .int (u2 2 1), .int (u2 2 2), .int (u2 2 3)]) (ci := 4) rfl rfl 2 (by decide) (by decide +kernel) rfl (ty := .int) (by decide +kernel) rfl rfl (Nat.le_of_ble_eq_true rfl) (by rw [e3]; rfl) dX5_take_37 (fun H locs hw => ?_)
      refine lv_aload_n hx hb dX5_take_40 rfl (lv_at hl 0 rfl) ?_
      refine lv_iconst (v := 0) hx hb dX5_take_41 (by decide) ?_
      obtain ⟨u4, e4⟩ : ∃ y : St, y = st u3 2 3 0 := ⟨_, rfl⟩
      have h := nmE e4 h
      refine r_put (ws' := XV cI cZ a (a 8) (a 7) u4) C hw hiX5_take_X5 tyX5 tyX5_ok nmX5 2 (fs := [.ref (a 7), .int (u3 2 1), .int (u3 2 2), .int (u3 2 3)]) (ci := 4) rfl rfl 3 (by decide) (by decide +kernel) rfl (ty := .boolean) (by decide +kernel) rfl rfl (Nat.le_of_ble_eq_true rfl) (by rw [e4]; rfl) dX5_take_42 (fun H locs hw => ?_)
      refine lv_iconst (v := 1) hx hb dX5_take_45 (by decide) ?_
      cases h
      rw [asw_1] at hQ
      exact hQ _ _ _ _ dX5_take_46 (Or.inr rfl) hw.turn
    · have h := itF c2 h
      exact J12 u0 _ _ _ h hw (lv_sub hl [1] rfl)
abbrev rmX7_end : Room := { frames := 6, cells := 0, slots := 0, locals := 147 }
theorem hiX7_end_X7 : ∀ w ∈ wsX70, w ∈ wsX7_end := by decide +kernel
set_option maxHeartbeats 4000000 in
set_option maxRecDepth 100000 in
theorem c_X7_end (l : Launch) (D : va_G) (cI cZ : ClassId) (z : Nat → Nat) (base : Nat) (a : Nat → Nat) (x1 : Int32) (u0 : St) (ro : Int32) (uo : St) (h : F_X7_end x1 u0 = some (ro, uo)) : ∃ rT : Int32, MI l D [(cI, .int), (cZ, .boolean)] z base yX7_end wsX7_end rmX7_end [.ref (a 0), .int x1] (XW cI cZ a u0) ro (XW cI cZ (asw rT a) uo) := by
  rw [F_X7_end] at h
  obtain ⟨rT, uT, hT, h⟩ := b2E h
  refine ⟨rT, ?_⟩
  have ha0 : asw rT a 0 = a 0 := asw_ne (by decide) (by decide)
  generalize hasw : asw rT a = a2 at ha0 ⊢
  refine MI.ofI (own := RX7) (cc := cX7_end) (maxL := 3) (by decide) rfl rfl (Nat.le_of_ble_eq_true rfl) ?_
  intro p e s m args below meth c A Q ls C hl hw hQ
  have hx := C.1.1
  have hb := C.1.2.1
  have J85 : ∀ (t0 : Int32) (u0 : St) (H : Heap) (locs : List Loc) (ls : Array Slot), F_X7_end_85 t0 u0 = some (ro, uo) → Wd D A s.heap H locs (XW cI cZ a2 u0) → lv_has ls 3 [(0, .ref (a2 0))] → W p l e rmX7_end s m args below meth c H locs 0 0 Q (F0 m 85 ls [.int t0]) := by
    intro t0 u0 H locs ls h hw hl
    rw [F_X7_end_85] at h
    refine lv_istore_n (lv' := [(2, .int t0), (0, .ref (a2 0))]) hx hb dX7_end_85 rfl hl (by decide) rfl (fun ls hl => ?_)
    refine lv_iload_n hx hb dX7_end_86 rfl (lv_at hl 0 rfl) ?_
    refine lv_iconst (v := (-1)) hx hb dX7_end_87 (by decide) ?_
    refine lv_icmp_ne (tgt := 99) hx hb dX7_end_88 (by decide) (fun c1 => ?_) (fun c1 => ?_)
    · have h := itF c1 h
      refine lv_aload_n hx hb dX7_end_99 rfl (lv_at hl 1 rfl) ?_
      refine r_get C hw hiX7_end_X7 0 (XWa_0 cI cZ a2 u0) rfl 2 (by decide) (by decide +kernel) rfl dX7_end_100 ?_
      obtain ⟨u3, h2, h⟩ := b1E h
      refine r_callVv (rest := []) C hw (c_X0_clear l D cI cZ z base a2 u0 u3 h2) (cwV 0 C.1.2.2.2.2 gX7_end_X0_clear rfl rfl rfl (by decide +kernel) ⟨Nat.le_of_ble_eq_true rfl, Nat.le_of_ble_eq_true rfl⟩) (va_recv C.2.1 hw.1 (ci := 0) (q0 := 3) rfl (XWa_3 cI cZ a2 u0)) rfl hl.1 rfl (Nat.le_of_ble_eq_true rfl) dX7_end_103 ⟨Nat.zero_le _, Nat.zero_le _⟩ (fun H locs hw => ?_)
      refine lv_aload_n hx hb dX7_end_106 rfl (lv_at hl 1 rfl) ?_
      refine r_get C hw hiX7_end_X7 0 (XWa_0 cI cZ a2 u3) rfl 3 (by decide) (by decide +kernel) rfl dX7_end_107 ?_
      obtain ⟨u5, h4, h⟩ := b1E h
      refine r_callVv (rest := []) C hw (c_X3_clear l D cI cZ z base a2 u3 u5 h4) (cwV 0 C.1.2.2.2.2 gX7_end_X3_clear rfl rfl rfl (by decide +kernel) ⟨Nat.le_of_ble_eq_true rfl, Nat.le_of_ble_eq_true rfl⟩) (va_recv C.2.1 hw.1 (ci := 3) (q0 := 4) rfl (XWa_4 cI cZ a2 u3)) rfl hl.1 rfl (Nat.le_of_ble_eq_true rfl) dX7_end_110 ⟨Nat.zero_le _, Nat.zero_le _⟩ (fun H locs hw => ?_)
      refine lv_bipush (v := (-3)) hx hb dX7_end_113 (by decide) ?_
      refine lv_iload_n hx hb dX7_end_115 rfl (lv_at hl 0 rfl) ?_
      refine lv_isub hx hb dX7_end_116 ?_
      exact r_iret (f := XW cI cZ a2) hQ h hw dX7_end_117
    · have h := itT c1 h
      refine lv_aload_n hx hb dX7_end_91 rfl (lv_at hl 1 rfl) ?_
      refine r_get C hw hiX7_end_X7 0 (XWa_0 cI cZ a2 u0) rfl 3 (by decide) (by decide +kernel) rfl dX7_end_92 ?_
      obtain ⟨r7, h6, h⟩ := b1E h
      refine r_callV (rest := []) C hw (c_X3_instructions l D cI cZ z base a2 u0 r7 h6) (cwV 0 C.1.2.2.2.2 gX7_end_X3_instructions rfl rfl rfl (by decide +kernel) ⟨Nat.le_of_ble_eq_true rfl, Nat.le_of_ble_eq_true rfl⟩) (va_recv C.2.1 hw.1 (ci := 3) (q0 := 4) rfl (XWa_4 cI cZ a2 u0)) rfl hl.1 rfl (Nat.le_of_ble_eq_true rfl) dX7_end_95 ⟨Nat.zero_le _, Nat.zero_le _⟩ (fun H locs hw => ?_)
      exact r_iret (f := XW cI cZ a2) hQ h hw dX7_end_98
  have hl : lv_has ls 3 [(0, .ref (a 0)), (1, .int x1)] := hl
  refine lv_aload_n hx hb dX7_end_0 rfl (lv_at hl 0 rfl) ?_
  refine r_get C hw hiX7_end_X7 0 (XWa_0 cI cZ a u0) rfl 1 (by decide) (by decide +kernel) rfl dX7_end_1 ?_
  refine lv_aload_n hx hb dX7_end_4 rfl (lv_at hl 0 rfl) ?_
  refine r_get C hw hiX7_end_X7 0 (XWa_0 cI cZ a u0) rfl 0 (by decide) (by decide +kernel) rfl dX7_end_5 ?_
  refine lv_iload_n hx hb dX7_end_8 rfl (lv_at hl 1 rfl) ?_
  refine r_callV (ws' := XW cI cZ a2 uT) (rest := []) C hw (by rw [← hasw]; exact c_X5_take l D cI cZ z base a x1 u0 rT uT hT) (cwV 2 C.1.2.2.2.2 gX7_end_X5_take rfl rfl rfl (by decide +kernel) ⟨Nat.le_of_ble_eq_true rfl, Nat.le_of_ble_eq_true rfl⟩) (va_recv C.2.1 hw.1 (ci := 4) (q0 := 2) rfl (XWa_2 cI cZ a u0)) rfl hl.1 rfl (Nat.le_of_ble_eq_true rfl) dX7_end_9 ⟨Nat.zero_le _, Nat.zero_le _⟩ (fun H locs hw => ?_)
  have hl : lv_has ls 3 [(0, .ref (a2 0)), (1, .int x1)] := by rw [ha0]; exact hl
  refine lv_if_ne (tgt := 17) hx hb dX7_end_12 (by decide) (fun c2 => ?_) (fun c2 => ?_)
  · have h := itF c2 h
    refine lv_aload_n hx hb dX7_end_17 rfl (lv_at hl 0 rfl) ?_
    refine r_get C hw hiX7_end_X7 0 (XWa_0 cI cZ a2 uT) rfl 2 (by decide) (by decide +kernel) rfl dX7_end_18 ?_
    refine lv_aload_n hx hb dX7_end_21 rfl (lv_at hl 0 rfl) ?_
    refine r_get C hw hiX7_end_X7 0 (XWa_0 cI cZ a2 uT) rfl 1 (by decide) (by decide +kernel) rfl dX7_end_22 ?_
    obtain ⟨u4, h3, h⟩ := b1E h
    refine r_callVv (rest := []) C hw (c_X0_read l D cI cZ z base a2 uT u4 h3) (cwV 1 C.1.2.2.2.2 gX7_end_X0_read rfl rfl rfl (by decide +kernel) ⟨Nat.le_of_ble_eq_true rfl, Nat.le_of_ble_eq_true rfl⟩) (va_recv C.2.1 hw.1 (ci := 0) (q0 := 3) rfl (XWa_3 cI cZ a2 uT)) rfl hl.1 rfl (Nat.le_of_ble_eq_true rfl) dX7_end_25 ⟨Nat.zero_le _, Nat.zero_le _⟩ (fun H locs hw => ?_)
    refine lv_aload_n hx hb dX7_end_28 rfl (lv_at hl 0 rfl) ?_
    refine r_get C hw hiX7_end_X7 0 (XWa_0 cI cZ a2 u4) rfl 3 (by decide) (by decide +kernel) rfl dX7_end_29 ?_
    refine lv_aload_n hx hb dX7_end_32 rfl (lv_at hl 0 rfl) ?_
    refine r_get C hw hiX7_end_X7 0 (XWa_0 cI cZ a2 u4) rfl 1 (by decide) (by decide +kernel) rfl dX7_end_33 ?_
    refine lv_aload_n hx hb dX7_end_36 rfl (lv_at hl 0 rfl) ?_
    refine r_get C hw hiX7_end_X7 0 (XWa_0 cI cZ a2 u4) rfl 2 (by decide) (by decide +kernel) rfl dX7_end_37 ?_
    obtain ⟨u6, h5, h⟩ := b1E h
    refine r_callVv (rest := []) C hw (c_X3_read l D cI cZ z base a2 u4 u6 h5) (cwV 2 C.1.2.2.2.2 gX7_end_X3_read rfl rfl rfl (by decide +kernel) ⟨Nat.le_of_ble_eq_true rfl, Nat.le_of_ble_eq_true rfl⟩) (va_recv C.2.1 hw.1 (ci := 3) (q0 := 4) rfl (XWa_4 cI cZ a2 u4)) rfl hl.1 rfl (Nat.le_of_ble_eq_true rfl) dX7_end_40 ⟨Nat.zero_le _, Nat.zero_le _⟩ (fun H locs hw => ?_)
    refine lv_aload_n hx hb dX7_end_43 rfl (lv_at hl 0 rfl) ?_
    refine r_get C hw hiX7_end_X7 0 (XWa_0 cI cZ a2 u6) rfl 1 (by decide) (by decide +kernel) rfl dX7_end_44 ?_
    obtain ⟨u8, h7, h⟩ := b1E h
    refine r_callVv (rest := []) C hw (c_X5_close l D cI cZ z base a2 u6 u8 h7) (cwV 0 C.1.2.2.2.2 gX7_end_X5_close rfl rfl rfl (by decide +kernel) ⟨Nat.le_of_ble_eq_true rfl, Nat.le_of_ble_eq_true rfl⟩) (va_recv C.2.1 hw.1 (ci := 4) (q0 := 2) rfl (XWa_2 cI cZ a2 u6)) rfl hl.1 rfl (Nat.le_of_ble_eq_true rfl) dX7_end_47 ⟨Nat.zero_le _, Nat.zero_le _⟩ (fun H locs hw => ?_)
    refine lv_aload_n hx hb dX7_end_50 rfl (lv_at hl 0 rfl) ?_
    refine r_get C hw hiX7_end_X7 0 (XWa_0 cI cZ a2 u8) rfl 1 (by decide) (by decide +kernel) rfl dX7_end_51 ?_
    obtain ⟨r10, h9, h⟩ := b1E h
    refine r_callV (rest := []) C hw (c_X5_stopped l D cI cZ z base a2 u8 r10 h9) (cwV 0 C.1.2.2.2.2 gX7_end_X5_stopped rfl rfl rfl (by decide +kernel) ⟨Nat.le_of_ble_eq_true rfl, Nat.le_of_ble_eq_true rfl⟩) (va_recv C.2.1 hw.1 (ci := 4) (q0 := 2) rfl (XWa_2 cI cZ a2 u8)) rfl hl.1 rfl (Nat.le_of_ble_eq_true rfl) dX7_end_54 ⟨Nat.zero_le _, Nat.zero_le _⟩ (fun H locs hw => ?_)
    refine lv_if_eq (tgt := 70) hx hb dX7_end_57 (by decide) (fun c11 => ?_) (fun c11 => ?_)
    · have h := itT c11 h
      refine lv_aload_n hx hb dX7_end_70 rfl (lv_at hl 0 rfl) ?_
      refine r_get C hw hiX7_end_X7 0 (XWa_0 cI cZ a2 u8) rfl 3 (by decide) (by decide +kernel) rfl dX7_end_71 ?_
      refine lv_aload_n hx hb dX7_end_74 rfl (lv_at hl 0 rfl) ?_
      refine r_get C hw hiX7_end_X7 0 (XWa_0 cI cZ a2 u8) rfl 1 (by decide) (by decide +kernel) rfl dX7_end_75 ?_
      refine lv_aload_n hx hb dX7_end_78 rfl (lv_at hl 0 rfl) ?_
      refine r_get C hw hiX7_end_X7 0 (XWa_0 cI cZ a2 u8) rfl 2 (by decide) (by decide +kernel) rfl dX7_end_79 ?_
      obtain ⟨r13, h12, h⟩ := b1E h
      refine r_callV (rest := []) C hw (c_X3_misfit l D cI cZ z base a2 u8 r13 h12) (cwV 2 C.1.2.2.2.2 gX7_end_X3_misfit rfl rfl rfl (by decide +kernel) ⟨Nat.le_of_ble_eq_true rfl, Nat.le_of_ble_eq_true rfl⟩) (va_recv C.2.1 hw.1 (ci := 3) (q0 := 4) rfl (XWa_4 cI cZ a2 u8)) rfl hl.1 rfl (Nat.le_of_ble_eq_true rfl) dX7_end_82 ⟨Nat.zero_le _, Nat.zero_le _⟩ (fun H locs hw => ?_)
      exact J85 r13 u8 _ _ _ h hw (lv_sub hl [0] rfl)
    · have h := itF c11 h
      refine lv_aload_n hx hb dX7_end_60 rfl (lv_at hl 0 rfl) ?_
      refine r_get C hw hiX7_end_X7 0 (XWa_0 cI cZ a2 u8) rfl 1 (by decide) (by decide +kernel) rfl dX7_end_61 ?_
      obtain ⟨r15, h14, h⟩ := b1E h
      refine r_callV (rest := []) C hw (c_X5_place l D cI cZ z base a2 u8 r15 h14) (cwV 0 C.1.2.2.2.2 gX7_end_X5_place rfl rfl rfl (by decide +kernel) ⟨Nat.le_of_ble_eq_true rfl, Nat.le_of_ble_eq_true rfl⟩) (va_recv C.2.1 hw.1 (ci := 4) (q0 := 2) rfl (XWa_2 cI cZ a2 u8)) rfl hl.1 rfl (Nat.le_of_ble_eq_true rfl) dX7_end_64 ⟨Nat.zero_le _, Nat.zero_le _⟩ (fun H locs hw => ?_)
      refine lv_goto (tgt := 85) hx hb dX7_end_67 (by decide) ?_
      exact J85 r15 u8 _ _ _ h hw (lv_sub hl [0] rfl)
  · have h := itT c2 h
    refine lv_iconst (v := (-1)) hx hb dX7_end_15 (by decide) ?_
    exact r_iret (f := XW cI cZ a2) hQ h hw dX7_end_16
abbrev rmX3_size : Room := { frames := 0, cells := 0, slots := 0, locals := 0 }
theorem hiX3_size_X3 : ∀ w ∈ wsX30, w ∈ wsX3_size := by decide +kernel
set_option maxHeartbeats 4000000 in
set_option maxRecDepth 100000 in
theorem c_X3_size (l : Launch) (D : va_G) (cI cZ : ClassId) (z : Nat → Nat) (base : Nat) (a : Nat → Nat) (u0 : St) (ro : Int32) (h : F_X3_size u0 = some ro) : MI l D [(cI, .int), (cZ, .boolean)] z base yX3_size wsX3_size rmX3_size [.ref (a 4)] (XW cI cZ a u0) ro (XW cI cZ a u0) := by
  refine MI.ofI (own := RX3) (cc := cX3_size) (maxL := 1) (by decide) rfl rfl (Nat.le_of_ble_eq_true rfl) ?_
  intro p e s m args below meth c A Q ls C hl hw hQ
  have hx := C.1.1
  have hb := C.1.2.1
  have hl : lv_has ls 1 [(0, .ref (a 4))] := hl
  rw [F_X3_size] at h
  refine lv_aload_n hx hb dX3_size_0 rfl (lv_at hl 0 rfl) ?_
  refine r_get C hw hiX3_size_X3 4 (XWa_4 cI cZ a u0) rfl 0 (by decide) (by decide +kernel) rfl dX3_size_1 ?_
  exact r_iretP hQ h hw dX3_size_4
abbrev rmX3_first : Room := { frames := 0, cells := 0, slots := 0, locals := 0 }
theorem hiX3_first_X3 : ∀ w ∈ wsX30, w ∈ wsX3_first := by decide +kernel
set_option maxHeartbeats 4000000 in
set_option maxRecDepth 100000 in
theorem c_X3_first (l : Launch) (D : va_G) (cI cZ : ClassId) (z : Nat → Nat) (base : Nat) (a : Nat → Nat) (u0 : St) (ro : Int32) (h : F_X3_first u0 = some ro) : MI l D [(cI, .int), (cZ, .boolean)] z base yX3_first wsX3_first rmX3_first [.ref (a 4)] (XW cI cZ a u0) ro (XW cI cZ a u0) := by
  refine MI.ofI (own := RX3) (cc := cX3_first) (maxL := 1) (by decide) rfl rfl (Nat.le_of_ble_eq_true rfl) ?_
  intro p e s m args below meth c A Q ls C hl hw hQ
  have hx := C.1.1
  have hb := C.1.2.1
  have hl : lv_has ls 1 [(0, .ref (a 4))] := hl
  rw [F_X3_first] at h
  refine lv_aload_n hx hb dX3_first_0 rfl (lv_at hl 0 rfl) ?_
  refine r_get C hw hiX3_first_X3 4 (XWa_4 cI cZ a u0) rfl 1 (by decide) (by decide +kernel) rfl dX3_first_1 ?_
  exact r_iretP hQ h hw dX3_first_4
abbrev rmX7_count : Room := { frames := 2, cells := 0, slots := 0, locals := 40 }
theorem hiX7_count_X7 : ∀ w ∈ wsX70, w ∈ wsX7_count := by decide +kernel
set_option maxHeartbeats 4000000 in
set_option maxRecDepth 100000 in
theorem c_X7_count (l : Launch) (D : va_G) (cI cZ : ClassId) (z : Nat → Nat) (base : Nat) (a : Nat → Nat) (x1 : Int32) (u0 : St) (ro : Int32) (h : F_X7_count x1 u0 = some ro) : MI l D [(cI, .int), (cZ, .boolean)] z base yX7_count wsX7_count rmX7_count [.ref (a 0), .int x1] (XW cI cZ a u0) ro (XW cI cZ a u0) := by
  refine MI.ofI (own := RX7) (cc := cX7_count) (maxL := 2) (by decide) rfl rfl (Nat.le_of_ble_eq_true rfl) ?_
  intro p e s m args below meth c A Q ls C hl hw hQ
  have hx := C.1.1
  have hb := C.1.2.1
  have hl : lv_has ls 2 [(0, .ref (a 0)), (1, .int x1)] := hl
  rw [F_X7_count] at h
  refine lv_iload_n hx hb dX7_count_0 rfl (lv_at hl 1 rfl) ?_
  by_cases c1 : x1 = 0
  · have h := itT c1 h
    refine r_tabIn (k := 0) (tgt := 32) C c1 dX7_count_1 (by decide) (by decide) rfl (by decide) ?_
    refine lv_aload_n hx hb dX7_count_32 rfl (lv_at hl 0 rfl) ?_
    refine r_get C hw hiX7_count_X7 0 (XWa_0 cI cZ a u0) rfl 2 (by decide) (by decide +kernel) rfl dX7_count_33 ?_
    obtain ⟨r3, h2, h⟩ := b1E h
    refine r_callV (rest := []) C hw (c_X0_size l D cI cZ z base a u0 r3 h2) (cwV 0 C.1.2.2.2.2 gX7_count_X0_size rfl rfl rfl (by decide +kernel) ⟨Nat.le_of_ble_eq_true rfl, Nat.le_of_ble_eq_true rfl⟩) (va_recv C.2.1 hw.1 (ci := 0) (q0 := 3) rfl (XWa_3 cI cZ a u0)) rfl hl.1 rfl (Nat.le_of_ble_eq_true rfl) dX7_count_36 ⟨Nat.zero_le _, Nat.zero_le _⟩ (fun H locs hw => ?_)
    exact r_iretP hQ h hw dX7_count_39
  have h := itF c1 h
  by_cases c4 : x1 = 1
  · have h := itT c4 h
    refine r_tabIn (k := 1) (tgt := 40) C c4 dX7_count_1 (by decide) (by decide) rfl (by decide) ?_
    refine lv_aload_n hx hb dX7_count_40 rfl (lv_at hl 0 rfl) ?_
    refine r_get C hw hiX7_count_X7 0 (XWa_0 cI cZ a u0) rfl 3 (by decide) (by decide +kernel) rfl dX7_count_41 ?_
    obtain ⟨r6, h5, h⟩ := b1E h
    refine r_callV (rest := []) C hw (c_X3_size l D cI cZ z base a u0 r6 h5) (cwV 0 C.1.2.2.2.2 gX7_count_X3_size rfl rfl rfl (by decide +kernel) ⟨Nat.le_of_ble_eq_true rfl, Nat.le_of_ble_eq_true rfl⟩) (va_recv C.2.1 hw.1 (ci := 3) (q0 := 4) rfl (XWa_4 cI cZ a u0)) rfl hl.1 rfl (Nat.le_of_ble_eq_true rfl) dX7_count_44 ⟨Nat.zero_le _, Nat.zero_le _⟩ (fun H locs hw => ?_)
    exact r_iretP hQ h hw dX7_count_47
  have h := itF c4 h
  by_cases c7 : x1 = 2
  · have h := itT c7 h
    refine r_tabIn (k := 2) (tgt := 48) C c7 dX7_count_1 (by decide) (by decide) rfl (by decide) ?_
    refine lv_aload_n hx hb dX7_count_48 rfl (lv_at hl 0 rfl) ?_
    refine r_get C hw hiX7_count_X7 0 (XWa_0 cI cZ a u0) rfl 3 (by decide) (by decide +kernel) rfl dX7_count_49 ?_
    obtain ⟨r9, h8, h⟩ := b1E h
    refine r_callV (rest := []) C hw (c_X3_instructions l D cI cZ z base a u0 r9 h8) (cwV 0 C.1.2.2.2.2 gX7_count_X3_instructions rfl rfl rfl (by decide +kernel) ⟨Nat.le_of_ble_eq_true rfl, Nat.le_of_ble_eq_true rfl⟩) (va_recv C.2.1 hw.1 (ci := 3) (q0 := 4) rfl (XWa_4 cI cZ a u0)) rfl hl.1 rfl (Nat.le_of_ble_eq_true rfl) dX7_count_52 ⟨Nat.zero_le _, Nat.zero_le _⟩ (fun H locs hw => ?_)
    exact r_iretP hQ h hw dX7_count_55
  have h := itF c7 h
  by_cases c10 : x1 = 3
  · have h := itT c10 h
    refine r_tabIn (k := 3) (tgt := 56) C c10 dX7_count_1 (by decide) (by decide) rfl (by decide) ?_
    refine lv_aload_n hx hb dX7_count_56 rfl (lv_at hl 0 rfl) ?_
    refine r_get C hw hiX7_count_X7 0 (XWa_0 cI cZ a u0) rfl 3 (by decide) (by decide +kernel) rfl dX7_count_57 ?_
    obtain ⟨r12, h11, h⟩ := b1E h
    refine r_callV (rest := []) C hw (c_X3_first l D cI cZ z base a u0 r12 h11) (cwV 0 C.1.2.2.2.2 gX7_count_X3_first rfl rfl rfl (by decide +kernel) ⟨Nat.le_of_ble_eq_true rfl, Nat.le_of_ble_eq_true rfl⟩) (va_recv C.2.1 hw.1 (ci := 3) (q0 := 4) rfl (XWa_4 cI cZ a u0)) rfl hl.1 rfl (Nat.le_of_ble_eq_true rfl) dX7_count_60 ⟨Nat.zero_le _, Nat.zero_le _⟩ (fun H locs hw => ?_)
    exact r_iretP hQ h hw dX7_count_63
  have h := itF c10 h
  refine lv_tableOut (tgt := 64) hx hb dX7_count_1 (by have := lv_neT (a := 0) c1 rfl; have := lv_neT (a := 1) c4 rfl; have := lv_neT (a := 2) c7 rfl; have := lv_neT (a := 3) c10 rfl; omega) (by decide) ?_
  refine lv_iconst (v := (-1)) hx hb dX7_count_64 (by decide) ?_
  exact r_iretP hQ h hw dX7_count_65
abbrev rmX7_classOf : Room := { frames := 3, cells := 0, slots := 0, locals := 64 }
theorem hiX7_classOf_X7 : ∀ w ∈ wsX70, w ∈ wsX7_classOf := by decide +kernel
set_option maxHeartbeats 4000000 in
set_option maxRecDepth 100000 in
theorem c_X7_classOf (l : Launch) (D : va_G) (cI cZ : ClassId) (z : Nat → Nat) (base : Nat) (a : Nat → Nat) (x1 : Int32) (x2 : Int32) (x3 : Int32) (u0 : St) (ro : Int32) (h : F_X7_classOf x1 x2 x3 u0 = some ro) : MI l D [(cI, .int), (cZ, .boolean)] z base yX7_classOf wsX7_classOf rmX7_classOf [.ref (a 0), .int x1, .int x2, .int x3] (XW cI cZ a u0) ro (XW cI cZ a u0) := by
  refine MI.ofI (own := RX7) (cc := cX7_classOf) (maxL := 4) (by decide) rfl rfl (Nat.le_of_ble_eq_true rfl) ?_
  intro p e s m args below meth c A Q ls C hl hw hQ
  have hx := C.1.1
  have hb := C.1.2.1
  have hl : lv_has ls 4 [(0, .ref (a 0)), (1, .int x1), (2, .int x2), (3, .int x3)] := hl
  rw [F_X7_classOf] at h
  refine lv_iload_n hx hb dX7_classOf_0 rfl (lv_at hl 2 rfl) ?_
  by_cases c1 : x2 = 0
  · have h := itT c1 h
    refine r_tabIn (k := 0) (tgt := 32) C c1 dX7_classOf_1 (by decide) (by decide) rfl (by decide) ?_
    refine lv_aload_n hx hb dX7_classOf_32 rfl (lv_at hl 0 rfl) ?_
    refine r_get C hw hiX7_classOf_X7 0 (XWa_0 cI cZ a u0) rfl 2 (by decide) (by decide +kernel) rfl dX7_classOf_33 ?_
    refine lv_iload_n hx hb dX7_classOf_36 rfl (lv_at hl 1 rfl) ?_
    obtain ⟨r3, h2, h⟩ := b1E h
    refine r_callV (rest := []) C hw (c_X0_upper l D cI cZ z base a x1 u0 r3 h2) (cwV 1 C.1.2.2.2.2 gX7_classOf_X0_upper rfl rfl rfl (by decide +kernel) ⟨Nat.le_of_ble_eq_true rfl, Nat.le_of_ble_eq_true rfl⟩) (va_recv C.2.1 hw.1 (ci := 0) (q0 := 3) rfl (XWa_3 cI cZ a u0)) rfl hl.1 rfl (Nat.le_of_ble_eq_true rfl) dX7_classOf_37 ⟨Nat.zero_le _, Nat.zero_le _⟩ (fun H locs hw => ?_)
    exact r_iretP hQ h hw dX7_classOf_40
  have h := itF c1 h
  by_cases c4 : x2 = 1
  · have h := itT c4 h
    refine r_tabIn (k := 1) (tgt := 41) C c4 dX7_classOf_1 (by decide) (by decide) rfl (by decide) ?_
    refine lv_aload_n hx hb dX7_classOf_41 rfl (lv_at hl 0 rfl) ?_
    refine r_get C hw hiX7_classOf_X7 0 (XWa_0 cI cZ a u0) rfl 2 (by decide) (by decide +kernel) rfl dX7_classOf_42 ?_
    refine lv_iload_n hx hb dX7_classOf_45 rfl (lv_at hl 1 rfl) ?_
    obtain ⟨r6, h5, h⟩ := b1E h
    refine r_callV (rest := []) C hw (c_X0_fields l D cI cZ z base a x1 u0 r6 h5) (cwV 1 C.1.2.2.2.2 gX7_classOf_X0_fields rfl rfl rfl (by decide +kernel) ⟨Nat.le_of_ble_eq_true rfl, Nat.le_of_ble_eq_true rfl⟩) (va_recv C.2.1 hw.1 (ci := 0) (q0 := 3) rfl (XWa_3 cI cZ a u0)) rfl hl.1 rfl (Nat.le_of_ble_eq_true rfl) dX7_classOf_46 ⟨Nat.zero_le _, Nat.zero_le _⟩ (fun H locs hw => ?_)
    exact r_iretP hQ h hw dX7_classOf_49
  have h := itF c4 h
  by_cases c7 : x2 = 2
  · have h := itT c7 h
    refine r_tabIn (k := 2) (tgt := 50) C c7 dX7_classOf_1 (by decide) (by decide) rfl (by decide) ?_
    refine lv_aload_n hx hb dX7_classOf_50 rfl (lv_at hl 0 rfl) ?_
    refine r_get C hw hiX7_classOf_X7 0 (XWa_0 cI cZ a u0) rfl 2 (by decide) (by decide +kernel) rfl dX7_classOf_51 ?_
    refine lv_iload_n hx hb dX7_classOf_54 rfl (lv_at hl 1 rfl) ?_
    refine lv_iload_n hx hb dX7_classOf_55 rfl (lv_at hl 3 rfl) ?_
    obtain ⟨r9, h8, h⟩ := b1E h
    refine r_callV (rest := []) C hw (c_X0_fieldType l D cI cZ z base a x1 x3 u0 r9 h8) (cwV 2 C.1.2.2.2.2 gX7_classOf_X0_fieldType rfl rfl rfl (by decide +kernel) ⟨Nat.le_of_ble_eq_true rfl, Nat.le_of_ble_eq_true rfl⟩) (va_recv C.2.1 hw.1 (ci := 0) (q0 := 3) rfl (XWa_3 cI cZ a u0)) rfl hl.1 rfl (Nat.le_of_ble_eq_true rfl) dX7_classOf_56 ⟨Nat.zero_le _, Nat.zero_le _⟩ (fun H locs hw => ?_)
    exact r_iretP hQ h hw dX7_classOf_59
  have h := itF c7 h
  by_cases c10 : x2 = 3
  · have h := itT c10 h
    refine r_tabIn (k := 3) (tgt := 60) C c10 dX7_classOf_1 (by decide) (by decide) rfl (by decide) ?_
    refine lv_aload_n hx hb dX7_classOf_60 rfl (lv_at hl 0 rfl) ?_
    refine r_get C hw hiX7_classOf_X7 0 (XWa_0 cI cZ a u0) rfl 2 (by decide) (by decide +kernel) rfl dX7_classOf_61 ?_
    refine lv_iload_n hx hb dX7_classOf_64 rfl (lv_at hl 1 rfl) ?_
    refine lv_iload_n hx hb dX7_classOf_65 rfl (lv_at hl 3 rfl) ?_
    obtain ⟨r12, h11, h⟩ := b1E h
    refine r_callV (rest := []) C hw (c_X0_slotMethod l D cI cZ z base a x1 x3 u0 r12 h11) (cwV 2 C.1.2.2.2.2 gX7_classOf_X0_slotMethod rfl rfl rfl (by decide +kernel) ⟨Nat.le_of_ble_eq_true rfl, Nat.le_of_ble_eq_true rfl⟩) (va_recv C.2.1 hw.1 (ci := 0) (q0 := 3) rfl (XWa_3 cI cZ a u0)) rfl hl.1 rfl (Nat.le_of_ble_eq_true rfl) dX7_classOf_66 ⟨Nat.zero_le _, Nat.zero_le _⟩ (fun H locs hw => ?_)
    exact r_iretP hQ h hw dX7_classOf_69
  have h := itF c10 h
  refine lv_tableOut (tgt := 70) hx hb dX7_classOf_1 (by have := lv_neT (a := 0) c1 rfl; have := lv_neT (a := 1) c4 rfl; have := lv_neT (a := 2) c7 rfl; have := lv_neT (a := 3) c10 rfl; omega) (by decide) ?_
  refine lv_iconst (v := (-1)) hx hb dX7_classOf_70 (by decide) ?_
  exact r_iretP hQ h hw dX7_classOf_71
