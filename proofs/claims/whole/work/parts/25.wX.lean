abbrev rmX3_read : Room := { frames := 5, cells := 0, slots := 0, locals := 124 }
theorem hiX3_read_X3 : ∀ w ∈ wsX30, w ∈ wsX3_read := by decide +kernel
set_option maxHeartbeats 4000000 in
set_option maxRecDepth 100000 in
theorem c_X3_read (l : Launch) (D : va_G) (cI cZ : ClassId) (z : Nat → Nat) (base : Nat) (a : Nat → Nat) (u0 : St) (uo : St) (h : F_X3_read u0 = some uo) : MV l D [(cI, .int), (cZ, .boolean)] z base yX3_read wsX3_read rmX3_read [.ref (a 4), .ref (a 2), .ref (a 3)] (XW cI cZ a u0) (XW cI cZ a uo) := by
  refine MV.of (own := RX3) (cc := cX3_read) (maxL := 4) (by decide) rfl rfl (Nat.le_of_ble_eq_true rfl) ?_
  intro p e s m args below meth c A Q ls C hl hw hQ
  have hx := C.1.1
  have hb := C.1.2.1
  have J81 : ∀ (u0 : St) (H : Heap) (locs : List Loc) (ls : Array Slot), F_X3_read_81 u0 = some uo → Wd D A s.heap H locs (XW cI cZ a u0) → lv_has ls 4 [(0, .ref (a 4)), (1, .ref (a 2))] → W p l e rmX3_read s m args below meth c H locs 0 0 Q (F0 m 81 ls []) := by
    intro u0 H locs ls h hw hl
    rw [F_X3_read_81] at h
    refine lv_aload_n hx hb dX3_read_81 rfl (lv_at hl 0 rfl) ?_
    refine lv_aload_n hx hb dX3_read_82 rfl (lv_at hl 1 rfl) ?_
    obtain ⟨u2, h1, h⟩ := b1E h
    refine r_callVv (rest := []) C hw (c_X3_readFirst l D cI cZ z base a u0 u2 h1) (cwV 1 C.1.2.2.2.2 gX3_read_X3_readFirst rfl rfl rfl (by decide +kernel) ⟨Nat.le_of_ble_eq_true rfl, Nat.le_of_ble_eq_true rfl⟩) (va_recv C.2.1 hw.1 (ci := 3) (q0 := 4) rfl (XWa_4 cI cZ a u0)) rfl hl.1 rfl (Nat.le_of_ble_eq_true rfl) dX3_read_83 ⟨Nat.zero_le _, Nat.zero_le _⟩ (fun H locs hw => ?_)
    exact r_vret (f := XW cI cZ a) hQ h hw dX3_read_86
  have J21 : ∀ n21 : Nat, ∀ (x3 : Int32) (u0 : St) (H : Heap) (locs : List Loc) (ls : Array Slot), F_X3_read_21 n21 x3 u0 = some uo → Wd D A s.heap H locs (XW cI cZ a u0) → lv_has ls 4 [(0, .ref (a 4)), (1, .ref (a 2)), (2, .ref (a 3)), (3, .int x3)] → W p l e rmX3_read s m args below meth c H locs 0 0 Q (F0 m 21 ls []) := by
    intro n21
    induction n21 with
    | zero => intro x3 u0 H locs ls h; rw [F_X3_read_21] at h; cases h
    | succ n21 ih21 =>
      intro x3 u0 H locs ls h hw hl
      rw [F_X3_read_21] at h
      refine lv_iload_n hx hb dX3_read_21 rfl (lv_at hl 3 rfl) ?_
      refine lv_aload_n hx hb dX3_read_22 rfl (lv_at hl 0 rfl) ?_
      refine r_get C hw hiX3_read_X3 4 (XWa_4 cI cZ a u0) rfl 0 (by decide) (by decide +kernel) rfl dX3_read_23 ?_
      refine lv_icmp_ge (tgt := 81) hx hb dX3_read_26 (by decide) (fun c1 => ?_) (fun c1 => ?_)
      · have h := itT c1 h
        exact J81 u0 _ _ _ h hw (lv_sub hl [0, 1] rfl)
      · have h := itF c1 h
        refine lv_aload_n hx hb dX3_read_29 rfl (lv_at hl 1 rfl) ?_
        obtain ⟨r3, h2, h⟩ := b1E h
        refine r_callV (rest := []) C hw (c_X5_stopped l D cI cZ z base a u0 r3 h2) (cwV 0 C.1.2.2.2.2 gX3_read_X5_stopped rfl rfl rfl (by decide +kernel) ⟨Nat.le_of_ble_eq_true rfl, Nat.le_of_ble_eq_true rfl⟩) (va_recv C.2.1 hw.1 (ci := 4) (q0 := 2) rfl (XWa_2 cI cZ a u0)) rfl hl.1 rfl (Nat.le_of_ble_eq_true rfl) dX3_read_30 ⟨Nat.zero_le _, Nat.zero_le _⟩ (fun H locs hw => ?_)
        refine lv_if_ne (tgt := 81) hx hb dX3_read_33 (by decide) (fun c4 => ?_) (fun c4 => ?_)
        · have h := itF c4 h
          exact J81 u0 _ _ _ h hw (lv_sub hl [0, 1] rfl)
        · have h := itT c4 h
          refine lv_aload_n hx hb dX3_read_36 rfl (lv_at hl 0 rfl) ?_
          refine lv_aload_n hx hb dX3_read_37 rfl (lv_at hl 1 rfl) ?_
          refine lv_aload_n hx hb dX3_read_38 rfl (lv_at hl 2 rfl) ?_
          obtain ⟨r6, h5, h⟩ := b1E h
          refine r_callV (rest := [.ref (a 2), .ref (a 4)]) C hw (c_X0_size l D cI cZ z base a u0 r6 h5) (cwV 0 C.1.2.2.2.2 gX3_read_X0_size rfl rfl rfl (by decide +kernel) ⟨Nat.le_of_ble_eq_true rfl, Nat.le_of_ble_eq_true rfl⟩) (va_recv C.2.1 hw.1 (ci := 0) (q0 := 3) rfl (XWa_3 cI cZ a u0)) rfl hl.1 rfl (Nat.le_of_ble_eq_true rfl) dX3_read_39 ⟨Nat.zero_le _, Nat.zero_le _⟩ (fun H locs hw => ?_)
          refine lv_iload_n hx hb dX3_read_42 rfl (lv_at hl 3 rfl) ?_
          obtain ⟨u8, h7, h⟩ := b1E h
          refine r_callVv (rest := []) C hw (c_X3_readHead l D cI cZ z base a r6 x3 u0 u8 h7) (cwV 3 C.1.2.2.2.2 gX3_read_X3_readHead rfl rfl rfl (by decide +kernel) ⟨Nat.le_of_ble_eq_true rfl, Nat.le_of_ble_eq_true rfl⟩) (va_recv C.2.1 hw.1 (ci := 3) (q0 := 4) rfl (XWa_4 cI cZ a u0)) rfl hl.1 rfl (Nat.le_of_ble_eq_true rfl) dX3_read_43 ⟨Nat.zero_le _, Nat.zero_le _⟩ (fun H locs hw => ?_)
          refine lv_aload_n hx hb dX3_read_46 rfl (lv_at hl 0 rfl) ?_
          refine r_get C hw hiX3_read_X3 4 (XWa_4 cI cZ a u8) rfl 8 (by decide) (by decide +kernel) rfl dX3_read_47 ?_
          refine lv_aload_n hx hb dX3_read_50 rfl (lv_at hl 1 rfl) ?_
          refine lv_aload_n hx hb dX3_read_51 rfl (lv_at hl 2 rfl) ?_
          refine lv_iload_n hx hb dX3_read_52 rfl (lv_at hl 3 rfl) ?_
          refine lv_aload_n hx hb dX3_read_53 rfl (lv_at hl 0 rfl) ?_
          refine r_get C hw hiX3_read_X3 4 (XWa_4 cI cZ a u8) rfl 6 (by decide) (by decide +kernel) rfl dX3_read_54 ?_
          refine lv_iload_n hx hb dX3_read_57 rfl (lv_at hl 3 rfl) ?_
          obtain ⟨g9, h⟩ := ixE h
          refine r_ald C hw 19 0 (XWa_19 cI cZ a u8) rfl g9 dX3_read_58 ?_
          obtain ⟨u11, h10, h⟩ := b1E h
          refine r_callVv (rest := []) C hw (c_X1_read l D cI cZ z base a x3 (u8 19 (x3).toNatClampNeg) u8 u11 h10) (cwV 4 C.1.2.2.2.2 gX3_read_X1_read rfl rfl rfl (by decide +kernel) ⟨Nat.le_of_ble_eq_true rfl, Nat.le_of_ble_eq_true rfl⟩) (va_recv C.2.1 hw.1 (ci := 1) (q0 := 5) rfl (XWa_5 cI cZ a u8)) rfl hl.1 rfl (Nat.le_of_ble_eq_true rfl) dX3_read_59 ⟨Nat.zero_le _, Nat.zero_le _⟩ (fun H locs hw => ?_)
          refine lv_aload_n hx hb dX3_read_62 rfl (lv_at hl 0 rfl) ?_
          refine r_get C hw hiX3_read_X3 4 (XWa_4 cI cZ a u11) rfl 9 (by decide) (by decide +kernel) rfl dX3_read_63 ?_
          refine lv_aload_n hx hb dX3_read_66 rfl (lv_at hl 1 rfl) ?_
          refine lv_aload_n hx hb dX3_read_67 rfl (lv_at hl 2 rfl) ?_
          obtain ⟨r13, h12, h⟩ := b1E h
          refine r_callV (rest := [.ref (a 2), .ref (a 6)]) C hw (c_X0_size l D cI cZ z base a u11 r13 h12) (cwV 0 C.1.2.2.2.2 gX3_read_X0_size rfl rfl rfl (by decide +kernel) ⟨Nat.le_of_ble_eq_true rfl, Nat.le_of_ble_eq_true rfl⟩) (va_recv C.2.1 hw.1 (ci := 0) (q0 := 3) rfl (XWa_3 cI cZ a u11)) rfl hl.1 rfl (Nat.le_of_ble_eq_true rfl) dX3_read_68 ⟨Nat.zero_le _, Nat.zero_le _⟩ (fun H locs hw => ?_)
          refine lv_iload_n hx hb dX3_read_71 rfl (lv_at hl 3 rfl) ?_
          obtain ⟨u15, h14, h⟩ := b1E h
          refine r_callVv (rest := []) C hw (c_X2_read l D cI cZ z base a r13 x3 u11 u15 h14) (cwV 3 C.1.2.2.2.2 gX3_read_X2_read rfl rfl rfl (by decide +kernel) ⟨Nat.le_of_ble_eq_true rfl, Nat.le_of_ble_eq_true rfl⟩) (va_recv C.2.1 hw.1 (ci := 2) (q0 := 6) rfl (XWa_6 cI cZ a u11)) rfl hl.1 rfl (Nat.le_of_ble_eq_true rfl) dX3_read_72 ⟨Nat.zero_le _, Nat.zero_le _⟩ (fun H locs hw => ?_)
          obtain ⟨v16, ev16⟩ : ∃ y : Int32, y = x3 + 1 := ⟨_, rfl⟩
          have h := nmE ev16 h
          refine lv_iinc (v := v16) (lv' := [(3, .int v16), (0, .ref (a 4)), (1, .ref (a 2)), (2, .ref (a 3))]) hx hb dX3_read_75 hl (k := 3) rfl (by rw [ev16]; rfl) (by decide) rfl (fun ls hl => ?_)
          refine lv_goto (tgt := 21) hx hb dX3_read_78 (by decide) ?_
          exact ih21 v16 u15 _ _ _ h hw (lv_sub hl [1, 2, 3, 0] rfl)
  have hl : lv_has ls 4 [(0, .ref (a 4)), (1, .ref (a 2)), (2, .ref (a 3))] := hl
  rw [F_X3_read] at h
  refine lv_aload_n hx hb dX3_read_0 rfl (lv_at hl 0 rfl) ?_
  obtain ⟨u2, h1, h⟩ := b1E h
  refine r_callVv (rest := []) C hw (c_X3_clear l D cI cZ z base a u0 u2 h1) (cwV 0 C.1.2.2.2.2 gX3_read_X3_clear rfl rfl rfl (by decide +kernel) ⟨Nat.le_of_ble_eq_true rfl, Nat.le_of_ble_eq_true rfl⟩) (va_recv C.2.1 hw.1 (ci := 3) (q0 := 4) rfl (XWa_4 cI cZ a u0)) rfl hl.1 rfl (Nat.le_of_ble_eq_true rfl) dX3_read_1 ⟨Nat.zero_le _, Nat.zero_le _⟩ (fun H locs hw => ?_)
  refine lv_aload_n hx hb dX3_read_4 rfl (lv_at hl 0 rfl) ?_
  refine lv_aload_n hx hb dX3_read_5 rfl (lv_at hl 1 rfl) ?_
  refine lv_iconst (v := 1) hx hb dX3_read_6 (by decide) ?_
  refine lv_bipush (v := 64) hx hb dX3_read_7 (by decide) ?_
  obtain ⟨r4, u5, h3, h⟩ := b2E h
  refine r_callV (rest := [.ref (a 4)]) C hw (c_X5_number l D cI cZ z base a 1 64 u2 r4 u5 h3) (cwV 2 C.1.2.2.2.2 gX3_read_X5_number rfl rfl rfl (by decide +kernel) ⟨Nat.le_of_ble_eq_true rfl, Nat.le_of_ble_eq_true rfl⟩) (va_recv C.2.1 hw.1 (ci := 4) (q0 := 2) rfl (XWa_2 cI cZ a u2)) rfl hl.1 rfl (Nat.le_of_ble_eq_true rfl) dX3_read_9 ⟨Nat.zero_le _, Nat.zero_le _⟩ (fun H locs hw => ?_)
  refine lv_iconst (v := 0) hx hb dX3_read_12 (by decide) ?_
  refine r_max C hl.1 (by decide +kernel) (by decide +kernel) (by decide +kernel) (by decide +kernel) (Nat.le_of_ble_eq_true rfl) (Nat.le_of_ble_eq_true rfl) (Nat.zero_le _) (Nat.zero_le _) dX3_read_13 ?_
  obtain ⟨u6, eu6⟩ : ∃ y : St, y = st u5 4 0 (if r4 < 0 then 0 else r4) := ⟨_, rfl⟩
  have h := nmE eu6 h
  refine r_put (ws' := (XW cI cZ a u6)) C hw hiX3_read_X3 tyX3 tyX3_ok nmX3 4 (XWa_4 cI cZ a u5) rfl 0 (by decide) (by decide +kernel) rfl (ty := .int) (by decide +kernel) rfl rfl (Nat.le_of_ble_eq_true rfl) (by rw [eu6]; exact XWs_4_0 cI cZ a u5 (if r4 < 0 then 0 else r4)) dX3_read_16 (fun H locs hw => ?_)
  refine lv_iconst (v := 0) hx hb dX3_read_19 (by decide) ?_
  refine lv_istore_n (lv' := [(3, .int 0), (0, .ref (a 4)), (1, .ref (a 2)), (2, .ref (a 3))]) hx hb dX3_read_20 rfl hl (by decide) rfl (fun ls hl => ?_)
  exact J21 fu 0 u6 _ _ _ h hw (lv_sub hl [1, 2, 3, 0] rfl)
abbrev rmX5_close : Room := { frames := 0, cells := 0, slots := 0, locals := 0 }
theorem hiX5_close_X5 : ∀ w ∈ wsX50, w ∈ wsX5_close := by decide +kernel
set_option maxHeartbeats 4000000 in
set_option maxRecDepth 100000 in
theorem c_X5_close (l : Launch) (D : va_G) (cI cZ : ClassId) (z : Nat → Nat) (base : Nat) (a : Nat → Nat) (u0 : St) (uo : St) (h : F_X5_close u0 = some uo) : MV l D [(cI, .int), (cZ, .boolean)] z base yX5_close wsX5_close rmX5_close [.ref (a 2)] (XW cI cZ a u0) (XW cI cZ a uo) := by
  refine MV.of (own := RX5) (cc := cX5_close) (maxL := 1) (by decide) rfl rfl (Nat.le_of_ble_eq_true rfl) ?_
  intro p e s m args below meth c A Q ls C hl hw hQ
  have hx := C.1.1
  have hb := C.1.2.1
  have hl : lv_has ls 1 [(0, .ref (a 2))] := hl
  rw [F_X5_close] at h
  refine lv_aload_n hx hb dX5_close_0 rfl (lv_at hl 0 rfl) ?_
  refine r_get C hw hiX5_close_X5 2 (XWa_2 cI cZ a u0) rfl 2 (by decide) (by decide +kernel) rfl dX5_close_1 ?_
  refine lv_aload_n hx hb dX5_close_4 rfl (lv_at hl 0 rfl) ?_
  refine r_get C hw hiX5_close_X5 2 (XWa_2 cI cZ a u0) rfl 1 (by decide) (by decide +kernel) rfl dX5_close_5 ?_
  refine lv_icmp_ge (tgt := 16) hx hb dX5_close_8 (by decide) (fun c1 => ?_) (fun c1 => ?_)
  · have h := itT c1 h
    exact r_vret (f := XW cI cZ a) hQ h hw dX5_close_16
  · have h := itF c1 h
    refine lv_aload_n hx hb dX5_close_11 rfl (lv_at hl 0 rfl) ?_
    refine lv_iconst (v := 1) hx hb dX5_close_12 (by decide) ?_
    obtain ⟨u2, eu2⟩ : ∃ y : St, y = st u0 2 3 1 := ⟨_, rfl⟩
    have h := nmE eu2 h
    refine r_put (ws' := (XW cI cZ a u2)) C hw hiX5_close_X5 tyX5 tyX5_ok nmX5 2 (XWa_2 cI cZ a u0) rfl 3 (by decide) (by decide +kernel) rfl (ty := .boolean) (by decide +kernel) rfl rfl (Nat.le_of_ble_eq_true rfl) (by rw [eu2]; exact XWs_2_3 cI cZ a u0 1) dX5_close_13 (fun H locs hw => ?_)
    exact r_vret (f := XW cI cZ a) hQ h hw dX5_close_16
abbrev rmX0_slotPlace : Room := { frames := 1, cells := 0, slots := 0, locals := 21 }
theorem hiX0_slotPlace_X0 : ∀ w ∈ wsX00, w ∈ wsX0_slotPlace := by decide +kernel
set_option maxHeartbeats 4000000 in
set_option maxRecDepth 100000 in
theorem c_X0_slotPlace (l : Launch) (D : va_G) (cI cZ : ClassId) (z : Nat → Nat) (base : Nat) (a : Nat → Nat) (x1 : Int32) (x2 : Int32) (u0 : St) (ro : Int32) (h : F_X0_slotPlace x1 x2 u0 = some ro) : MI l D [(cI, .int), (cZ, .boolean)] z base yX0_slotPlace wsX0_slotPlace rmX0_slotPlace [.ref (a 3), .int x1, .int x2] (XW cI cZ a u0) ro (XW cI cZ a u0) := by
  refine MI.ofI (own := RX0) (cc := cX0_slotPlace) (maxL := 3) (by decide) rfl rfl (Nat.le_of_ble_eq_true rfl) ?_
  intro p e s m args below meth c A Q ls C hl hw hQ
  have hx := C.1.1
  have hb := C.1.2.1
  have hl : lv_has ls 3 [(0, .ref (a 3)), (1, .int x1), (2, .int x2)] := hl
  rw [F_X0_slotPlace] at h
  refine lv_aload_n hx hb dX0_slotPlace_0 rfl (lv_at hl 0 rfl) ?_
  refine lv_iload_n hx hb dX0_slotPlace_1 rfl (lv_at hl 1 rfl) ?_
  obtain ⟨r2, h1, h⟩ := b1E h
  refine r_callV (rest := []) C hw (c_X0_has l D cI cZ z base a x1 u0 r2 h1) (cwV 1 C.1.2.2.2.2 gX0_slotPlace_X0_has rfl rfl rfl (by decide +kernel) ⟨Nat.le_of_ble_eq_true rfl, Nat.le_of_ble_eq_true rfl⟩) (va_recv C.2.1 hw.1 (ci := 0) (q0 := 3) rfl (XWa_3 cI cZ a u0)) rfl hl.1 rfl (Nat.le_of_ble_eq_true rfl) dX0_slotPlace_2 ⟨Nat.zero_le _, Nat.zero_le _⟩ (fun H locs hw => ?_)
  refine lv_if_eq (tgt := 32) hx hb dX0_slotPlace_5 (by decide) (fun c3 => ?_) (fun c3 => ?_)
  · have h := itT c3 h
    refine lv_iconst (v := (-1)) hx hb dX0_slotPlace_32 (by decide) ?_
    exact r_iretP hQ h hw dX0_slotPlace_33
  · have h := itF c3 h
    refine lv_iload_n hx hb dX0_slotPlace_8 rfl (lv_at hl 2 rfl) ?_
    refine lv_if_lt (tgt := 32) hx hb dX0_slotPlace_9 (by decide) (fun c4 => ?_) (fun c4 => ?_)
    · have h := itT c4 h
      refine lv_iconst (v := (-1)) hx hb dX0_slotPlace_32 (by decide) ?_
      exact r_iretP hQ h hw dX0_slotPlace_33
    · have h := itF c4 h
      refine lv_iload_n hx hb dX0_slotPlace_12 rfl (lv_at hl 2 rfl) ?_
      refine lv_bipush (v := 16) hx hb dX0_slotPlace_13 (by decide) ?_
      refine lv_icmp_ge (tgt := 32) hx hb dX0_slotPlace_15 (by decide) (fun c5 => ?_) (fun c5 => ?_)
      · have h := itT c5 h
        refine lv_iconst (v := (-1)) hx hb dX0_slotPlace_32 (by decide) ?_
        exact r_iretP hQ h hw dX0_slotPlace_33
      · have h := itF c5 h
        refine lv_aload_n hx hb dX0_slotPlace_18 rfl (lv_at hl 0 rfl) ?_
        refine r_get C hw hiX0_slotPlace_X0 3 (XWa_3 cI cZ a u0) rfl 5 (by decide) (by decide +kernel) rfl dX0_slotPlace_19 ?_
        refine lv_iload_n hx hb dX0_slotPlace_22 rfl (lv_at hl 1 rfl) ?_
        refine lv_bipush (v := 16) hx hb dX0_slotPlace_23 (by decide) ?_
        refine lv_imul hx hb dX0_slotPlace_25 ?_
        refine lv_iload_n hx hb dX0_slotPlace_26 rfl (lv_at hl 2 rfl) ?_
        refine lv_iadd hx hb dX0_slotPlace_27 ?_
        obtain ⟨g6, h⟩ := ixE h
        refine r_ald C hw 13 0 (XWa_13 cI cZ a u0) rfl g6 dX0_slotPlace_28 ?_
        refine lv_goto (tgt := 33) hx hb dX0_slotPlace_29 (by decide) ?_
        exact r_iretP hQ h hw dX0_slotPlace_33
abbrev rmX0_upper : Room := { frames := 1, cells := 0, slots := 0, locals := 21 }
theorem hiX0_upper_X0 : ∀ w ∈ wsX00, w ∈ wsX0_upper := by decide +kernel
set_option maxHeartbeats 4000000 in
set_option maxRecDepth 100000 in
theorem c_X0_upper (l : Launch) (D : va_G) (cI cZ : ClassId) (z : Nat → Nat) (base : Nat) (a : Nat → Nat) (x1 : Int32) (u0 : St) (ro : Int32) (h : F_X0_upper x1 u0 = some ro) : MI l D [(cI, .int), (cZ, .boolean)] z base yX0_upper wsX0_upper rmX0_upper [.ref (a 3), .int x1] (XW cI cZ a u0) ro (XW cI cZ a u0) := by
  refine MI.ofI (own := RX0) (cc := cX0_upper) (maxL := 2) (by decide) rfl rfl (Nat.le_of_ble_eq_true rfl) ?_
  intro p e s m args below meth c A Q ls C hl hw hQ
  have hx := C.1.1
  have hb := C.1.2.1
  have hl : lv_has ls 2 [(0, .ref (a 3)), (1, .int x1)] := hl
  rw [F_X0_upper] at h
  refine lv_aload_n hx hb dX0_upper_0 rfl (lv_at hl 0 rfl) ?_
  refine lv_iload_n hx hb dX0_upper_1 rfl (lv_at hl 1 rfl) ?_
  obtain ⟨r2, h1, h⟩ := b1E h
  refine r_callV (rest := []) C hw (c_X0_has l D cI cZ z base a x1 u0 r2 h1) (cwV 1 C.1.2.2.2.2 gX0_upper_X0_has rfl rfl rfl (by decide +kernel) ⟨Nat.le_of_ble_eq_true rfl, Nat.le_of_ble_eq_true rfl⟩) (va_recv C.2.1 hw.1 (ci := 0) (q0 := 3) rfl (XWa_3 cI cZ a u0)) rfl hl.1 rfl (Nat.le_of_ble_eq_true rfl) dX0_upper_2 ⟨Nat.zero_le _, Nat.zero_le _⟩ (fun H locs hw => ?_)
  refine lv_if_eq (tgt := 17) hx hb dX0_upper_5 (by decide) (fun c3 => ?_) (fun c3 => ?_)
  · have h := itT c3 h
    refine lv_iconst (v := (-1)) hx hb dX0_upper_17 (by decide) ?_
    exact r_iretP hQ h hw dX0_upper_18
  · have h := itF c3 h
    refine lv_aload_n hx hb dX0_upper_8 rfl (lv_at hl 0 rfl) ?_
    refine r_get C hw hiX0_upper_X0 3 (XWa_3 cI cZ a u0) rfl 1 (by decide) (by decide +kernel) rfl dX0_upper_9 ?_
    refine lv_iload_n hx hb dX0_upper_12 rfl (lv_at hl 1 rfl) ?_
    obtain ⟨g4, h⟩ := ixE h
    refine r_ald C hw 9 0 (XWa_9 cI cZ a u0) rfl g4 dX0_upper_13 ?_
    refine lv_goto (tgt := 18) hx hb dX0_upper_14 (by decide) ?_
    exact r_iretP hQ h hw dX0_upper_18
abbrev rmX3_parameterType : Room := { frames := 0, cells := 0, slots := 0, locals := 0 }
theorem hiX3_parameterType_X3 : ∀ w ∈ wsX30, w ∈ wsX3_parameterType := by decide +kernel
set_option maxHeartbeats 4000000 in
set_option maxRecDepth 100000 in
theorem c_X3_parameterType (l : Launch) (D : va_G) (cI cZ : ClassId) (z : Nat → Nat) (base : Nat) (a : Nat → Nat) (x1 : Int32) (x2 : Int32) (u0 : St) (ro : Int32) (h : F_X3_parameterType x1 x2 u0 = some ro) : MI l D [(cI, .int), (cZ, .boolean)] z base yX3_parameterType wsX3_parameterType rmX3_parameterType [.ref (a 4), .int x1, .int x2] (XW cI cZ a u0) ro (XW cI cZ a u0) := by
  refine MI.ofI (own := RX3) (cc := cX3_parameterType) (maxL := 3) (by decide) rfl rfl (Nat.le_of_ble_eq_true rfl) ?_
  intro p e s m args below meth c A Q ls C hl hw hQ
  have hx := C.1.1
  have hb := C.1.2.1
  have hl : lv_has ls 3 [(0, .ref (a 4)), (1, .int x1), (2, .int x2)] := hl
  rw [F_X3_parameterType] at h
  refine lv_iload_n hx hb dX3_parameterType_0 rfl (lv_at hl 2 rfl) ?_
  refine lv_if_lt (tgt := 34) hx hb dX3_parameterType_1 (by decide) (fun c1 => ?_) (fun c1 => ?_)
  · have h := itT c1 h
    refine lv_iconst (v := (-1)) hx hb dX3_parameterType_34 (by decide) ?_
    exact r_iretP hQ h hw dX3_parameterType_35
  · have h := itF c1 h
    refine lv_iload_n hx hb dX3_parameterType_4 rfl (lv_at hl 2 rfl) ?_
    refine lv_aload_n hx hb dX3_parameterType_5 rfl (lv_at hl 0 rfl) ?_
    refine r_get C hw hiX3_parameterType_X3 4 (XWa_4 cI cZ a u0) rfl 3 (by decide) (by decide +kernel) rfl dX3_parameterType_6 ?_
    refine lv_iload_n hx hb dX3_parameterType_9 rfl (lv_at hl 1 rfl) ?_
    obtain ⟨g2, h⟩ := ixE h
    refine r_ald C hw 16 0 (XWa_16 cI cZ a u0) rfl g2 dX3_parameterType_10 ?_
    refine lv_icmp_ge (tgt := 34) hx hb dX3_parameterType_11 (by decide) (fun c3 => ?_) (fun c3 => ?_)
    · have h := itT c3 h
      refine lv_iconst (v := (-1)) hx hb dX3_parameterType_34 (by decide) ?_
      exact r_iretP hQ h hw dX3_parameterType_35
    · have h := itF c3 h
      refine lv_iload_n hx hb dX3_parameterType_14 rfl (lv_at hl 2 rfl) ?_
      refine lv_bipush (v := 8) hx hb dX3_parameterType_15 (by decide) ?_
      refine lv_icmp_ge (tgt := 34) hx hb dX3_parameterType_17 (by decide) (fun c4 => ?_) (fun c4 => ?_)
      · have h := itT c4 h
        refine lv_iconst (v := (-1)) hx hb dX3_parameterType_34 (by decide) ?_
        exact r_iretP hQ h hw dX3_parameterType_35
      · have h := itF c4 h
        refine lv_aload_n hx hb dX3_parameterType_20 rfl (lv_at hl 0 rfl) ?_
        refine r_get C hw hiX3_parameterType_X3 4 (XWa_4 cI cZ a u0) rfl 4 (by decide) (by decide +kernel) rfl dX3_parameterType_21 ?_
        refine lv_iload_n hx hb dX3_parameterType_24 rfl (lv_at hl 1 rfl) ?_
        refine lv_bipush (v := 8) hx hb dX3_parameterType_25 (by decide) ?_
        refine lv_imul hx hb dX3_parameterType_27 ?_
        refine lv_iload_n hx hb dX3_parameterType_28 rfl (lv_at hl 2 rfl) ?_
        refine lv_iadd hx hb dX3_parameterType_29 ?_
        obtain ⟨g5, h⟩ := ixE h
        refine r_ald C hw 17 0 (XWa_17 cI cZ a u0) rfl g5 dX3_parameterType_30 ?_
        refine lv_goto (tgt := 35) hx hb dX3_parameterType_31 (by decide) ?_
        exact r_iretP hQ h hw dX3_parameterType_35
abbrev rmX3_standsFor : Room := { frames := 1, cells := 0, slots := 0, locals := 22 }
theorem hiX3_standsFor_X3 : ∀ w ∈ wsX30, w ∈ wsX3_standsFor := by decide +kernel
set_option maxHeartbeats 4000000 in
set_option maxRecDepth 100000 in
theorem c_X3_standsFor (l : Launch) (D : va_G) (cI cZ : ClassId) (z : Nat → Nat) (base : Nat) (a : Nat → Nat) (x1 : Int32) (x2 : Int32) (u0 : St) (ro : Int32) (h : F_X3_standsFor x1 x2 u0 = some ro) : MI l D [(cI, .int), (cZ, .boolean)] z base yX3_standsFor wsX3_standsFor rmX3_standsFor [.ref (a 4), .int x1, .int x2] (XW cI cZ a u0) ro (XW cI cZ a u0) := by
  refine MI.ofZ (own := RX3) (cc := cX3_standsFor) (maxL := 4) (by decide) rfl rfl (Nat.le_of_ble_eq_true rfl) ?_
  intro p e s m args below meth c A Q ls C hl hw hQ
  have hx := C.1.1
  have hb := C.1.2.1
  have J50 : ∀ n50 : Nat, ∀ (x1 x2 x3 : Int32) (H : Heap) (locs : List Loc) (ls : Array Slot), F_X3_standsFor_50 n50 x1 x2 x3 u0 = some ro → Wd D A s.heap H locs (XW cI cZ a u0) → lv_has ls 4 [(0, .ref (a 4)), (1, .int x1), (2, .int x2), (3, .int x3)] → W p l e rmX3_standsFor s m args below meth c H locs 0 0 Q (F0 m 50 ls []) := by
    intro n50
    induction n50 with
    | zero => intro x1 x2 x3 H locs ls h; rw [F_X3_standsFor_50] at h; cases h
    | succ n50 ih50 =>
      intro x1 x2 x3 H locs ls h hw hl
      rw [F_X3_standsFor_50] at h
      refine lv_iload_n hx hb dX3_standsFor_50 rfl (lv_at hl 3 rfl) ?_
      refine lv_aload_n hx hb dX3_standsFor_51 rfl (lv_at hl 0 rfl) ?_
      refine r_get C hw hiX3_standsFor_X3 4 (XWa_4 cI cZ a u0) rfl 3 (by decide) (by decide +kernel) rfl dX3_standsFor_52 ?_
      refine lv_iload_n hx hb dX3_standsFor_55 rfl (lv_at hl 1 rfl) ?_
      obtain ⟨g1, h⟩ := ixE h
      refine r_ald C hw 16 0 (XWa_16 cI cZ a u0) rfl g1 dX3_standsFor_56 ?_
      refine lv_icmp_ge (tgt := 83) hx hb dX3_standsFor_57 (by decide) (fun c2 => ?_) (fun c2 => ?_)
      · have h := itT c2 h
        refine lv_iconst (v := 1) hx hb dX3_standsFor_83 (by decide) ?_
        exact r_zretP hQ (by decide) h hw dX3_standsFor_84
      · have h := itF c2 h
        refine lv_aload_n hx hb dX3_standsFor_60 rfl (lv_at hl 0 rfl) ?_
        refine lv_iload_n hx hb dX3_standsFor_61 rfl (lv_at hl 1 rfl) ?_
        refine lv_iload_n hx hb dX3_standsFor_62 rfl (lv_at hl 3 rfl) ?_
        obtain ⟨r4, h3, h⟩ := b1E h
        refine r_callV (rest := []) C hw (c_X3_parameterType l D cI cZ z base a x1 x3 u0 r4 h3) (cwV 2 C.1.2.2.2.2 gX3_standsFor_X3_parameterType rfl rfl rfl (by decide +kernel) ⟨Nat.le_of_ble_eq_true rfl, Nat.le_of_ble_eq_true rfl⟩) (va_recv C.2.1 hw.1 (ci := 3) (q0 := 4) rfl (XWa_4 cI cZ a u0)) rfl hl.1 rfl (Nat.le_of_ble_eq_true rfl) dX3_standsFor_63 ⟨Nat.zero_le _, Nat.zero_le _⟩ (fun H locs hw => ?_)
        refine lv_aload_n hx hb dX3_standsFor_66 rfl (lv_at hl 0 rfl) ?_
        refine lv_iload_n hx hb dX3_standsFor_67 rfl (lv_at hl 2 rfl) ?_
        refine lv_iload_n hx hb dX3_standsFor_68 rfl (lv_at hl 3 rfl) ?_
        obtain ⟨r6, h5, h⟩ := b1E h
        refine r_callV (rest := [.int r4]) C hw (c_X3_parameterType l D cI cZ z base a x2 x3 u0 r6 h5) (cwV 2 C.1.2.2.2.2 gX3_standsFor_X3_parameterType rfl rfl rfl (by decide +kernel) ⟨Nat.le_of_ble_eq_true rfl, Nat.le_of_ble_eq_true rfl⟩) (va_recv C.2.1 hw.1 (ci := 3) (q0 := 4) rfl (XWa_4 cI cZ a u0)) rfl hl.1 rfl (Nat.le_of_ble_eq_true rfl) dX3_standsFor_69 ⟨Nat.zero_le _, Nat.zero_le _⟩ (fun H locs hw => ?_)
        refine lv_icmp_eq (tgt := 77) hx hb dX3_standsFor_72 (by decide) (fun c7 => ?_) (fun c7 => ?_)
        · have h := itT c7 h
          obtain ⟨v8, ev8⟩ : ∃ y : Int32, y = x3 + 1 := ⟨_, rfl⟩
          have h := nmE ev8 h
          refine lv_iinc (v := v8) (lv' := [(3, .int v8), (0, .ref (a 4)), (1, .int x1), (2, .int x2)]) hx hb dX3_standsFor_77 hl (k := 3) rfl (by rw [ev8]; rfl) (by decide) rfl (fun ls hl => ?_)
          refine lv_goto (tgt := 50) hx hb dX3_standsFor_80 (by decide) ?_
          exact ih50 x1 x2 v8 _ _ _ h hw (lv_sub hl [1, 2, 3, 0] rfl)
        · have h := itF c7 h
          refine lv_iconst (v := 0) hx hb dX3_standsFor_75 (by decide) ?_
          exact r_zretP hQ (by decide) h hw dX3_standsFor_76
  have hl : lv_has ls 4 [(0, .ref (a 4)), (1, .int x1), (2, .int x2)] := hl
  rw [F_X3_standsFor] at h
  refine lv_aload_n hx hb dX3_standsFor_0 rfl (lv_at hl 0 rfl) ?_
  refine lv_iload_n hx hb dX3_standsFor_1 rfl (lv_at hl 1 rfl) ?_
  obtain ⟨r2, h1, h⟩ := b1E h
  refine r_callV (rest := []) C hw (c_X3_has l D cI cZ z base a x1 u0 r2 h1) (cwV 1 C.1.2.2.2.2 gX3_standsFor_X3_has rfl rfl rfl (by decide +kernel) ⟨Nat.le_of_ble_eq_true rfl, Nat.le_of_ble_eq_true rfl⟩) (va_recv C.2.1 hw.1 (ci := 3) (q0 := 4) rfl (XWa_4 cI cZ a u0)) rfl hl.1 rfl (Nat.le_of_ble_eq_true rfl) dX3_standsFor_2 ⟨Nat.zero_le _, Nat.zero_le _⟩ (fun H locs hw => ?_)
  refine lv_if_eq (tgt := 46) hx hb dX3_standsFor_5 (by decide) (fun c3 => ?_) (fun c3 => ?_)
  · have h := itT c3 h
    refine lv_iconst (v := 0) hx hb dX3_standsFor_46 (by decide) ?_
    exact r_zretP hQ (by decide) h hw dX3_standsFor_47
  · have h := itF c3 h
    refine lv_aload_n hx hb dX3_standsFor_8 rfl (lv_at hl 0 rfl) ?_
    refine lv_iload_n hx hb dX3_standsFor_9 rfl (lv_at hl 2 rfl) ?_
    obtain ⟨r5, h4, h⟩ := b1E h
    refine r_callV (rest := []) C hw (c_X3_has l D cI cZ z base a x2 u0 r5 h4) (cwV 1 C.1.2.2.2.2 gX3_standsFor_X3_has rfl rfl rfl (by decide +kernel) ⟨Nat.le_of_ble_eq_true rfl, Nat.le_of_ble_eq_true rfl⟩) (va_recv C.2.1 hw.1 (ci := 3) (q0 := 4) rfl (XWa_4 cI cZ a u0)) rfl hl.1 rfl (Nat.le_of_ble_eq_true rfl) dX3_standsFor_10 ⟨Nat.zero_le _, Nat.zero_le _⟩ (fun H locs hw => ?_)
    refine lv_if_eq (tgt := 46) hx hb dX3_standsFor_13 (by decide) (fun c6 => ?_) (fun c6 => ?_)
    · have h := itT c6 h
      refine lv_iconst (v := 0) hx hb dX3_standsFor_46 (by decide) ?_
      exact r_zretP hQ (by decide) h hw dX3_standsFor_47
    · have h := itF c6 h
      refine lv_aload_n hx hb dX3_standsFor_16 rfl (lv_at hl 0 rfl) ?_
      refine r_get C hw hiX3_standsFor_X3 4 (XWa_4 cI cZ a u0) rfl 5 (by decide) (by decide +kernel) rfl dX3_standsFor_17 ?_
      refine lv_iload_n hx hb dX3_standsFor_20 rfl (lv_at hl 1 rfl) ?_
      obtain ⟨g7, h⟩ := ixE h
      refine r_ald C hw 18 0 (XWa_18 cI cZ a u0) rfl g7 dX3_standsFor_21 ?_
      refine lv_aload_n hx hb dX3_standsFor_22 rfl (lv_at hl 0 rfl) ?_
      refine r_get C hw hiX3_standsFor_X3 4 (XWa_4 cI cZ a u0) rfl 5 (by decide) (by decide +kernel) rfl dX3_standsFor_23 ?_
      refine lv_iload_n hx hb dX3_standsFor_26 rfl (lv_at hl 2 rfl) ?_
      obtain ⟨g8, h⟩ := ixE h
      refine r_ald C hw 18 0 (XWa_18 cI cZ a u0) rfl g8 dX3_standsFor_27 ?_
      refine lv_icmp_ne (tgt := 46) hx hb dX3_standsFor_28 (by decide) (fun c9 => ?_) (fun c9 => ?_)
      · have h := itF c9 h
        refine lv_iconst (v := 0) hx hb dX3_standsFor_46 (by decide) ?_
        exact r_zretP hQ (by decide) h hw dX3_standsFor_47
      · have h := itT c9 h
        refine lv_aload_n hx hb dX3_standsFor_31 rfl (lv_at hl 0 rfl) ?_
        refine r_get C hw hiX3_standsFor_X3 4 (XWa_4 cI cZ a u0) rfl 3 (by decide) (by decide +kernel) rfl dX3_standsFor_32 ?_
        refine lv_iload_n hx hb dX3_standsFor_35 rfl (lv_at hl 1 rfl) ?_
        obtain ⟨g10, h⟩ := ixE h
        refine r_ald C hw 16 0 (XWa_16 cI cZ a u0) rfl g10 dX3_standsFor_36 ?_
        refine lv_aload_n hx hb dX3_standsFor_37 rfl (lv_at hl 0 rfl) ?_
        refine r_get C hw hiX3_standsFor_X3 4 (XWa_4 cI cZ a u0) rfl 3 (by decide) (by decide +kernel) rfl dX3_standsFor_38 ?_
        refine lv_iload_n hx hb dX3_standsFor_41 rfl (lv_at hl 2 rfl) ?_
        obtain ⟨g11, h⟩ := ixE h
        refine r_ald C hw 16 0 (XWa_16 cI cZ a u0) rfl g11 dX3_standsFor_42 ?_
        refine lv_icmp_eq (tgt := 48) hx hb dX3_standsFor_43 (by decide) (fun c12 => ?_) (fun c12 => ?_)
        · have h := itT c12 h
          refine lv_iconst (v := 1) hx hb dX3_standsFor_48 (by decide) ?_
          refine lv_istore_n (lv' := [(3, .int 1), (0, .ref (a 4)), (1, .int x1), (2, .int x2)]) hx hb dX3_standsFor_49 rfl hl (by decide) rfl (fun ls hl => ?_)
          exact J50 fu x1 x2 1 _ _ _ h hw (lv_sub hl [1, 2, 3, 0] rfl)
        · have h := itF c12 h
          refine lv_iconst (v := 0) hx hb dX3_standsFor_46 (by decide) ?_
          exact r_zretP hQ (by decide) h hw dX3_standsFor_47
abbrev rmX3_fitsSlot : Room := { frames := 2, cells := 0, slots := 0, locals := 45 }
theorem hiX3_fitsSlot_X3 : ∀ w ∈ wsX30, w ∈ wsX3_fitsSlot := by decide +kernel
set_option maxHeartbeats 4000000 in
set_option maxRecDepth 100000 in
theorem c_X3_fitsSlot (l : Launch) (D : va_G) (cI cZ : ClassId) (z : Nat → Nat) (base : Nat) (a : Nat → Nat) (x2 : Int32) (x3 : Int32) (u0 : St) (ro : Int32) (h : F_X3_fitsSlot x2 x3 u0 = some ro) : MI l D [(cI, .int), (cZ, .boolean)] z base yX3_fitsSlot wsX3_fitsSlot rmX3_fitsSlot [.ref (a 4), .ref (a 3), .int x2, .int x3] (XW cI cZ a u0) ro (XW cI cZ a u0) := by
  refine MI.ofZ (own := RX3) (cc := cX3_fitsSlot) (maxL := 6) (by decide) rfl rfl (Nat.le_of_ble_eq_true rfl) ?_
  intro p e s m args below meth c A Q ls C hl hw hQ
  have hx := C.1.1
  have hb := C.1.2.1
  have J57 : ∀ (H : Heap) (locs : List Loc) (ls : Array Slot), F_X3_fitsSlot_57 u0 = some ro → Wd D A s.heap H locs (XW cI cZ a u0) → lv_has ls 6 [] → W p l e rmX3_fitsSlot s m args below meth c H locs 0 0 Q (F0 m 57 ls []) := by
    intro H locs ls h hw hl
    rw [F_X3_fitsSlot_57] at h
    refine lv_iconst (v := 1) hx hb dX3_fitsSlot_57 (by decide) ?_
    refine lv_goto (tgt := 62) hx hb dX3_fitsSlot_58 (by decide) ?_
    exact r_zretP hQ (by decide) h hw dX3_fitsSlot_62
  have hl : lv_has ls 6 [(0, .ref (a 4)), (1, .ref (a 3)), (2, .int x2), (3, .int x3)] := hl
  rw [F_X3_fitsSlot] at h
  refine lv_aload_n hx hb dX3_fitsSlot_0 rfl (lv_at hl 1 rfl) ?_
  refine lv_iload_n hx hb dX3_fitsSlot_1 rfl (lv_at hl 2 rfl) ?_
  refine lv_iload_n hx hb dX3_fitsSlot_2 rfl (lv_at hl 3 rfl) ?_
  obtain ⟨r2, h1, h⟩ := b1E h
  refine r_callV (rest := []) C hw (c_X0_slotMethod l D cI cZ z base a x2 x3 u0 r2 h1) (cwV 2 C.1.2.2.2.2 gX3_fitsSlot_X0_slotMethod rfl rfl rfl (by decide +kernel) ⟨Nat.le_of_ble_eq_true rfl, Nat.le_of_ble_eq_true rfl⟩) (va_recv C.2.1 hw.1 (ci := 0) (q0 := 3) rfl (XWa_3 cI cZ a u0)) rfl hl.1 rfl (Nat.le_of_ble_eq_true rfl) dX3_fitsSlot_3 ⟨Nat.zero_le _, Nat.zero_le _⟩ (fun H locs hw => ?_)
  refine lv_istore (lv' := [(4, .int r2), (0, .ref (a 4)), (1, .ref (a 3)), (2, .int x2), (3, .int x3)]) hx hb dX3_fitsSlot_6 hl (by decide) rfl (fun ls hl => ?_)
  refine lv_aload_n hx hb dX3_fitsSlot_8 rfl (lv_at hl 2 rfl) ?_
  refine lv_aload_n hx hb dX3_fitsSlot_9 rfl (lv_at hl 2 rfl) ?_
  refine lv_iload_n hx hb dX3_fitsSlot_10 rfl (lv_at hl 3 rfl) ?_
  obtain ⟨r4, h3, h⟩ := b1E h
  refine r_callV (rest := [.ref (a 3)]) C hw (c_X0_upper l D cI cZ z base a x2 u0 r4 h3) (cwV 1 C.1.2.2.2.2 gX3_fitsSlot_X0_upper rfl rfl rfl (by decide +kernel) ⟨Nat.le_of_ble_eq_true rfl, Nat.le_of_ble_eq_true rfl⟩) (va_recv C.2.1 hw.1 (ci := 0) (q0 := 3) rfl (XWa_3 cI cZ a u0)) rfl hl.1 rfl (Nat.le_of_ble_eq_true rfl) dX3_fitsSlot_11 ⟨Nat.zero_le _, Nat.zero_le _⟩ (fun H locs hw => ?_)
  refine lv_iload_n hx hb dX3_fitsSlot_14 rfl (lv_at hl 4 rfl) ?_
  obtain ⟨r6, h5, h⟩ := b1E h
  refine r_callV (rest := []) C hw (c_X0_slotMethod l D cI cZ z base a r4 x3 u0 r6 h5) (cwV 2 C.1.2.2.2.2 gX3_fitsSlot_X0_slotMethod rfl rfl rfl (by decide +kernel) ⟨Nat.le_of_ble_eq_true rfl, Nat.le_of_ble_eq_true rfl⟩) (va_recv C.2.1 hw.1 (ci := 0) (q0 := 3) rfl (XWa_3 cI cZ a u0)) rfl hl.1 rfl (Nat.le_of_ble_eq_true rfl) dX3_fitsSlot_15 ⟨Nat.zero_le _, Nat.zero_le _⟩ (fun H locs hw => ?_)
  refine lv_istore (lv' := [(5, .int r6), (4, .int r2), (0, .ref (a 4)), (1, .ref (a 3)), (2, .int x2), (3, .int x3)]) hx hb dX3_fitsSlot_18 hl (by decide) rfl (fun ls hl => ?_)
  refine lv_aload_n hx hb dX3_fitsSlot_20 rfl (lv_at hl 2 rfl) ?_
  refine lv_iload hx hb dX3_fitsSlot_21 (lv_at hl 1 rfl) ?_
  obtain ⟨r8, h7, h⟩ := b1E h
  refine r_callV (rest := []) C hw (c_X3_has l D cI cZ z base a r2 u0 r8 h7) (cwV 1 C.1.2.2.2.2 gX3_fitsSlot_X3_has rfl rfl rfl (by decide +kernel) ⟨Nat.le_of_ble_eq_true rfl, Nat.le_of_ble_eq_true rfl⟩) (va_recv C.2.1 hw.1 (ci := 3) (q0 := 4) rfl (XWa_4 cI cZ a u0)) rfl hl.1 rfl (Nat.le_of_ble_eq_true rfl) dX3_fitsSlot_23 ⟨Nat.zero_le _, Nat.zero_le _⟩ (fun H locs hw => ?_)
  refine lv_if_eq (tgt := 61) hx hb dX3_fitsSlot_26 (by decide) (fun c9 => ?_) (fun c9 => ?_)
  · have h := itT c9 h
    refine lv_iconst (v := 0) hx hb dX3_fitsSlot_61 (by decide) ?_
    exact r_zretP hQ (by decide) h hw dX3_fitsSlot_62
  · have h := itF c9 h
    refine lv_aload_n hx hb dX3_fitsSlot_29 rfl (lv_at hl 2 rfl) ?_
    refine r_get C hw hiX3_fitsSlot_X3 4 (XWa_4 cI cZ a u0) rfl 2 (by decide) (by decide +kernel) rfl dX3_fitsSlot_30 ?_
    refine lv_iload hx hb dX3_fitsSlot_33 (lv_at hl 1 rfl) ?_
    obtain ⟨g10, h⟩ := ixE h
    refine r_ald C hw 15 0 (XWa_15 cI cZ a u0) rfl g10 dX3_fitsSlot_35 ?_
    refine lv_iload_n hx hb dX3_fitsSlot_36 rfl (lv_at hl 4 rfl) ?_
    refine lv_icmp_ne (tgt := 61) hx hb dX3_fitsSlot_37 (by decide) (fun c11 => ?_) (fun c11 => ?_)
    · have h := itF c11 h
      refine lv_iconst (v := 0) hx hb dX3_fitsSlot_61 (by decide) ?_
      exact r_zretP hQ (by decide) h hw dX3_fitsSlot_62
    · have h := itT c11 h
      refine lv_iload hx hb dX3_fitsSlot_40 (lv_at hl 0 rfl) ?_
      refine lv_iconst (v := (-1)) hx hb dX3_fitsSlot_42 (by decide) ?_
      refine lv_icmp_eq (tgt := 57) hx hb dX3_fitsSlot_43 (by decide) (fun c12 => ?_) (fun c12 => ?_)
      · have h := itT c12 h
        exact J57  _ _ _ h hw (lv_sub hl [] rfl)
      · have h := itF c12 h
        refine lv_aload_n hx hb dX3_fitsSlot_46 rfl (lv_at hl 2 rfl) ?_
        refine lv_iload hx hb dX3_fitsSlot_47 (lv_at hl 1 rfl) ?_
        refine lv_iload hx hb dX3_fitsSlot_49 (lv_at hl 0 rfl) ?_
        obtain ⟨r14, h13, h⟩ := b1E h
        refine r_callV (rest := []) C hw (c_X3_standsFor l D cI cZ z base a r2 r6 u0 r14 h13) (cwV 2 C.1.2.2.2.2 gX3_fitsSlot_X3_standsFor rfl rfl rfl (by decide +kernel) ⟨Nat.le_of_ble_eq_true rfl, Nat.le_of_ble_eq_true rfl⟩) (va_recv C.2.1 hw.1 (ci := 3) (q0 := 4) rfl (XWa_4 cI cZ a u0)) rfl hl.1 rfl (Nat.le_of_ble_eq_true rfl) dX3_fitsSlot_51 ⟨Nat.zero_le _, Nat.zero_le _⟩ (fun H locs hw => ?_)
        refine lv_if_eq (tgt := 61) hx hb dX3_fitsSlot_54 (by decide) (fun c15 => ?_) (fun c15 => ?_)
        · have h := itT c15 h
          refine lv_iconst (v := 0) hx hb dX3_fitsSlot_61 (by decide) ?_
          exact r_zretP hQ (by decide) h hw dX3_fitsSlot_62
        · have h := itF c15 h
          exact J57  _ _ _ h hw (lv_sub hl [] rfl)
abbrev rmX3_misfitSlot : Room := { frames := 3, cells := 0, slots := 0, locals := 70 }
set_option maxHeartbeats 4000000 in
set_option maxRecDepth 100000 in
theorem c_X3_misfitSlot (l : Launch) (D : va_G) (cI cZ : ClassId) (z : Nat → Nat) (base : Nat) (a : Nat → Nat) (x2 : Int32) (u0 : St) (ro : Int32) (h : F_X3_misfitSlot x2 u0 = some ro) : MI l D [(cI, .int), (cZ, .boolean)] z base yX3_misfitSlot wsX3_misfitSlot rmX3_misfitSlot [.ref (a 4), .ref (a 3), .int x2] (XW cI cZ a u0) ro (XW cI cZ a u0) := by
  refine MI.ofI (own := RX3) (cc := cX3_misfitSlot) (maxL := 5) (by decide) rfl rfl (Nat.le_of_ble_eq_true rfl) ?_
  intro p e s m args below meth c A Q ls C hl hw hQ
  have hx := C.1.1
  have hb := C.1.2.1
  have J2 : ∀ n2 : Nat, ∀ (x2 x3 : Int32) (H : Heap) (locs : List Loc) (ls : Array Slot), F_X3_misfitSlot_2 n2 x2 x3 u0 = some ro → Wd D A s.heap H locs (XW cI cZ a u0) → lv_has ls 5 [(0, .ref (a 4)), (1, .ref (a 3)), (2, .int x2), (3, .int x3)] → W p l e rmX3_misfitSlot s m args below meth c H locs 0 0 Q (F0 m 2 ls []) := by
    intro n2
    induction n2 with
    | zero => intro x2 x3 H locs ls h; rw [F_X3_misfitSlot_2] at h; cases h
    | succ n2 ih2 =>
      have J35 : ∀ (x2 x3 : Int32) (H : Heap) (locs : List Loc) (ls : Array Slot), F_X3_misfitSlot_35 (F_X3_misfitSlot_2 n2) x2 x3 u0 = some ro → Wd D A s.heap H locs (XW cI cZ a u0) → lv_has ls 5 [(0, .ref (a 4)), (1, .ref (a 3)), (2, .int x2), (3, .int x3)] → W p l e rmX3_misfitSlot s m args below meth c H locs 0 0 Q (F0 m 35 ls []) := by
        intro x2 x3 H locs ls h hw hl
        rw [F_X3_misfitSlot_35] at h
        obtain ⟨v1, ev1⟩ : ∃ y : Int32, y = x3 + 1 := ⟨_, rfl⟩
        have h := nmE ev1 h
        refine lv_iinc (v := v1) (lv' := [(3, .int v1), (0, .ref (a 4)), (1, .ref (a 3)), (2, .int x2)]) hx hb dX3_misfitSlot_35 hl (k := 3) rfl (by rw [ev1]; rfl) (by decide) rfl (fun ls hl => ?_)
        refine lv_goto (tgt := 2) hx hb dX3_misfitSlot_38 (by decide) ?_
        exact ih2 x2 v1 _ _ _ h hw (lv_sub hl [1, 2, 3, 0] rfl)
      intro x2 x3 H locs ls h hw hl
      rw [F_X3_misfitSlot_2] at h
      refine lv_iload_n hx hb dX3_misfitSlot_2 rfl (lv_at hl 3 rfl) ?_
      refine lv_bipush (v := 16) hx hb dX3_misfitSlot_3 (by decide) ?_
      refine lv_icmp_ge (tgt := 41) hx hb dX3_misfitSlot_5 (by decide) (fun c1 => ?_) (fun c1 => ?_)
      · have h := itT c1 h
        refine lv_iconst (v := (-1)) hx hb dX3_misfitSlot_41 (by decide) ?_
        exact r_iretP hQ h hw dX3_misfitSlot_42
      · have h := itF c1 h
        refine lv_aload_n hx hb dX3_misfitSlot_8 rfl (lv_at hl 1 rfl) ?_
        refine lv_iload_n hx hb dX3_misfitSlot_9 rfl (lv_at hl 2 rfl) ?_
        refine lv_iload_n hx hb dX3_misfitSlot_10 rfl (lv_at hl 3 rfl) ?_
        obtain ⟨r3, h2, h⟩ := b1E h
        refine r_callV (rest := []) C hw (c_X0_slotPlace l D cI cZ z base a x2 x3 u0 r3 h2) (cwV 2 C.1.2.2.2.2 gX3_misfitSlot_X0_slotPlace rfl rfl rfl (by decide +kernel) ⟨Nat.le_of_ble_eq_true rfl, Nat.le_of_ble_eq_true rfl⟩) (va_recv C.2.1 hw.1 (ci := 0) (q0 := 3) rfl (XWa_3 cI cZ a u0)) rfl hl.1 rfl (Nat.le_of_ble_eq_true rfl) dX3_misfitSlot_11 ⟨Nat.zero_le _, Nat.zero_le _⟩ (fun H locs hw => ?_)
        refine lv_istore (lv' := [(4, .int r3), (0, .ref (a 4)), (1, .ref (a 3)), (2, .int x2), (3, .int x3)]) hx hb dX3_misfitSlot_14 hl (by decide) rfl (fun ls hl => ?_)
        refine lv_iload hx hb dX3_misfitSlot_16 (lv_at hl 0 rfl) ?_
        refine lv_iconst (v := (-1)) hx hb dX3_misfitSlot_18 (by decide) ?_
        refine lv_icmp_eq (tgt := 35) hx hb dX3_misfitSlot_19 (by decide) (fun c4 => ?_) (fun c4 => ?_)
        · have h := itT c4 h
          exact J35 x2 x3 _ _ _ h hw (lv_sub hl [1, 2, 3, 4] rfl)
        · have h := itF c4 h
          refine lv_aload_n hx hb dX3_misfitSlot_22 rfl (lv_at hl 1 rfl) ?_
          refine lv_aload_n hx hb dX3_misfitSlot_23 rfl (lv_at hl 2 rfl) ?_
          refine lv_iload_n hx hb dX3_misfitSlot_24 rfl (lv_at hl 3 rfl) ?_
          refine lv_iload_n hx hb dX3_misfitSlot_25 rfl (lv_at hl 4 rfl) ?_
          obtain ⟨r6, h5, h⟩ := b1E h
          refine r_callV (rest := []) C hw (c_X3_fitsSlot l D cI cZ z base a x2 x3 u0 r6 h5) (cwV 3 C.1.2.2.2.2 gX3_misfitSlot_X3_fitsSlot rfl rfl rfl (by decide +kernel) ⟨Nat.le_of_ble_eq_true rfl, Nat.le_of_ble_eq_true rfl⟩) (va_recv C.2.1 hw.1 (ci := 3) (q0 := 4) rfl (XWa_4 cI cZ a u0)) rfl hl.1 rfl (Nat.le_of_ble_eq_true rfl) dX3_misfitSlot_26 ⟨Nat.zero_le _, Nat.zero_le _⟩ (fun H locs hw => ?_)
          refine lv_if_ne (tgt := 35) hx hb dX3_misfitSlot_29 (by decide) (fun c7 => ?_) (fun c7 => ?_)
          · have h := itF c7 h
            exact J35 x2 x3 _ _ _ h hw (lv_sub hl [1, 2, 3, 4] rfl)
          · have h := itT c7 h
            refine lv_iload hx hb dX3_misfitSlot_32 (lv_at hl 0 rfl) ?_
            exact r_iretP hQ h hw dX3_misfitSlot_34
  have hl : lv_has ls 5 [(0, .ref (a 4)), (1, .ref (a 3)), (2, .int x2)] := hl
  rw [F_X3_misfitSlot] at h
  refine lv_iconst (v := 0) hx hb dX3_misfitSlot_0 (by decide) ?_
  refine lv_istore_n (lv' := [(3, .int 0), (0, .ref (a 4)), (1, .ref (a 3)), (2, .int x2)]) hx hb dX3_misfitSlot_1 rfl hl (by decide) rfl (fun ls hl => ?_)
  exact J2 fu x2 0 _ _ _ h hw (lv_sub hl [1, 2, 3, 0] rfl)
abbrev rmX1_size : Room := { frames := 0, cells := 0, slots := 0, locals := 0 }
theorem hiX1_size_X1 : ∀ w ∈ wsX10, w ∈ wsX1_size := by decide +kernel
set_option maxHeartbeats 4000000 in
set_option maxRecDepth 100000 in
theorem c_X1_size (l : Launch) (D : va_G) (cI cZ : ClassId) (z : Nat → Nat) (base : Nat) (a : Nat → Nat) (x1 : Int32) (u0 : St) (ro : Int32) (h : F_X1_size x1 u0 = some ro) : MI l D [(cI, .int), (cZ, .boolean)] z base yX1_size wsX1_size rmX1_size [.ref (a 5), .int x1] (XW cI cZ a u0) ro (XW cI cZ a u0) := by
  refine MI.ofI (own := RX1) (cc := cX1_size) (maxL := 2) (by decide) rfl rfl (Nat.le_of_ble_eq_true rfl) ?_
  intro p e s m args below meth c A Q ls C hl hw hQ
  have hx := C.1.1
  have hb := C.1.2.1
  have hl : lv_has ls 2 [(0, .ref (a 5)), (1, .int x1)] := hl
  rw [F_X1_size] at h
  refine lv_iload_n hx hb dX1_size_0 rfl (lv_at hl 1 rfl) ?_
  refine lv_if_lt (tgt := 19) hx hb dX1_size_1 (by decide) (fun c1 => ?_) (fun c1 => ?_)
  · have h := itT c1 h
    refine lv_iconst (v := 0) hx hb dX1_size_19 (by decide) ?_
    exact r_iretP hQ h hw dX1_size_20
  · have h := itF c1 h
    refine lv_iload_n hx hb dX1_size_4 rfl (lv_at hl 1 rfl) ?_
    refine lv_bipush (v := 64) hx hb dX1_size_5 (by decide) ?_
    refine lv_icmp_ge (tgt := 19) hx hb dX1_size_7 (by decide) (fun c2 => ?_) (fun c2 => ?_)
    · have h := itT c2 h
      refine lv_iconst (v := 0) hx hb dX1_size_19 (by decide) ?_
      exact r_iretP hQ h hw dX1_size_20
    · have h := itF c2 h
      refine lv_aload_n hx hb dX1_size_10 rfl (lv_at hl 0 rfl) ?_
      refine r_get C hw hiX1_size_X1 5 (XWa_5 cI cZ a u0) rfl 3 (by decide) (by decide +kernel) rfl dX1_size_11 ?_
      refine lv_iload_n hx hb dX1_size_14 rfl (lv_at hl 1 rfl) ?_
      obtain ⟨g3, h⟩ := ixE h
      refine r_ald C hw 23 0 (XWa_23 cI cZ a u0) rfl g3 dX1_size_15 ?_
      refine lv_goto (tgt := 20) hx hb dX1_size_16 (by decide) ?_
      exact r_iretP hQ h hw dX1_size_20
