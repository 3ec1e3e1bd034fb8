abbrev rmX1_readInstruction : Room := { frames := 3, cells := 0, slots := 0, locals := 68 }
set_option maxHeartbeats 4000000 in
set_option maxRecDepth 100000 in
theorem c_X1_readInstruction (l : Launch) (D : va_G) (cI cZ : ClassId) (z : Nat → Nat) (base : Nat) (a : Nat → Nat) (x3 : Int32) (x4 : Int32) (u0 : St) (uo : St) (h : F_X1_readInstruction x3 x4 u0 = some uo) : MV l D [(cI, .int), (cZ, .boolean)] z base yX1_readInstruction wsX1_readInstruction rmX1_readInstruction [.ref (a 5), .ref (a 2), .ref (a 3), .int x3, .int x4] (XW cI cZ a u0) (XW cI cZ a uo) := by
  refine MV.of (own := RX1) (cc := cX1_readInstruction) (maxL := 9) (by decide) rfl rfl (Nat.le_of_ble_eq_true rfl) ?_
  intro p e s m args below meth c A Q ls C hl hw hQ
  have hx := C.1.1
  have hb := C.1.2.1
  have hl : lv_has ls 9 [(0, .ref (a 5)), (1, .ref (a 2)), (2, .ref (a 3)), (3, .int x3), (4, .int x4)] := hl
  rw [F_X1_readInstruction] at h
  refine lv_aload_n hx hb dX1_readInstruction_0 rfl (lv_at hl 1 rfl) ?_
  obtain ⟨r2, h1, h⟩ := b1E h
  refine r_callV (rest := []) C hw (c_X5_place l D cI cZ z base a u0 r2 h1) (cwV 0 C.1.2.2.2.2 gX1_readInstruction_X5_place rfl rfl rfl (by decide +kernel) ⟨Nat.le_of_ble_eq_true rfl, Nat.le_of_ble_eq_true rfl⟩) (va_recv C.2.1 hw.1 (ci := 4) (q0 := 2) rfl (XWa_2 cI cZ a u0)) rfl hl.1 rfl (Nat.le_of_ble_eq_true rfl) dX1_readInstruction_1 ⟨Nat.zero_le _, Nat.zero_le _⟩ (fun H locs hw => ?_)
  refine lv_istore (lv' := [(5, .int r2), (0, .ref (a 5)), (1, .ref (a 2)), (2, .ref (a 3)), (3, .int x3), (4, .int x4)]) hx hb dX1_readInstruction_4 hl (by decide) rfl (fun ls hl => ?_)
  refine lv_aload_n hx hb dX1_readInstruction_6 rfl (lv_at hl 2 rfl) ?_
  refine lv_iconst (v := 0) hx hb dX1_readInstruction_7 (by decide) ?_
  refine lv_bipush (v := 41) hx hb dX1_readInstruction_8 (by decide) ?_
  obtain ⟨r4, u5, h3, h⟩ := b2E h
  refine r_callV (rest := []) C hw (c_X5_number l D cI cZ z base a 0 41 u0 r4 u5 h3) (cwV 2 C.1.2.2.2.2 gX1_readInstruction_X5_number rfl rfl rfl (by decide +kernel) ⟨Nat.le_of_ble_eq_true rfl, Nat.le_of_ble_eq_true rfl⟩) (va_recv C.2.1 hw.1 (ci := 4) (q0 := 2) rfl (XWa_2 cI cZ a u0)) rfl hl.1 rfl (Nat.le_of_ble_eq_true rfl) dX1_readInstruction_10 ⟨Nat.zero_le _, Nat.zero_le _⟩ (fun H locs hw => ?_)
  refine lv_istore (lv' := [(6, .int r4), (5, .int r2), (0, .ref (a 5)), (1, .ref (a 2)), (2, .ref (a 3)), (3, .int x3), (4, .int x4)]) hx hb dX1_readInstruction_13 hl (by decide) rfl (fun ls hl => ?_)
  refine lv_aload_n hx hb dX1_readInstruction_15 rfl (lv_at hl 3 rfl) ?_
  obtain ⟨r7, h6, h⟩ := b1E h
  refine r_callV (rest := []) C hw (c_X5_stopped l D cI cZ z base a u5 r7 h6) (cwV 0 C.1.2.2.2.2 gX1_readInstruction_X5_stopped rfl rfl rfl (by decide +kernel) ⟨Nat.le_of_ble_eq_true rfl, Nat.le_of_ble_eq_true rfl⟩) (va_recv C.2.1 hw.1 (ci := 4) (q0 := 2) rfl (XWa_2 cI cZ a u5)) rfl hl.1 rfl (Nat.le_of_ble_eq_true rfl) dX1_readInstruction_16 ⟨Nat.zero_le _, Nat.zero_le _⟩ (fun H locs hw => ?_)
  refine lv_if_eq (tgt := 23) hx hb dX1_readInstruction_19 (by decide) (fun c8 => ?_) (fun c8 => ?_)
  · have h := itT c8 h
    refine lv_iload hx hb dX1_readInstruction_23 (lv_at hl 0 rfl) ?_
    obtain ⟨r10, h9, h⟩ := b1E h
    refine r_callS (rest := []) C hw (c_X4_length l D cI cZ z base a r4 u5 r10 h9) (va_cwS 1 C.1.2.2.2.2 gX1_readInstruction_X4_length rfl rfl rfl (by decide +kernel) ⟨Nat.le_of_ble_eq_true rfl, Nat.le_of_ble_eq_true rfl⟩) rfl hl.1 rfl (Nat.le_of_ble_eq_true rfl) dX1_readInstruction_25 ⟨Nat.zero_le _, Nat.zero_le _⟩ (fun H locs hw => ?_)
    refine lv_iload hx hb dX1_readInstruction_28 (lv_at hl 6 rfl) ?_
    refine lv_iload hx hb dX1_readInstruction_30 (lv_at hl 1 rfl) ?_
    refine lv_isub hx hb dX1_readInstruction_32 ?_
    refine lv_icmp_le (tgt := 43) hx hb dX1_readInstruction_33 (by decide) (fun c11 => ?_) (fun c11 => ?_)
    · have h := itT c11 h
      refine lv_aload_n hx hb dX1_readInstruction_43 rfl (lv_at hl 2 rfl) ?_
      refine lv_iload hx hb dX1_readInstruction_44 (lv_at hl 1 rfl) ?_
      obtain ⟨u13, h12, h⟩ := b1E h
      refine r_callVv (rest := []) C hw (c_X1_markBegin l D cI cZ z base a r2 u5 u13 h12) (cwV 1 C.1.2.2.2.2 gX1_readInstruction_X1_markBegin rfl rfl rfl (by decide +kernel) ⟨Nat.le_of_ble_eq_true rfl, Nat.le_of_ble_eq_true rfl⟩) (va_recv C.2.1 hw.1 (ci := 1) (q0 := 5) rfl (XWa_5 cI cZ a u5)) rfl hl.1 rfl (Nat.le_of_ble_eq_true rfl) dX1_readInstruction_46 ⟨Nat.zero_le _, Nat.zero_le _⟩ (fun H locs hw => ?_)
      refine lv_aload_n hx hb dX1_readInstruction_49 rfl (lv_at hl 3 rfl) ?_
      refine lv_aload_n hx hb dX1_readInstruction_50 rfl (lv_at hl 4 rfl) ?_
      refine lv_iload hx hb dX1_readInstruction_51 (lv_at hl 0 rfl) ?_
      obtain ⟨r15, h14, h⟩ := b1E h
      refine r_callS (rest := [.ref (a 3), .ref (a 2)]) C hw (c_X4_first l D cI cZ z base a r4 u13 r15 h14) (va_cwS 1 C.1.2.2.2.2 gX1_readInstruction_X4_first rfl rfl rfl (by decide +kernel) ⟨Nat.le_of_ble_eq_true rfl, Nat.le_of_ble_eq_true rfl⟩) rfl hl.1 rfl (Nat.le_of_ble_eq_true rfl) dX1_readInstruction_53 ⟨Nat.zero_le _, Nat.zero_le _⟩ (fun H locs hw => ?_)
      refine lv_iload_n hx hb dX1_readInstruction_56 rfl (lv_at hl 5 rfl) ?_
      obtain ⟨r17, u18, h16, h⟩ := b2E h
      refine r_callS (rest := []) C hw (c_X1_readOperand l D cI cZ z base a r15 x3 u13 r17 u18 h16) (va_cwS 4 C.1.2.2.2.2 gX1_readInstruction_X1_readOperand rfl rfl rfl (by decide +kernel) ⟨Nat.le_of_ble_eq_true rfl, Nat.le_of_ble_eq_true rfl⟩) rfl hl.1 rfl (Nat.le_of_ble_eq_true rfl) dX1_readInstruction_57 ⟨Nat.zero_le _, Nat.zero_le _⟩ (fun H locs hw => ?_)
      refine lv_istore (lv' := [(7, .int r17), (6, .int r4), (5, .int r2), (0, .ref (a 5)), (1, .ref (a 2)), (2, .ref (a 3)), (3, .int x3), (4, .int x4)]) hx hb dX1_readInstruction_60 hl (by decide) rfl (fun ls hl => ?_)
      refine lv_iload hx hb dX1_readInstruction_62 (lv_at hl 1 rfl) ?_
      obtain ⟨r20, h19, h⟩ := b1E h
      refine r_callS (rest := []) C hw (c_X4_second l D cI cZ z base a r4 u18 r20 h19) (va_cwS 1 C.1.2.2.2.2 gX1_readInstruction_X4_second rfl rfl rfl (by decide +kernel) ⟨Nat.le_of_ble_eq_true rfl, Nat.le_of_ble_eq_true rfl⟩) rfl hl.1 rfl (Nat.le_of_ble_eq_true rfl) dX1_readInstruction_64 ⟨Nat.zero_le _, Nat.zero_le _⟩ (fun H locs hw => ?_)
      refine lv_istore (lv' := [(8, .int r20), (7, .int r17), (6, .int r4), (5, .int r2), (0, .ref (a 5)), (1, .ref (a 2)), (2, .ref (a 3)), (3, .int x3), (4, .int x4)]) hx hb dX1_readInstruction_67 hl (by decide) rfl (fun ls hl => ?_)
      refine lv_iload hx hb dX1_readInstruction_69 (lv_at hl 0 rfl) ?_
      refine lv_bipush (v := 6) hx hb dX1_readInstruction_71 (by decide) ?_
      refine lv_icmp_ne (tgt := 93) hx hb dX1_readInstruction_73 (by decide) (fun c21 => ?_) (fun c21 => ?_)
      · have h := itF c21 h
        refine lv_iload hx hb dX1_readInstruction_93 (lv_at hl 0 rfl) ?_
        refine lv_bipush (v := 9) hx hb dX1_readInstruction_95 (by decide) ?_
        refine lv_icmp_ne (tgt := 110) hx hb dX1_readInstruction_97 (by decide) (fun c22 => ?_) (fun c22 => ?_)
        · have h := itF c22 h
          refine lv_aload_n hx hb dX1_readInstruction_110 rfl (lv_at hl 5 rfl) ?_
          refine lv_aload_n hx hb dX1_readInstruction_111 rfl (lv_at hl 6 rfl) ?_
          refine lv_iload hx hb dX1_readInstruction_112 (lv_at hl 0 rfl) ?_
          refine lv_iload_n hx hb dX1_readInstruction_114 rfl (lv_at hl 7 rfl) ?_
          obtain ⟨r24, u25, h23, h⟩ := b2E h
          refine r_callS (rest := []) C hw (c_X1_readOperand l D cI cZ z base a r20 x3 u18 r24 u25 h23) (va_cwS 4 C.1.2.2.2.2 gX1_readInstruction_X1_readOperand rfl rfl rfl (by decide +kernel) ⟨Nat.le_of_ble_eq_true rfl, Nat.le_of_ble_eq_true rfl⟩) rfl hl.1 rfl (Nat.le_of_ble_eq_true rfl) dX1_readInstruction_115 ⟨Nat.zero_le _, Nat.zero_le _⟩ (fun H locs hw => ?_)
          refine lv_pop hx hb dX1_readInstruction_118 rfl ?_
          exact r_vret (f := XW cI cZ a) hQ h hw dX1_readInstruction_119
        · have h := itT c22 h
          refine lv_aload_n hx hb dX1_readInstruction_100 rfl (lv_at hl 5 rfl) ?_
          refine lv_aload_n hx hb dX1_readInstruction_101 rfl (lv_at hl 6 rfl) ?_
          refine lv_iload hx hb dX1_readInstruction_102 (lv_at hl 1 rfl) ?_
          obtain ⟨u27, h26, h⟩ := b1E h
          refine r_callSv (rest := []) C hw (c_X1_readSlot l D cI cZ z base a r17 u18 u27 h26) (va_cwS 3 C.1.2.2.2.2 gX1_readInstruction_X1_readSlot rfl rfl rfl (by decide +kernel) ⟨Nat.le_of_ble_eq_true rfl, Nat.le_of_ble_eq_true rfl⟩) rfl hl.1 rfl (Nat.le_of_ble_eq_true rfl) dX1_readInstruction_104 ⟨Nat.zero_le _, Nat.zero_le _⟩ (fun H locs hw => ?_)
          refine lv_goto (tgt := 119) hx hb dX1_readInstruction_107 (by decide) ?_
          exact r_vret (f := XW cI cZ a) hQ h hw dX1_readInstruction_119
      · have h := itT c21 h
        refine lv_aload_n hx hb dX1_readInstruction_76 rfl (lv_at hl 5 rfl) ?_
        refine lv_iconst (v := 0) hx hb dX1_readInstruction_77 (by decide) ?_
        refine lv_aload_n hx hb dX1_readInstruction_78 rfl (lv_at hl 6 rfl) ?_
        refine lv_iload hx hb dX1_readInstruction_79 (lv_at hl 1 rfl) ?_
        obtain ⟨r29, h28, h⟩ := b1E h
        refine r_callV (rest := [.int 0, .ref (a 2)]) C hw (c_X0_fields l D cI cZ z base a r17 u18 r29 h28) (cwV 1 C.1.2.2.2.2 gX1_readInstruction_X0_fields rfl rfl rfl (by decide +kernel) ⟨Nat.le_of_ble_eq_true rfl, Nat.le_of_ble_eq_true rfl⟩) (va_recv C.2.1 hw.1 (ci := 0) (q0 := 3) rfl (XWa_3 cI cZ a u18)) rfl hl.1 rfl (Nat.le_of_ble_eq_true rfl) dX1_readInstruction_81 ⟨Nat.zero_le _, Nat.zero_le _⟩ (fun H locs hw => ?_)
        refine lv_iconst (v := 1) hx hb dX1_readInstruction_84 (by decide) ?_
        refine lv_isub hx hb dX1_readInstruction_85 ?_
        obtain ⟨r31, u32, h30, h⟩ := b2E h
        refine r_callV (rest := []) C hw (c_X5_number l D cI cZ z base a 0 (r29 - 1) u18 r31 u32 h30) (cwV 2 C.1.2.2.2.2 gX1_readInstruction_X5_number rfl rfl rfl (by decide +kernel) ⟨Nat.le_of_ble_eq_true rfl, Nat.le_of_ble_eq_true rfl⟩) (va_recv C.2.1 hw.1 (ci := 4) (q0 := 2) rfl (XWa_2 cI cZ a u18)) rfl hl.1 rfl (Nat.le_of_ble_eq_true rfl) dX1_readInstruction_86 ⟨Nat.zero_le _, Nat.zero_le _⟩ (fun H locs hw => ?_)
        refine lv_pop hx hb dX1_readInstruction_89 rfl ?_
        refine lv_goto (tgt := 119) hx hb dX1_readInstruction_90 (by decide) ?_
        exact r_vret (f := XW cI cZ a) hQ h hw dX1_readInstruction_119
    · have h := itF c11 h
      refine lv_aload_n hx hb dX1_readInstruction_36 rfl (lv_at hl 3 rfl) ?_
      refine lv_iload hx hb dX1_readInstruction_37 (lv_at hl 1 rfl) ?_
      obtain ⟨u34, h33, h⟩ := b1E h
      refine r_callVv (rest := []) C hw (c_X5_stopAt l D cI cZ z base a r2 u5 u34 h33) (cwV 1 C.1.2.2.2.2 gX1_readInstruction_X5_stopAt rfl rfl rfl (by decide +kernel) ⟨Nat.le_of_ble_eq_true rfl, Nat.le_of_ble_eq_true rfl⟩) (va_recv C.2.1 hw.1 (ci := 4) (q0 := 2) rfl (XWa_2 cI cZ a u5)) rfl hl.1 rfl (Nat.le_of_ble_eq_true rfl) dX1_readInstruction_39 ⟨Nat.zero_le _, Nat.zero_le _⟩ (fun H locs hw => ?_)
      exact r_vret (f := XW cI cZ a) hQ h hw dX1_readInstruction_42
  · have h := itF c8 h
    exact r_vret (f := XW cI cZ a) hQ h hw dX1_readInstruction_22
abbrev rmX1_read : Room := { frames := 4, cells := 0, slots := 0, locals := 96 }
theorem hiX1_read_X1 : ∀ w ∈ wsX10, w ∈ wsX1_read := by decide +kernel
set_option maxHeartbeats 4000000 in
set_option maxRecDepth 100000 in
theorem c_X1_read (l : Launch) (D : va_G) (cI cZ : ClassId) (z : Nat → Nat) (base : Nat) (a : Nat → Nat) (x3 : Int32) (x4 : Int32) (u0 : St) (uo : St) (h : F_X1_read x3 x4 u0 = some uo) : MV l D [(cI, .int), (cZ, .boolean)] z base yX1_read wsX1_read rmX1_read [.ref (a 5), .ref (a 2), .ref (a 3), .int x3, .int x4] (XW cI cZ a u0) (XW cI cZ a uo) := by
  refine MV.of (own := RX1) (cc := cX1_read) (maxL := 9) (by decide) rfl rfl (Nat.le_of_ble_eq_true rfl) ?_
  intro p e s m args below meth c A Q ls C hl hw hQ
  have hx := C.1.1
  have hb := C.1.2.1
  have J74 : ∀ (x3 x5 x6 x7 : Int32) (u0 : St) (H : Heap) (locs : List Loc) (ls : Array Slot), F_X1_read_74 x3 x5 x6 x7 u0 = some uo → Wd D A s.heap H locs (XW cI cZ a u0) → lv_has ls 9 [(0, .ref (a 5)), (3, .int x3), (5, .int x5), (6, .int x6), (7, .int x7)] → W p l e rmX1_read s m args below meth c H locs 0 0 Q (F0 m 74 ls []) := by
    intro x3 x5 x6 x7 u0 H locs ls h hw hl
    rw [F_X1_read_74] at h
    refine lv_aload_n hx hb dX1_read_74 rfl (lv_at hl 0 rfl) ?_
    refine r_get C hw hiX1_read_X1 5 (XWa_5 cI cZ a u0) rfl 1 (by decide) (by decide +kernel) rfl dX1_read_75 ?_
    refine lv_iload_n hx hb dX1_read_78 rfl (lv_at hl 1 rfl) ?_
    refine lv_iload hx hb dX1_read_79 (lv_at hl 3 rfl) ?_
    obtain ⟨g1, h⟩ := ixE h
    obtain ⟨u2, eu2⟩ : ∃ y : St, y = st u0 21 (x3).toNatClampNeg x6 := ⟨_, rfl⟩
    have h := nmE eu2 h
    refine r_ast (ws' := (XW cI cZ a u2)) C hw 21 0 (XWa_21 cI cZ a u0) rfl g1 (by rw [eu2]; exact XWs_21 cI cZ a u0 _ x6) dX1_read_81 (fun H locs hw => ?_)
    refine lv_aload_n hx hb dX1_read_82 rfl (lv_at hl 0 rfl) ?_
    refine r_get C hw hiX1_read_X1 5 (XWa_5 cI cZ a u2) rfl 2 (by decide) (by decide +kernel) rfl dX1_read_83 ?_
    refine lv_iload_n hx hb dX1_read_86 rfl (lv_at hl 1 rfl) ?_
    refine lv_iload hx hb dX1_read_87 (lv_at hl 2 rfl) ?_
    obtain ⟨g3, h⟩ := ixE h
    obtain ⟨u4, eu4⟩ : ∃ y : St, y = st u2 22 (x3).toNatClampNeg x5 := ⟨_, rfl⟩
    have h := nmE eu4 h
    refine r_ast (ws' := (XW cI cZ a u4)) C hw 22 0 (XWa_22 cI cZ a u2) rfl g3 (by rw [eu4]; exact XWs_22 cI cZ a u2 _ x5) dX1_read_89 (fun H locs hw => ?_)
    refine lv_aload_n hx hb dX1_read_90 rfl (lv_at hl 0 rfl) ?_
    refine r_get C hw hiX1_read_X1 5 (XWa_5 cI cZ a u4) rfl 3 (by decide) (by decide +kernel) rfl dX1_read_91 ?_
    refine lv_iload_n hx hb dX1_read_94 rfl (lv_at hl 1 rfl) ?_
    refine lv_iload hx hb dX1_read_95 (lv_at hl 4 rfl) ?_
    obtain ⟨g5, h⟩ := ixE h
    obtain ⟨u6, eu6⟩ : ∃ y : St, y = st u4 23 (x3).toNatClampNeg x7 := ⟨_, rfl⟩
    have h := nmE eu6 h
    refine r_ast (ws' := (XW cI cZ a u6)) C hw 23 0 (XWa_23 cI cZ a u4) rfl g5 (by rw [eu6]; exact XWs_23 cI cZ a u4 _ x7) dX1_read_97 (fun H locs hw => ?_)
    refine lv_aload_n hx hb dX1_read_98 rfl (lv_at hl 0 rfl) ?_
    refine lv_dup hx hb dX1_read_99 rfl ?_
    refine r_get C hw hiX1_read_X1 5 (XWa_5 cI cZ a u6) rfl 0 (by decide) (by decide +kernel) rfl dX1_read_100 ?_
    refine lv_iload hx hb dX1_read_103 (lv_at hl 4 rfl) ?_
    refine lv_iadd hx hb dX1_read_105 ?_
    obtain ⟨u7, eu7⟩ : ∃ y : St, y = st u6 5 0 ((u6 5 0) + x7) := ⟨_, rfl⟩
    have h := nmE eu7 h
    refine r_put (ws' := (XW cI cZ a u7)) C hw hiX1_read_X1 tyX1 tyX1_ok nmX1 5 (XWa_5 cI cZ a u6) rfl 0 (by decide) (by decide +kernel) rfl (ty := .int) (by decide +kernel) rfl rfl (Nat.le_of_ble_eq_true rfl) (by rw [eu7]; exact XWs_5_0 cI cZ a u6 ((u6 5 0) + x7)) dX1_read_106 (fun H locs hw => ?_)
    exact r_vret (f := XW cI cZ a) hQ h hw dX1_read_109
  have J26 : ∀ n26 : Nat, ∀ (x3 x4 x5 x6 x7 x8 : Int32) (u0 : St) (H : Heap) (locs : List Loc) (ls : Array Slot), F_X1_read_26 n26 x3 x4 x5 x6 x7 x8 u0 = some uo → Wd D A s.heap H locs (XW cI cZ a u0) → lv_has ls 9 [(0, .ref (a 5)), (1, .ref (a 2)), (2, .ref (a 3)), (3, .int x3), (4, .int x4), (5, .int x5), (6, .int x6), (7, .int x7), (8, .int x8)] → W p l e rmX1_read s m args below meth c H locs 0 0 Q (F0 m 26 ls []) := by
    intro n26
    induction n26 with
    | zero => intro x3 x4 x5 x6 x7 x8 u0 H locs ls h; rw [F_X1_read_26] at h; cases h
    | succ n26 ih26 =>
      intro x3 x4 x5 x6 x7 x8 u0 H locs ls h hw hl
      rw [F_X1_read_26] at h
      refine lv_iload hx hb dX1_read_26 (lv_at hl 8 rfl) ?_
      refine lv_iload hx hb dX1_read_28 (lv_at hl 5 rfl) ?_
      refine lv_icmp_ge (tgt := 74) hx hb dX1_read_30 (by decide) (fun c1 => ?_) (fun c1 => ?_)
      · have h := itT c1 h
        exact J74 x3 x5 x6 x7 u0 _ _ _ h hw (lv_sub hl [0, 3, 5, 6, 7] rfl)
      · have h := itF c1 h
        refine lv_aload_n hx hb dX1_read_33 rfl (lv_at hl 1 rfl) ?_
        obtain ⟨r3, h2, h⟩ := b1E h
        refine r_callV (rest := []) C hw (c_X5_place l D cI cZ z base a u0 r3 h2) (cwV 0 C.1.2.2.2.2 gX1_read_X5_place rfl rfl rfl (by decide +kernel) ⟨Nat.le_of_ble_eq_true rfl, Nat.le_of_ble_eq_true rfl⟩) (va_recv C.2.1 hw.1 (ci := 4) (q0 := 2) rfl (XWa_2 cI cZ a u0)) rfl hl.1 rfl (Nat.le_of_ble_eq_true rfl) dX1_read_34 ⟨Nat.zero_le _, Nat.zero_le _⟩ (fun H locs hw => ?_)
        refine lv_iload hx hb dX1_read_37 (lv_at hl 6 rfl) ?_
        refine lv_iload hx hb dX1_read_39 (lv_at hl 5 rfl) ?_
        refine lv_iadd hx hb dX1_read_41 ?_
        refine lv_icmp_ge (tgt := 74) hx hb dX1_read_42 (by decide) (fun c4 => ?_) (fun c4 => ?_)
        · have h := itT c4 h
          exact J74 x3 x5 x6 x7 u0 _ _ _ h hw (lv_sub hl [0, 3, 5, 6, 7] rfl)
        · have h := itF c4 h
          refine lv_aload_n hx hb dX1_read_45 rfl (lv_at hl 1 rfl) ?_
          obtain ⟨r6, h5, h⟩ := b1E h
          refine r_callV (rest := []) C hw (c_X5_stopped l D cI cZ z base a u0 r6 h5) (cwV 0 C.1.2.2.2.2 gX1_read_X5_stopped rfl rfl rfl (by decide +kernel) ⟨Nat.le_of_ble_eq_true rfl, Nat.le_of_ble_eq_true rfl⟩) (va_recv C.2.1 hw.1 (ci := 4) (q0 := 2) rfl (XWa_2 cI cZ a u0)) rfl hl.1 rfl (Nat.le_of_ble_eq_true rfl) dX1_read_46 ⟨Nat.zero_le _, Nat.zero_le _⟩ (fun H locs hw => ?_)
          refine lv_if_ne (tgt := 74) hx hb dX1_read_49 (by decide) (fun c7 => ?_) (fun c7 => ?_)
          · have h := itF c7 h
            exact J74 x3 x5 x6 x7 u0 _ _ _ h hw (lv_sub hl [0, 3, 5, 6, 7] rfl)
          · have h := itT c7 h
            refine lv_aload_n hx hb dX1_read_52 rfl (lv_at hl 0 rfl) ?_
            refine lv_aload_n hx hb dX1_read_53 rfl (lv_at hl 1 rfl) ?_
            refine lv_aload_n hx hb dX1_read_54 rfl (lv_at hl 2 rfl) ?_
            refine lv_iload hx hb dX1_read_55 (lv_at hl 4 rfl) ?_
            refine lv_iload hx hb dX1_read_57 (lv_at hl 6 rfl) ?_
            refine lv_iload hx hb dX1_read_59 (lv_at hl 5 rfl) ?_
            refine lv_iadd hx hb dX1_read_61 ?_
            obtain ⟨u9, h8, h⟩ := b1E h
            refine r_callVv (rest := []) C hw (c_X1_readInstruction l D cI cZ z base a x4 (x6 + x5) u0 u9 h8) (cwV 4 C.1.2.2.2.2 gX1_read_X1_readInstruction rfl rfl rfl (by decide +kernel) ⟨Nat.le_of_ble_eq_true rfl, Nat.le_of_ble_eq_true rfl⟩) (va_recv C.2.1 hw.1 (ci := 1) (q0 := 5) rfl (XWa_5 cI cZ a u0)) rfl hl.1 rfl (Nat.le_of_ble_eq_true rfl) dX1_read_62 ⟨Nat.zero_le _, Nat.zero_le _⟩ (fun H locs hw => ?_)
            obtain ⟨v10, ev10⟩ : ∃ y : Int32, y = x7 + 1 := ⟨_, rfl⟩
            have h := nmE ev10 h
            refine lv_iinc (v := v10) (lv' := [(7, .int v10), (0, .ref (a 5)), (1, .ref (a 2)), (2, .ref (a 3)), (3, .int x3), (4, .int x4), (5, .int x5), (6, .int x6), (8, .int x8)]) hx hb dX1_read_65 hl (k := 7) rfl (by rw [ev10]; rfl) (by decide) rfl (fun ls hl => ?_)
            obtain ⟨v11, ev11⟩ : ∃ y : Int32, y = x8 + 1 := ⟨_, rfl⟩
            have h := nmE ev11 h
            refine lv_iinc (v := v11) (lv' := [(8, .int v11), (7, .int v10), (0, .ref (a 5)), (1, .ref (a 2)), (2, .ref (a 3)), (3, .int x3), (4, .int x4), (5, .int x5), (6, .int x6)]) hx hb dX1_read_68 hl (k := 8) rfl (by rw [ev11]; rfl) (by decide) rfl (fun ls hl => ?_)
            refine lv_goto (tgt := 26) hx hb dX1_read_71 (by decide) ?_
            exact ih26 x3 x4 x5 x6 v10 v11 u9 _ _ _ h hw (lv_sub hl [2, 3, 4, 5, 6, 7, 8, 1, 0] rfl)
  have hl : lv_has ls 9 [(0, .ref (a 5)), (1, .ref (a 2)), (2, .ref (a 3)), (3, .int x3), (4, .int x4)] := hl
  rw [F_X1_read] at h
  refine lv_aload_n hx hb dX1_read_0 rfl (lv_at hl 1 rfl) ?_
  refine lv_iconst (v := 1) hx hb dX1_read_1 (by decide) ?_
  refine lv_sipush (v := 1000) hx hb dX1_read_2 (by decide) ?_
  obtain ⟨r2, u3, h1, h⟩ := b2E h
  refine r_callV (rest := []) C hw (c_X5_pair l D cI cZ z base a 1 1000 u0 r2 u3 h1) (cwV 2 C.1.2.2.2.2 gX1_read_X5_pair rfl rfl rfl (by decide +kernel) ⟨Nat.le_of_ble_eq_true rfl, Nat.le_of_ble_eq_true rfl⟩) (va_recv C.2.1 hw.1 (ci := 4) (q0 := 2) rfl (XWa_2 cI cZ a u0)) rfl hl.1 rfl (Nat.le_of_ble_eq_true rfl) dX1_read_5 ⟨Nat.zero_le _, Nat.zero_le _⟩ (fun H locs hw => ?_)
  refine lv_iconst (v := 0) hx hb dX1_read_8 (by decide) ?_
  refine r_max C hl.1 (by decide +kernel) (by decide +kernel) (by decide +kernel) (by decide +kernel) (Nat.le_of_ble_eq_true rfl) (Nat.le_of_ble_eq_true rfl) (Nat.zero_le _) (Nat.zero_le _) dX1_read_9 ?_
  refine lv_topi (fun v4 ev4 => ?_)
  have h := nmE ev4 h
  refine lv_istore (lv' := [(5, .int v4), (0, .ref (a 5)), (1, .ref (a 2)), (2, .ref (a 3)), (3, .int x3), (4, .int x4)]) hx hb dX1_read_12 hl (by decide) rfl (fun ls hl => ?_)
  refine lv_aload_n hx hb dX1_read_14 rfl (lv_at hl 2 rfl) ?_
  obtain ⟨r6, h5, h⟩ := b1E h
  refine r_callV (rest := []) C hw (c_X5_place l D cI cZ z base a u3 r6 h5) (cwV 0 C.1.2.2.2.2 gX1_read_X5_place rfl rfl rfl (by decide +kernel) ⟨Nat.le_of_ble_eq_true rfl, Nat.le_of_ble_eq_true rfl⟩) (va_recv C.2.1 hw.1 (ci := 4) (q0 := 2) rfl (XWa_2 cI cZ a u3)) rfl hl.1 rfl (Nat.le_of_ble_eq_true rfl) dX1_read_15 ⟨Nat.zero_le _, Nat.zero_le _⟩ (fun H locs hw => ?_)
  refine lv_istore (lv' := [(6, .int r6), (5, .int v4), (0, .ref (a 5)), (1, .ref (a 2)), (2, .ref (a 3)), (3, .int x3), (4, .int x4)]) hx hb dX1_read_18 hl (by decide) rfl (fun ls hl => ?_)
  refine lv_iconst (v := 0) hx hb dX1_read_20 (by decide) ?_
  refine lv_istore (lv' := [(7, .int 0), (6, .int r6), (5, .int v4), (0, .ref (a 5)), (1, .ref (a 2)), (2, .ref (a 3)), (3, .int x3), (4, .int x4)]) hx hb dX1_read_21 hl (by decide) rfl (fun ls hl => ?_)
  refine lv_iconst (v := 0) hx hb dX1_read_23 (by decide) ?_
  refine lv_istore (lv' := [(8, .int 0), (7, .int 0), (6, .int r6), (5, .int v4), (0, .ref (a 5)), (1, .ref (a 2)), (2, .ref (a 3)), (3, .int x3), (4, .int x4)]) hx hb dX1_read_24 hl (by decide) rfl (fun ls hl => ?_)
  exact J26 fu x3 x4 v4 r6 0 0 u3 _ _ _ h hw (lv_sub hl [4, 5, 6, 7, 8, 3, 2, 1, 0] rfl)
abbrev rmX2_read : Room := { frames := 2, cells := 0, slots := 0, locals := 45 }
theorem hiX2_read_X2 : ∀ w ∈ wsX20, w ∈ wsX2_read := by decide +kernel
set_option maxHeartbeats 4000000 in
set_option maxRecDepth 100000 in
theorem c_X2_read (l : Launch) (D : va_G) (cI cZ : ClassId) (z : Nat → Nat) (base : Nat) (a : Nat → Nat) (x2 : Int32) (x3 : Int32) (u0 : St) (uo : St) (h : F_X2_read x2 x3 u0 = some uo) : MV l D [(cI, .int), (cZ, .boolean)] z base yX2_read wsX2_read rmX2_read [.ref (a 6), .ref (a 2), .int x2, .int x3] (XW cI cZ a u0) (XW cI cZ a uo) := by
  refine MV.of (own := RX2) (cc := cX2_read) (maxL := 6) (by decide) rfl rfl (Nat.le_of_ble_eq_true rfl) ?_
  intro p e s m args below meth c A Q ls C hl hw hQ
  have hx := C.1.1
  have hb := C.1.2.1
  have J34 : ∀ n34 : Nat, ∀ (x2 x4 x5 : Int32) (u0 : St) (H : Heap) (locs : List Loc) (ls : Array Slot), F_X2_read_34 n34 x2 x4 x5 u0 = some uo → Wd D A s.heap H locs (XW cI cZ a u0) → lv_has ls 6 [(1, .ref (a 2)), (2, .int x2), (4, .int x4), (5, .int x5)] → W p l e rmX2_read s m args below meth c H locs 0 0 Q (F0 m 34 ls []) := by
    intro n34
    induction n34 with
    | zero => intro x2 x4 x5 u0 H locs ls h; rw [F_X2_read_34] at h; cases h
    | succ n34 ih34 =>
      intro x2 x4 x5 u0 H locs ls h hw hl
      rw [F_X2_read_34] at h
      refine lv_iload hx hb dX2_read_34 (lv_at hl 3 rfl) ?_
      refine lv_iload hx hb dX2_read_36 (lv_at hl 2 rfl) ?_
      refine lv_icmp_ge (tgt := 66) hx hb dX2_read_38 (by decide) (fun c1 => ?_) (fun c1 => ?_)
      · have h := itT c1 h
        exact r_vret (f := XW cI cZ a) hQ h hw dX2_read_66
      · have h := itF c1 h
        refine lv_aload_n hx hb dX2_read_41 rfl (lv_at hl 0 rfl) ?_
        refine lv_iconst (v := 4) hx hb dX2_read_42 (by decide) ?_
        obtain ⟨u3, h2, h⟩ := b1E h
        refine r_callVv (rest := []) C hw (c_X5_skip l D cI cZ z base a 4 u0 u3 h2) (cwV 1 C.1.2.2.2.2 gX2_read_X5_skip rfl rfl rfl (by decide +kernel) ⟨Nat.le_of_ble_eq_true rfl, Nat.le_of_ble_eq_true rfl⟩) (va_recv C.2.1 hw.1 (ci := 4) (q0 := 2) rfl (XWa_2 cI cZ a u0)) rfl hl.1 rfl (Nat.le_of_ble_eq_true rfl) dX2_read_43 ⟨Nat.zero_le _, Nat.zero_le _⟩ (fun H locs hw => ?_)
        refine lv_aload_n hx hb dX2_read_46 rfl (lv_at hl 0 rfl) ?_
        refine lv_iconst (v := 0) hx hb dX2_read_47 (by decide) ?_
        refine lv_iload_n hx hb dX2_read_48 rfl (lv_at hl 1 rfl) ?_
        refine lv_iconst (v := 1) hx hb dX2_read_49 (by decide) ?_
        refine lv_isub hx hb dX2_read_50 ?_
        obtain ⟨r5, u6, h4, h⟩ := b2E h
        refine r_callV (rest := []) C hw (c_X5_number l D cI cZ z base a 0 (x2 - 1) u3 r5 u6 h4) (cwV 2 C.1.2.2.2.2 gX2_read_X5_number rfl rfl rfl (by decide +kernel) ⟨Nat.le_of_ble_eq_true rfl, Nat.le_of_ble_eq_true rfl⟩) (va_recv C.2.1 hw.1 (ci := 4) (q0 := 2) rfl (XWa_2 cI cZ a u3)) rfl hl.1 rfl (Nat.le_of_ble_eq_true rfl) dX2_read_51 ⟨Nat.zero_le _, Nat.zero_le _⟩ (fun H locs hw => ?_)
        refine lv_pop hx hb dX2_read_54 rfl ?_
        refine lv_aload_n hx hb dX2_read_55 rfl (lv_at hl 0 rfl) ?_
        refine lv_iconst (v := 2) hx hb dX2_read_56 (by decide) ?_
        obtain ⟨u8, h7, h⟩ := b1E h
        refine r_callVv (rest := []) C hw (c_X5_skip l D cI cZ z base a 2 u6 u8 h7) (cwV 1 C.1.2.2.2.2 gX2_read_X5_skip rfl rfl rfl (by decide +kernel) ⟨Nat.le_of_ble_eq_true rfl, Nat.le_of_ble_eq_true rfl⟩) (va_recv C.2.1 hw.1 (ci := 4) (q0 := 2) rfl (XWa_2 cI cZ a u6)) rfl hl.1 rfl (Nat.le_of_ble_eq_true rfl) dX2_read_57 ⟨Nat.zero_le _, Nat.zero_le _⟩ (fun H locs hw => ?_)
        obtain ⟨v9, ev9⟩ : ∃ y : Int32, y = x5 + 1 := ⟨_, rfl⟩
        have h := nmE ev9 h
        refine lv_iinc (v := v9) (lv' := [(5, .int v9), (1, .ref (a 2)), (2, .int x2), (4, .int x4)]) hx hb dX2_read_60 hl (k := 3) rfl (by rw [ev9]; rfl) (by decide) rfl (fun ls hl => ?_)
        refine lv_goto (tgt := 34) hx hb dX2_read_63 (by decide) ?_
        exact ih34 x2 x4 v9 u8 _ _ _ h hw (lv_sub hl [1, 2, 3, 0] rfl)
  have hl : lv_has ls 6 [(0, .ref (a 6)), (1, .ref (a 2)), (2, .int x2), (3, .int x3)] := hl
  rw [F_X2_read] at h
  refine lv_aload_n hx hb dX2_read_0 rfl (lv_at hl 1 rfl) ?_
  refine lv_iconst (v := 0) hx hb dX2_read_1 (by decide) ?_
  refine lv_bipush (v := 8) hx hb dX2_read_2 (by decide) ?_
  obtain ⟨r2, u3, h1, h⟩ := b2E h
  refine r_callV (rest := []) C hw (c_X5_number l D cI cZ z base a 0 8 u0 r2 u3 h1) (cwV 2 C.1.2.2.2.2 gX2_read_X5_number rfl rfl rfl (by decide +kernel) ⟨Nat.le_of_ble_eq_true rfl, Nat.le_of_ble_eq_true rfl⟩) (va_recv C.2.1 hw.1 (ci := 4) (q0 := 2) rfl (XWa_2 cI cZ a u0)) rfl hl.1 rfl (Nat.le_of_ble_eq_true rfl) dX2_read_4 ⟨Nat.zero_le _, Nat.zero_le _⟩ (fun H locs hw => ?_)
  refine lv_iconst (v := 0) hx hb dX2_read_7 (by decide) ?_
  refine r_max C hl.1 (by decide +kernel) (by decide +kernel) (by decide +kernel) (by decide +kernel) (Nat.le_of_ble_eq_true rfl) (Nat.le_of_ble_eq_true rfl) (Nat.zero_le _) (Nat.zero_le _) dX2_read_8 ?_
  refine lv_topi (fun v4 ev4 => ?_)
  have h := nmE ev4 h
  refine lv_istore (lv' := [(4, .int v4), (0, .ref (a 6)), (1, .ref (a 2)), (2, .int x2), (3, .int x3)]) hx hb dX2_read_11 hl (by decide) rfl (fun ls hl => ?_)
  refine lv_aload_n hx hb dX2_read_13 rfl (lv_at hl 1 rfl) ?_
  refine r_get C hw hiX2_read_X2 6 (XWa_6 cI cZ a u3) rfl 0 (by decide) (by decide +kernel) rfl dX2_read_14 ?_
  refine lv_iload_n hx hb dX2_read_17 rfl (lv_at hl 4 rfl) ?_
  refine lv_aload_n hx hb dX2_read_18 rfl (lv_at hl 2 rfl) ?_
  obtain ⟨r6, h5, h⟩ := b1E h
  refine r_callV (rest := [.int x3, .ref (a 25)]) C hw (c_X5_place l D cI cZ z base a u3 r6 h5) (cwV 0 C.1.2.2.2.2 gX2_read_X5_place rfl rfl rfl (by decide +kernel) ⟨Nat.le_of_ble_eq_true rfl, Nat.le_of_ble_eq_true rfl⟩) (va_recv C.2.1 hw.1 (ci := 4) (q0 := 2) rfl (XWa_2 cI cZ a u3)) rfl hl.1 rfl (Nat.le_of_ble_eq_true rfl) dX2_read_19 ⟨Nat.zero_le _, Nat.zero_le _⟩ (fun H locs hw => ?_)
  obtain ⟨g7, h⟩ := ixE h
  obtain ⟨u8, eu8⟩ : ∃ y : St, y = st u3 25 (x3).toNatClampNeg r6 := ⟨_, rfl⟩
  have h := nmE eu8 h
  refine r_ast (ws' := (XW cI cZ a u8)) C hw 25 0 (XWa_25 cI cZ a u3) rfl g7 (by rw [eu8]; exact XWs_25 cI cZ a u3 _ r6) dX2_read_22 (fun H locs hw => ?_)
  refine lv_aload_n hx hb dX2_read_23 rfl (lv_at hl 1 rfl) ?_
  refine r_get C hw hiX2_read_X2 6 (XWa_6 cI cZ a u8) rfl 1 (by decide) (by decide +kernel) rfl dX2_read_24 ?_
  refine lv_iload_n hx hb dX2_read_27 rfl (lv_at hl 4 rfl) ?_
  refine lv_iload hx hb dX2_read_28 (lv_at hl 0 rfl) ?_
  obtain ⟨g9, h⟩ := ixE h
  obtain ⟨u10, eu10⟩ : ∃ y : St, y = st u8 26 (x3).toNatClampNeg v4 := ⟨_, rfl⟩
  have h := nmE eu10 h
  refine r_ast (ws' := (XW cI cZ a u10)) C hw 26 0 (XWa_26 cI cZ a u8) rfl g9 (by rw [eu10]; exact XWs_26 cI cZ a u8 _ v4) dX2_read_30 (fun H locs hw => ?_)
  refine lv_iconst (v := 0) hx hb dX2_read_31 (by decide) ?_
  refine lv_istore (lv' := [(5, .int 0), (4, .int v4), (0, .ref (a 6)), (1, .ref (a 2)), (2, .int x2), (3, .int x3)]) hx hb dX2_read_32 hl (by decide) rfl (fun ls hl => ?_)
  exact J34 fu x2 v4 0 u10 _ _ _ h hw (lv_sub hl [3, 4, 1, 0] rfl)
abbrev rmX3_has : Room := { frames := 0, cells := 0, slots := 0, locals := 0 }
theorem hiX3_has_X3 : ∀ w ∈ wsX30, w ∈ wsX3_has := by decide +kernel
set_option maxHeartbeats 4000000 in
set_option maxRecDepth 100000 in
theorem c_X3_has (l : Launch) (D : va_G) (cI cZ : ClassId) (z : Nat → Nat) (base : Nat) (a : Nat → Nat) (x1 : Int32) (u0 : St) (ro : Int32) (h : F_X3_has x1 u0 = some ro) : MI l D [(cI, .int), (cZ, .boolean)] z base yX3_has wsX3_has rmX3_has [.ref (a 4), .int x1] (XW cI cZ a u0) ro (XW cI cZ a u0) := by
  refine MI.ofZ (own := RX3) (cc := cX3_has) (maxL := 2) (by decide) rfl rfl (Nat.le_of_ble_eq_true rfl) ?_
  intro p e s m args below meth c A Q ls C hl hw hQ
  have hx := C.1.1
  have hb := C.1.2.1
  have hl : lv_has ls 2 [(0, .ref (a 4)), (1, .int x1)] := hl
  rw [F_X3_has] at h
  refine lv_iload_n hx hb dX3_has_0 rfl (lv_at hl 1 rfl) ?_
  refine lv_if_lt (tgt := 22) hx hb dX3_has_1 (by decide) (fun c1 => ?_) (fun c1 => ?_)
  · have h := itT c1 h
    refine lv_iconst (v := 0) hx hb dX3_has_22 (by decide) ?_
    exact r_zretP hQ (by decide) h hw dX3_has_23
  · have h := itF c1 h
    refine lv_iload_n hx hb dX3_has_4 rfl (lv_at hl 1 rfl) ?_
    refine lv_aload_n hx hb dX3_has_5 rfl (lv_at hl 0 rfl) ?_
    refine r_get C hw hiX3_has_X3 4 (XWa_4 cI cZ a u0) rfl 0 (by decide) (by decide +kernel) rfl dX3_has_6 ?_
    refine lv_icmp_ge (tgt := 22) hx hb dX3_has_9 (by decide) (fun c2 => ?_) (fun c2 => ?_)
    · have h := itT c2 h
      refine lv_iconst (v := 0) hx hb dX3_has_22 (by decide) ?_
      exact r_zretP hQ (by decide) h hw dX3_has_23
    · have h := itF c2 h
      refine lv_iload_n hx hb dX3_has_12 rfl (lv_at hl 1 rfl) ?_
      refine lv_bipush (v := 64) hx hb dX3_has_13 (by decide) ?_
      refine lv_icmp_ge (tgt := 22) hx hb dX3_has_15 (by decide) (fun c3 => ?_) (fun c3 => ?_)
      · have h := itT c3 h
        refine lv_iconst (v := 0) hx hb dX3_has_22 (by decide) ?_
        exact r_zretP hQ (by decide) h hw dX3_has_23
      · have h := itF c3 h
        refine lv_iconst (v := 1) hx hb dX3_has_18 (by decide) ?_
        refine lv_goto (tgt := 23) hx hb dX3_has_19 (by decide) ?_
        exact r_zretP hQ (by decide) h hw dX3_has_23
abbrev rmX3_readFirst : Room := { frames := 2, cells := 0, slots := 0, locals := 45 }
theorem hiX3_readFirst_X3 : ∀ w ∈ wsX30, w ∈ wsX3_readFirst := by decide +kernel
set_option maxHeartbeats 4000000 in
set_option maxRecDepth 100000 in
theorem c_X3_readFirst (l : Launch) (D : va_G) (cI cZ : ClassId) (z : Nat → Nat) (base : Nat) (a : Nat → Nat) (u0 : St) (uo : St) (h : F_X3_readFirst u0 = some uo) : MV l D [(cI, .int), (cZ, .boolean)] z base yX3_readFirst wsX3_readFirst rmX3_readFirst [.ref (a 4), .ref (a 2)] (XW cI cZ a u0) (XW cI cZ a uo) := by
  refine MV.of (own := RX3) (cc := cX3_readFirst) (maxL := 3) (by decide) rfl rfl (Nat.le_of_ble_eq_true rfl) ?_
  intro p e s m args below meth c A Q ls C hl hw hQ
  have hx := C.1.1
  have hb := C.1.2.1
  have J40 : ∀ (u0 : St) (H : Heap) (locs : List Loc) (ls : Array Slot), F_X3_readFirst_40 u0 = some uo → Wd D A s.heap H locs (XW cI cZ a u0) → lv_has ls 3 [(1, .ref (a 2))] → W p l e rmX3_readFirst s m args below meth c H locs 0 0 Q (F0 m 40 ls []) := by
    intro u0 H locs ls h hw hl
    rw [F_X3_readFirst_40] at h
    refine lv_aload_n hx hb dX3_readFirst_40 rfl (lv_at hl 0 rfl) ?_
    refine lv_aload_n hx hb dX3_readFirst_41 rfl (lv_at hl 0 rfl) ?_
    obtain ⟨r2, h1, h⟩ := b1E h
    refine r_callV (rest := [.ref (a 2)]) C hw (c_X5_place l D cI cZ z base a u0 r2 h1) (cwV 0 C.1.2.2.2.2 gX3_readFirst_X5_place rfl rfl rfl (by decide +kernel) ⟨Nat.le_of_ble_eq_true rfl, Nat.le_of_ble_eq_true rfl⟩) (va_recv C.2.1 hw.1 (ci := 4) (q0 := 2) rfl (XWa_2 cI cZ a u0)) rfl hl.1 rfl (Nat.le_of_ble_eq_true rfl) dX3_readFirst_42 ⟨Nat.zero_le _, Nat.zero_le _⟩ (fun H locs hw => ?_)
    obtain ⟨u4, h3, h⟩ := b1E h
    refine r_callVv (rest := []) C hw (c_X5_stopAt l D cI cZ z base a r2 u0 u4 h3) (cwV 1 C.1.2.2.2.2 gX3_readFirst_X5_stopAt rfl rfl rfl (by decide +kernel) ⟨Nat.le_of_ble_eq_true rfl, Nat.le_of_ble_eq_true rfl⟩) (va_recv C.2.1 hw.1 (ci := 4) (q0 := 2) rfl (XWa_2 cI cZ a u0)) rfl hl.1 rfl (Nat.le_of_ble_eq_true rfl) dX3_readFirst_45 ⟨Nat.zero_le _, Nat.zero_le _⟩ (fun H locs hw => ?_)
    exact r_vret (f := XW cI cZ a) hQ h hw dX3_readFirst_48
  have hl : lv_has ls 3 [(0, .ref (a 4)), (1, .ref (a 2))] := hl
  rw [F_X3_readFirst] at h
  refine lv_aload_n hx hb dX3_readFirst_0 rfl (lv_at hl 1 rfl) ?_
  obtain ⟨r2, h1, h⟩ := b1E h
  refine r_callV (rest := []) C hw (c_X5_next l D cI cZ z base a u0 r2 h1) (cwV 0 C.1.2.2.2.2 gX3_readFirst_X5_next rfl rfl rfl (by decide +kernel) ⟨Nat.le_of_ble_eq_true rfl, Nat.le_of_ble_eq_true rfl⟩) (va_recv C.2.1 hw.1 (ci := 4) (q0 := 2) rfl (XWa_2 cI cZ a u0)) rfl hl.1 rfl (Nat.le_of_ble_eq_true rfl) dX3_readFirst_1 ⟨Nat.zero_le _, Nat.zero_le _⟩ (fun H locs hw => ?_)
  refine lv_istore_n (lv' := [(2, .int r2), (0, .ref (a 4)), (1, .ref (a 2))]) hx hb dX3_readFirst_4 rfl hl (by decide) rfl (fun ls hl => ?_)
  refine lv_aload_n hx hb dX3_readFirst_5 rfl (lv_at hl 2 rfl) ?_
  obtain ⟨r4, h3, h⟩ := b1E h
  refine r_callV (rest := []) C hw (c_X5_stopped l D cI cZ z base a u0 r4 h3) (cwV 0 C.1.2.2.2.2 gX3_readFirst_X5_stopped rfl rfl rfl (by decide +kernel) ⟨Nat.le_of_ble_eq_true rfl, Nat.le_of_ble_eq_true rfl⟩) (va_recv C.2.1 hw.1 (ci := 4) (q0 := 2) rfl (XWa_2 cI cZ a u0)) rfl hl.1 rfl (Nat.le_of_ble_eq_true rfl) dX3_readFirst_6 ⟨Nat.zero_le _, Nat.zero_le _⟩ (fun H locs hw => ?_)
  refine lv_if_eq (tgt := 13) hx hb dX3_readFirst_9 (by decide) (fun c5 => ?_) (fun c5 => ?_)
  · have h := itT c5 h
    refine lv_aload_n hx hb dX3_readFirst_13 rfl (lv_at hl 1 rfl) ?_
    refine lv_iload_n hx hb dX3_readFirst_14 rfl (lv_at hl 0 rfl) ?_
    obtain ⟨r7, h6, h⟩ := b1E h
    refine r_callV (rest := []) C hw (c_X3_has l D cI cZ z base a r2 u0 r7 h6) (cwV 1 C.1.2.2.2.2 gX3_readFirst_X3_has rfl rfl rfl (by decide +kernel) ⟨Nat.le_of_ble_eq_true rfl, Nat.le_of_ble_eq_true rfl⟩) (va_recv C.2.1 hw.1 (ci := 3) (q0 := 4) rfl (XWa_4 cI cZ a u0)) rfl hl.1 rfl (Nat.le_of_ble_eq_true rfl) dX3_readFirst_15 ⟨Nat.zero_le _, Nat.zero_le _⟩ (fun H locs hw => ?_)
    refine lv_if_eq (tgt := 40) hx hb dX3_readFirst_18 (by decide) (fun c8 => ?_) (fun c8 => ?_)
    · have h := itT c8 h
      exact J40 u0 _ _ _ h hw (lv_sub hl [2] rfl)
    · have h := itF c8 h
      refine lv_aload_n hx hb dX3_readFirst_21 rfl (lv_at hl 1 rfl) ?_
      refine r_get C hw hiX3_readFirst_X3 4 (XWa_4 cI cZ a u0) rfl 2 (by decide) (by decide +kernel) rfl dX3_readFirst_22 ?_
      refine lv_iload_n hx hb dX3_readFirst_25 rfl (lv_at hl 0 rfl) ?_
      obtain ⟨g9, h⟩ := ixE h
      refine r_ald C hw 15 0 (XWa_15 cI cZ a u0) rfl g9 dX3_readFirst_26 ?_
      refine lv_iconst (v := (-1)) hx hb dX3_readFirst_27 (by decide) ?_
      refine lv_icmp_ne (tgt := 40) hx hb dX3_readFirst_28 (by decide) (fun c10 => ?_) (fun c10 => ?_)
      · have h := itF c10 h
        exact J40 u0 _ _ _ h hw (lv_sub hl [2] rfl)
      · have h := itT c10 h
        refine lv_aload_n hx hb dX3_readFirst_31 rfl (lv_at hl 1 rfl) ?_
        refine r_get C hw hiX3_readFirst_X3 4 (XWa_4 cI cZ a u0) rfl 3 (by decide) (by decide +kernel) rfl dX3_readFirst_32 ?_
        refine lv_iload_n hx hb dX3_readFirst_35 rfl (lv_at hl 0 rfl) ?_
        obtain ⟨g11, h⟩ := ixE h
        refine r_ald C hw 16 0 (XWa_16 cI cZ a u0) rfl g11 dX3_readFirst_36 ?_
        refine lv_if_eq (tgt := 49) hx hb dX3_readFirst_37 (by decide) (fun c12 => ?_) (fun c12 => ?_)
        · have h := itT c12 h
          refine lv_aload_n hx hb dX3_readFirst_49 rfl (lv_at hl 1 rfl) ?_
          refine lv_aload_n hx hb dX3_readFirst_50 rfl (lv_at hl 2 rfl) ?_
          refine lv_iload_n hx hb dX3_readFirst_51 rfl (lv_at hl 0 rfl) ?_
          refine lv_iload_n hx hb dX3_readFirst_52 rfl (lv_at hl 0 rfl) ?_
          obtain ⟨r14, u15, h13, h⟩ := b2E h
          refine r_callV (rest := [.ref (a 4)]) C hw (c_X5_number l D cI cZ z base a r2 r2 u0 r14 u15 h13) (cwV 2 C.1.2.2.2.2 gX3_readFirst_X5_number rfl rfl rfl (by decide +kernel) ⟨Nat.le_of_ble_eq_true rfl, Nat.le_of_ble_eq_true rfl⟩) (va_recv C.2.1 hw.1 (ci := 4) (q0 := 2) rfl (XWa_2 cI cZ a u0)) rfl hl.1 rfl (Nat.le_of_ble_eq_true rfl) dX3_readFirst_53 ⟨Nat.zero_le _, Nat.zero_le _⟩ (fun H locs hw => ?_)
          obtain ⟨u16, eu16⟩ : ∃ y : St, y = st u15 4 1 r14 := ⟨_, rfl⟩
          have h := nmE eu16 h
          refine r_put (ws' := (XW cI cZ a u16)) C hw hiX3_readFirst_X3 tyX3 tyX3_ok nmX3 4 (XWa_4 cI cZ a u15) rfl 1 (by decide) (by decide +kernel) rfl (ty := .int) (by decide +kernel) rfl rfl (Nat.le_of_ble_eq_true rfl) (by rw [eu16]; exact XWs_4_1 cI cZ a u15 r14) dX3_readFirst_56 (fun H locs hw => ?_)
          exact r_vret (f := XW cI cZ a) hQ h hw dX3_readFirst_59
        · have h := itF c12 h
          exact J40 u0 _ _ _ h hw (lv_sub hl [2] rfl)
  · have h := itF c5 h
    exact r_vret (f := XW cI cZ a) hQ h hw dX3_readFirst_12
