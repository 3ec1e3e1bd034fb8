abbrev rmX0_inherit : Room := { frames := 3, cells := 0, slots := 0, locals := 64 }
theorem hiX0_inherit_X0 : ∀ w ∈ wsX00, w ∈ wsX0_inherit := by decide +kernel
set_option maxHeartbeats 4000000 in
set_option maxRecDepth 100000 in
theorem c_X0_inherit (l : Launch) (D : va_G) (cI cZ : ClassId) (z : Nat → Nat) (base : Nat) (a : Nat → Nat) (x1 : Int32) (u0 : St) (uo : St) (h : F_X0_inherit x1 u0 = some uo) : MV l D [(cI, .int), (cZ, .boolean)] z base yX0_inherit wsX0_inherit rmX0_inherit [.ref (a 3), .int x1] (XW cI cZ a u0) (XW cI cZ a uo) := by
  refine MV.of (own := RX0) (cc := cX0_inherit) (maxL := 5) (by decide) rfl rfl (Nat.le_of_ble_eq_true rfl) ?_
  intro p e s m args below meth c A Q ls C hl hw hQ
  have hx := C.1.1
  have hb := C.1.2.1
  have J61 : ∀ n61 : Nat, ∀ (x1 x2 x4 : Int32) (u0 : St) (H : Heap) (locs : List Loc) (ls : Array Slot), F_X0_inherit_61 n61 x1 x2 x4 u0 = some uo → Wd D A s.heap H locs (XW cI cZ a u0) → lv_has ls 5 [(0, .ref (a 3)), (1, .int x1), (2, .int x2), (4, .int x4)] → W p l e rmX0_inherit s m args below meth c H locs 0 0 Q (F0 m 61 ls []) := by
    intro n61
    induction n61 with
    | zero => intro x1 x2 x4 u0 H locs ls h; rw [F_X0_inherit_61] at h; cases h
    | succ n61 ih61 =>
      intro x1 x2 x4 u0 H locs ls h hw hl
      rw [F_X0_inherit_61] at h
      refine lv_iload hx hb dX0_inherit_61 (lv_at hl 3 rfl) ?_
      refine lv_bipush (v := 16) hx hb dX0_inherit_63 (by decide) ?_
      refine lv_icmp_ge (tgt := 106) hx hb dX0_inherit_65 (by decide) (fun c1 => ?_) (fun c1 => ?_)
      · have h := itT c1 h
        exact r_vret (f := XW cI cZ a) hQ h hw dX0_inherit_106
      · have h := itF c1 h
        refine lv_aload_n hx hb dX0_inherit_68 rfl (lv_at hl 0 rfl) ?_
        refine r_get C hw hiX0_inherit_X0 3 (XWa_3 cI cZ a u0) rfl 4 (by decide) (by decide +kernel) rfl dX0_inherit_69 ?_
        refine lv_iload_n hx hb dX0_inherit_72 rfl (lv_at hl 1 rfl) ?_
        refine lv_bipush (v := 16) hx hb dX0_inherit_73 (by decide) ?_
        refine lv_imul hx hb dX0_inherit_75 ?_
        refine lv_iload hx hb dX0_inherit_76 (lv_at hl 3 rfl) ?_
        refine lv_iadd hx hb dX0_inherit_78 ?_
        refine lv_aload_n hx hb dX0_inherit_79 rfl (lv_at hl 0 rfl) ?_
        refine lv_iload_n hx hb dX0_inherit_80 rfl (lv_at hl 2 rfl) ?_
        refine lv_iload hx hb dX0_inherit_81 (lv_at hl 3 rfl) ?_
        obtain ⟨r3, h2, h⟩ := b1E h
        refine r_callV (rest := [.int ((x1 * 16) + x4), .ref (a 12)]) C hw (c_X0_slotMethod l D cI cZ z base a x2 x4 u0 r3 h2) (cwV 2 C.1.2.2.2.2 gX0_inherit_X0_slotMethod rfl rfl rfl (by decide +kernel) ⟨Nat.le_of_ble_eq_true rfl, Nat.le_of_ble_eq_true rfl⟩) (va_recv C.2.1 hw.1 (ci := 0) (q0 := 3) rfl (XWa_3 cI cZ a u0)) rfl hl.1 rfl (Nat.le_of_ble_eq_true rfl) dX0_inherit_83 ⟨Nat.zero_le _, Nat.zero_le _⟩ (fun H locs hw => ?_)
        obtain ⟨g4, h⟩ := ixE h
        obtain ⟨u5, eu5⟩ : ∃ y : St, y = st u0 12 (((x1 * 16) + x4)).toNatClampNeg r3 := ⟨_, rfl⟩
        have h := nmE eu5 h
        refine r_ast (ws' := (XW cI cZ a u5)) C hw 12 0 (XWa_12 cI cZ a u0) rfl g4 (by rw [eu5]; exact XWs_12 cI cZ a u0 _ r3) dX0_inherit_86 (fun H locs hw => ?_)
        refine lv_aload_n hx hb dX0_inherit_87 rfl (lv_at hl 0 rfl) ?_
        refine r_get C hw hiX0_inherit_X0 3 (XWa_3 cI cZ a u5) rfl 5 (by decide) (by decide +kernel) rfl dX0_inherit_88 ?_
        refine lv_iload_n hx hb dX0_inherit_91 rfl (lv_at hl 1 rfl) ?_
        refine lv_bipush (v := 16) hx hb dX0_inherit_92 (by decide) ?_
        refine lv_imul hx hb dX0_inherit_94 ?_
        refine lv_iload hx hb dX0_inherit_95 (lv_at hl 3 rfl) ?_
        refine lv_iadd hx hb dX0_inherit_97 ?_
        refine lv_iconst (v := (-1)) hx hb dX0_inherit_98 (by decide) ?_
        obtain ⟨g6, h⟩ := ixE h
        obtain ⟨u7, eu7⟩ : ∃ y : St, y = st u5 13 (((x1 * 16) + x4)).toNatClampNeg (-1) := ⟨_, rfl⟩
        have h := nmE eu7 h
        refine r_ast (ws' := (XW cI cZ a u7)) C hw 13 0 (XWa_13 cI cZ a u5) rfl g6 (by rw [eu7]; exact XWs_13 cI cZ a u5 _ (-1)) dX0_inherit_99 (fun H locs hw => ?_)
        obtain ⟨v8, ev8⟩ : ∃ y : Int32, y = x4 + 1 := ⟨_, rfl⟩
        have h := nmE ev8 h
        refine lv_iinc (v := v8) (lv' := [(4, .int v8), (0, .ref (a 3)), (1, .int x1), (2, .int x2)]) hx hb dX0_inherit_100 hl (k := 3) rfl (by rw [ev8]; rfl) (by decide) rfl (fun ls hl => ?_)
        refine lv_goto (tgt := 61) hx hb dX0_inherit_103 (by decide) ?_
        exact ih61 x1 x2 v8 u7 _ _ _ h hw (lv_sub hl [1, 2, 3, 0] rfl)
  have J27 : ∀ n27 : Nat, ∀ (x1 x2 x3 x4 : Int32) (u0 : St) (H : Heap) (locs : List Loc) (ls : Array Slot), F_X0_inherit_27 n27 x1 x2 x3 x4 u0 = some uo → Wd D A s.heap H locs (XW cI cZ a u0) → lv_has ls 5 [(0, .ref (a 3)), (1, .int x1), (2, .int x2), (3, .int x3), (4, .int x4)] → W p l e rmX0_inherit s m args below meth c H locs 0 0 Q (F0 m 27 ls []) := by
    intro n27
    induction n27 with
    | zero => intro x1 x2 x3 x4 u0 H locs ls h; rw [F_X0_inherit_27] at h; cases h
    | succ n27 ih27 =>
      intro x1 x2 x3 x4 u0 H locs ls h hw hl
      rw [F_X0_inherit_27] at h
      refine lv_iload hx hb dX0_inherit_27 (lv_at hl 4 rfl) ?_
      refine lv_iload_n hx hb dX0_inherit_29 rfl (lv_at hl 3 rfl) ?_
      refine lv_icmp_ge (tgt := 58) hx hb dX0_inherit_30 (by decide) (fun c1 => ?_) (fun c1 => ?_)
      · have h := itT c1 h
        refine lv_iconst (v := 0) hx hb dX0_inherit_58 (by decide) ?_
        refine lv_istore (lv' := [(4, .int 0), (0, .ref (a 3)), (1, .int x1), (2, .int x2), (3, .int x3)]) hx hb dX0_inherit_59 hl (by decide) rfl (fun ls hl => ?_)
        exact J61 fu x1 x2 0 u0 _ _ _ h hw (lv_sub hl [1, 2, 3, 0] rfl)
      · have h := itF c1 h
        refine lv_aload_n hx hb dX0_inherit_33 rfl (lv_at hl 0 rfl) ?_
        refine r_get C hw hiX0_inherit_X0 3 (XWa_3 cI cZ a u0) rfl 3 (by decide) (by decide +kernel) rfl dX0_inherit_34 ?_
        refine lv_iload_n hx hb dX0_inherit_37 rfl (lv_at hl 1 rfl) ?_
        refine lv_bipush (v := 15) hx hb dX0_inherit_38 (by decide) ?_
        refine lv_imul hx hb dX0_inherit_40 ?_
        refine lv_iload hx hb dX0_inherit_41 (lv_at hl 4 rfl) ?_
        refine lv_iadd hx hb dX0_inherit_43 ?_
        refine lv_aload_n hx hb dX0_inherit_44 rfl (lv_at hl 0 rfl) ?_
        refine lv_iload_n hx hb dX0_inherit_45 rfl (lv_at hl 2 rfl) ?_
        refine lv_iload hx hb dX0_inherit_46 (lv_at hl 4 rfl) ?_
        obtain ⟨r3, h2, h⟩ := b1E h
        refine r_callV (rest := [.int ((x1 * 15) + x4), .ref (a 11)]) C hw (c_X0_fieldType l D cI cZ z base a x2 x4 u0 r3 h2) (cwV 2 C.1.2.2.2.2 gX0_inherit_X0_fieldType rfl rfl rfl (by decide +kernel) ⟨Nat.le_of_ble_eq_true rfl, Nat.le_of_ble_eq_true rfl⟩) (va_recv C.2.1 hw.1 (ci := 0) (q0 := 3) rfl (XWa_3 cI cZ a u0)) rfl hl.1 rfl (Nat.le_of_ble_eq_true rfl) dX0_inherit_48 ⟨Nat.zero_le _, Nat.zero_le _⟩ (fun H locs hw => ?_)
        obtain ⟨g4, h⟩ := ixE h
        obtain ⟨u5, eu5⟩ : ∃ y : St, y = st u0 11 (((x1 * 15) + x4)).toNatClampNeg r3 := ⟨_, rfl⟩
        have h := nmE eu5 h
        refine r_ast (ws' := (XW cI cZ a u5)) C hw 11 0 (XWa_11 cI cZ a u0) rfl g4 (by rw [eu5]; exact XWs_11 cI cZ a u0 _ r3) dX0_inherit_51 (fun H locs hw => ?_)
        obtain ⟨v6, ev6⟩ : ∃ y : Int32, y = x4 + 1 := ⟨_, rfl⟩
        have h := nmE ev6 h
        refine lv_iinc (v := v6) (lv' := [(4, .int v6), (0, .ref (a 3)), (1, .int x1), (2, .int x2), (3, .int x3)]) hx hb dX0_inherit_52 hl (k := 4) rfl (by rw [ev6]; rfl) (by decide) rfl (fun ls hl => ?_)
        refine lv_goto (tgt := 27) hx hb dX0_inherit_55 (by decide) ?_
        exact ih27 x1 x2 x3 v6 u5 _ _ _ h hw (lv_sub hl [1, 2, 3, 4, 0] rfl)
  have hl : lv_has ls 5 [(0, .ref (a 3)), (1, .int x1)] := hl
  rw [F_X0_inherit] at h
  refine lv_aload_n hx hb dX0_inherit_0 rfl (lv_at hl 0 rfl) ?_
  refine r_get C hw hiX0_inherit_X0 3 (XWa_3 cI cZ a u0) rfl 1 (by decide) (by decide +kernel) rfl dX0_inherit_1 ?_
  refine lv_iload_n hx hb dX0_inherit_4 rfl (lv_at hl 1 rfl) ?_
  obtain ⟨g1, h⟩ := ixE h
  refine r_ald C hw 9 0 (XWa_9 cI cZ a u0) rfl g1 dX0_inherit_5 ?_
  refine lv_topi (fun v2 ev2 => ?_)
  have h := nmE ev2 h
  refine lv_istore_n (lv' := [(2, .int v2), (0, .ref (a 3)), (1, .int x1)]) hx hb dX0_inherit_6 rfl hl (by decide) rfl (fun ls hl => ?_)
  refine lv_aload_n hx hb dX0_inherit_7 rfl (lv_at hl 1 rfl) ?_
  refine lv_iload_n hx hb dX0_inherit_8 rfl (lv_at hl 0 rfl) ?_
  obtain ⟨r4, h3, h⟩ := b1E h
  refine r_callV (rest := []) C hw (c_X0_fields l D cI cZ z base a v2 u0 r4 h3) (cwV 1 C.1.2.2.2.2 gX0_inherit_X0_fields rfl rfl rfl (by decide +kernel) ⟨Nat.le_of_ble_eq_true rfl, Nat.le_of_ble_eq_true rfl⟩) (va_recv C.2.1 hw.1 (ci := 0) (q0 := 3) rfl (XWa_3 cI cZ a u0)) rfl hl.1 rfl (Nat.le_of_ble_eq_true rfl) dX0_inherit_9 ⟨Nat.zero_le _, Nat.zero_le _⟩ (fun H locs hw => ?_)
  refine lv_iconst (v := 0) hx hb dX0_inherit_12 (by decide) ?_
  refine r_max C hl.1 (by decide +kernel) (by decide +kernel) (by decide +kernel) (by decide +kernel) (Nat.le_of_ble_eq_true rfl) (Nat.le_of_ble_eq_true rfl) (Nat.zero_le _) (Nat.zero_le _) dX0_inherit_13 ?_
  refine lv_topi (fun v5 ev5 => ?_)
  have h := nmE ev5 h
  refine lv_istore_n (lv' := [(3, .int v5), (2, .int v2), (0, .ref (a 3)), (1, .int x1)]) hx hb dX0_inherit_16 rfl hl (by decide) rfl (fun ls hl => ?_)
  refine lv_aload_n hx hb dX0_inherit_17 rfl (lv_at hl 2 rfl) ?_
  refine r_get C hw hiX0_inherit_X0 3 (XWa_3 cI cZ a u0) rfl 2 (by decide) (by decide +kernel) rfl dX0_inherit_18 ?_
  refine lv_iload_n hx hb dX0_inherit_21 rfl (lv_at hl 3 rfl) ?_
  refine lv_iload_n hx hb dX0_inherit_22 rfl (lv_at hl 0 rfl) ?_
  obtain ⟨g6, h⟩ := ixE h
  obtain ⟨u7, eu7⟩ : ∃ y : St, y = st u0 10 (x1).toNatClampNeg v5 := ⟨_, rfl⟩
  have h := nmE eu7 h
  refine r_ast (ws' := (XW cI cZ a u7)) C hw 10 0 (XWa_10 cI cZ a u0) rfl g6 (by rw [eu7]; exact XWs_10 cI cZ a u0 _ v5) dX0_inherit_23 (fun H locs hw => ?_)
  refine lv_iconst (v := 0) hx hb dX0_inherit_24 (by decide) ?_
  refine lv_istore (lv' := [(4, .int 0), (3, .int v5), (2, .int v2), (0, .ref (a 3)), (1, .int x1)]) hx hb dX0_inherit_25 hl (by decide) rfl (fun ls hl => ?_)
  exact J27 fu x1 v2 v5 0 u7 _ _ _ h hw (lv_sub hl [3, 4, 2, 1, 0] rfl)
abbrev rmX5_type : Room := { frames := 2, cells := 0, slots := 0, locals := 45 }
set_option maxHeartbeats 4000000 in
set_option maxRecDepth 100000 in
theorem c_X5_type (l : Launch) (D : va_G) (cI cZ : ClassId) (z : Nat → Nat) (base : Nat) (a : Nat → Nat) (x1 : Int32) (u0 : St) (ro : Int32) (uo : St) (h : F_X5_type x1 u0 = some (ro, uo)) : MI l D [(cI, .int), (cZ, .boolean)] z base yX5_type wsX5_type rmX5_type [.ref (a 2), .int x1] (XW cI cZ a u0) ro (XW cI cZ a uo) := by
  refine MI.ofI (own := RX5) (cc := cX5_type) (maxL := 2) (by decide) rfl rfl (Nat.le_of_ble_eq_true rfl) ?_
  intro p e s m args below meth c A Q ls C hl hw hQ
  have hx := C.1.1
  have hb := C.1.2.1
  have hl : lv_has ls 2 [(0, .ref (a 2)), (1, .int x1)] := hl
  rw [F_X5_type] at h
  refine lv_aload_n hx hb dX5_type_0 rfl (lv_at hl 0 rfl) ?_
  obtain ⟨r2, h1, h⟩ := b1E h
  refine r_callV (rest := []) C hw (c_X5_next l D cI cZ z base a u0 r2 h1) (cwV 0 C.1.2.2.2.2 gX5_type_X5_next rfl rfl rfl (by decide +kernel) ⟨Nat.le_of_ble_eq_true rfl, Nat.le_of_ble_eq_true rfl⟩) (va_recv C.2.1 hw.1 (ci := 4) (q0 := 2) rfl (XWa_2 cI cZ a u0)) rfl hl.1 rfl (Nat.le_of_ble_eq_true rfl) dX5_type_1 ⟨Nat.zero_le _, Nat.zero_le _⟩ (fun H locs hw => ?_)
  refine lv_bipush (v := 64) hx hb dX5_type_4 (by decide) ?_
  refine lv_icmp_ge (tgt := 18) hx hb dX5_type_6 (by decide) (fun c3 => ?_) (fun c3 => ?_)
  · have h := itT c3 h
    refine lv_aload_n hx hb dX5_type_18 rfl (lv_at hl 0 rfl) ?_
    refine lv_bipush (v := 64) hx hb dX5_type_19 (by decide) ?_
    refine lv_bipush (v := 64) hx hb dX5_type_21 (by decide) ?_
    refine lv_iload_n hx hb dX5_type_23 rfl (lv_at hl 1 rfl) ?_
    refine lv_iadd hx hb dX5_type_24 ?_
    obtain ⟨r5, u6, h4, h⟩ := b2E h
    refine r_callV (rest := []) C hw (c_X5_number l D cI cZ z base a 64 (64 + x1) u0 r5 u6 h4) (cwV 2 C.1.2.2.2.2 gX5_type_X5_number rfl rfl rfl (by decide +kernel) ⟨Nat.le_of_ble_eq_true rfl, Nat.le_of_ble_eq_true rfl⟩) (va_recv C.2.1 hw.1 (ci := 4) (q0 := 2) rfl (XWa_2 cI cZ a u0)) rfl hl.1 rfl (Nat.le_of_ble_eq_true rfl) dX5_type_25 ⟨Nat.zero_le _, Nat.zero_le _⟩ (fun H locs hw => ?_)
    exact r_iret (f := XW cI cZ a) hQ h hw dX5_type_28
  · have h := itF c3 h
    refine lv_aload_n hx hb dX5_type_9 rfl (lv_at hl 0 rfl) ?_
    refine lv_iconst (v := 0) hx hb dX5_type_10 (by decide) ?_
    refine lv_iload_n hx hb dX5_type_11 rfl (lv_at hl 1 rfl) ?_
    obtain ⟨r8, u9, h7, h⟩ := b2E h
    refine r_callV (rest := []) C hw (c_X5_number l D cI cZ z base a 0 x1 u0 r8 u9 h7) (cwV 2 C.1.2.2.2.2 gX5_type_X5_number rfl rfl rfl (by decide +kernel) ⟨Nat.le_of_ble_eq_true rfl, Nat.le_of_ble_eq_true rfl⟩) (va_recv C.2.1 hw.1 (ci := 4) (q0 := 2) rfl (XWa_2 cI cZ a u0)) rfl hl.1 rfl (Nat.le_of_ble_eq_true rfl) dX5_type_12 ⟨Nat.zero_le _, Nat.zero_le _⟩ (fun H locs hw => ?_)
    refine lv_goto (tgt := 28) hx hb dX5_type_15 (by decide) ?_
    exact r_iret (f := XW cI cZ a) hQ h hw dX5_type_28
abbrev rmX0_readFields : Room := { frames := 3, cells := 0, slots := 0, locals := 66 }
theorem hiX0_readFields_X0 : ∀ w ∈ wsX00, w ∈ wsX0_readFields := by decide +kernel
set_option maxHeartbeats 4000000 in
set_option maxRecDepth 100000 in
theorem c_X0_readFields (l : Launch) (D : va_G) (cI cZ : ClassId) (z : Nat → Nat) (base : Nat) (a : Nat → Nat) (x2 : Int32) (u0 : St) (uo : St) (h : F_X0_readFields x2 u0 = some uo) : MV l D [(cI, .int), (cZ, .boolean)] z base yX0_readFields wsX0_readFields rmX0_readFields [.ref (a 3), .ref (a 2), .int x2] (XW cI cZ a u0) (XW cI cZ a uo) := by
  refine MV.of (own := RX0) (cc := cX0_readFields) (maxL := 6) (by decide) rfl rfl (Nat.le_of_ble_eq_true rfl) ?_
  intro p e s m args below meth c A Q ls C hl hw hQ
  have hx := C.1.1
  have hb := C.1.2.1
  have J63 : ∀ (x2 x3 x4 : Int32) (u0 : St) (H : Heap) (locs : List Loc) (ls : Array Slot), F_X0_readFields_63 x2 x3 x4 u0 = some uo → Wd D A s.heap H locs (XW cI cZ a u0) → lv_has ls 6 [(0, .ref (a 3)), (2, .int x2), (3, .int x3), (4, .int x4)] → W p l e rmX0_readFields s m args below meth c H locs 0 0 Q (F0 m 63 ls []) := by
    intro x2 x3 x4 u0 H locs ls h hw hl
    rw [F_X0_readFields_63] at h
    refine lv_aload_n hx hb dX0_readFields_63 rfl (lv_at hl 0 rfl) ?_
    refine r_get C hw hiX0_readFields_X0 3 (XWa_3 cI cZ a u0) rfl 2 (by decide) (by decide +kernel) rfl dX0_readFields_64 ?_
    refine lv_iload_n hx hb dX0_readFields_67 rfl (lv_at hl 1 rfl) ?_
    refine lv_iload_n hx hb dX0_readFields_68 rfl (lv_at hl 2 rfl) ?_
    refine lv_iload hx hb dX0_readFields_69 (lv_at hl 3 rfl) ?_
    refine lv_iconst (v := 0) hx hb dX0_readFields_71 (by decide) ?_
    refine r_max C hl.1 (by decide +kernel) (by decide +kernel) (by decide +kernel) (by decide +kernel) (Nat.le_of_ble_eq_true rfl) (Nat.le_of_ble_eq_true rfl) (Nat.zero_le _) (Nat.zero_le _) dX0_readFields_72 ?_
    refine lv_iadd hx hb dX0_readFields_75 ?_
    obtain ⟨g1, h⟩ := ixE h
    obtain ⟨u2, eu2⟩ : ∃ y : St, y = st u0 10 (x2).toNatClampNeg (x3 + (if x4 < 0 then 0 else x4)) := ⟨_, rfl⟩
    have h := nmE eu2 h
    refine r_ast (ws' := (XW cI cZ a u2)) C hw 10 0 (XWa_10 cI cZ a u0) rfl g1 (by rw [eu2]; exact XWs_10 cI cZ a u0 _ (x3 + (if x4 < 0 then 0 else x4))) dX0_readFields_76 (fun H locs hw => ?_)
    exact r_vret (f := XW cI cZ a) hQ h hw dX0_readFields_77
  have J21 : ∀ n21 : Nat, ∀ (x2 x3 x4 x5 : Int32) (u0 : St) (H : Heap) (locs : List Loc) (ls : Array Slot), F_X0_readFields_21 n21 x2 x3 x4 x5 u0 = some uo → Wd D A s.heap H locs (XW cI cZ a u0) → lv_has ls 6 [(0, .ref (a 3)), (1, .ref (a 2)), (2, .int x2), (3, .int x3), (4, .int x4), (5, .int x5)] → W p l e rmX0_readFields s m args below meth c H locs 0 0 Q (F0 m 21 ls []) := by
    intro n21
    induction n21 with
    | zero => intro x2 x3 x4 x5 u0 H locs ls h; rw [F_X0_readFields_21] at h; cases h
    | succ n21 ih21 =>
      intro x2 x3 x4 x5 u0 H locs ls h hw hl
      rw [F_X0_readFields_21] at h
      refine lv_iload hx hb dX0_readFields_21 (lv_at hl 5 rfl) ?_
      refine lv_iload hx hb dX0_readFields_23 (lv_at hl 4 rfl) ?_
      refine lv_icmp_ge (tgt := 63) hx hb dX0_readFields_25 (by decide) (fun c1 => ?_) (fun c1 => ?_)
      · have h := itT c1 h
        exact J63 x2 x3 x4 u0 _ _ _ h hw (lv_sub hl [0, 2, 3, 4] rfl)
      · have h := itF c1 h
        refine lv_aload_n hx hb dX0_readFields_28 rfl (lv_at hl 1 rfl) ?_
        obtain ⟨r3, h2, h⟩ := b1E h
        refine r_callV (rest := []) C hw (c_X5_stopped l D cI cZ z base a u0 r3 h2) (cwV 0 C.1.2.2.2.2 gX0_readFields_X5_stopped rfl rfl rfl (by decide +kernel) ⟨Nat.le_of_ble_eq_true rfl, Nat.le_of_ble_eq_true rfl⟩) (va_recv C.2.1 hw.1 (ci := 4) (q0 := 2) rfl (XWa_2 cI cZ a u0)) rfl hl.1 rfl (Nat.le_of_ble_eq_true rfl) dX0_readFields_29 ⟨Nat.zero_le _, Nat.zero_le _⟩ (fun H locs hw => ?_)
        refine lv_if_ne (tgt := 63) hx hb dX0_readFields_32 (by decide) (fun c4 => ?_) (fun c4 => ?_)
        · have h := itF c4 h
          exact J63 x2 x3 x4 u0 _ _ _ h hw (lv_sub hl [0, 2, 3, 4] rfl)
        · have h := itT c4 h
          refine lv_aload_n hx hb dX0_readFields_35 rfl (lv_at hl 0 rfl) ?_
          refine r_get C hw hiX0_readFields_X0 3 (XWa_3 cI cZ a u0) rfl 3 (by decide) (by decide +kernel) rfl dX0_readFields_36 ?_
          refine lv_iload_n hx hb dX0_readFields_39 rfl (lv_at hl 2 rfl) ?_
          refine lv_bipush (v := 15) hx hb dX0_readFields_40 (by decide) ?_
          refine lv_imul hx hb dX0_readFields_42 ?_
          refine lv_iload_n hx hb dX0_readFields_43 rfl (lv_at hl 3 rfl) ?_
          refine lv_iadd hx hb dX0_readFields_44 ?_
          refine lv_iload hx hb dX0_readFields_45 (lv_at hl 5 rfl) ?_
          refine lv_iadd hx hb dX0_readFields_47 ?_
          refine lv_aload_n hx hb dX0_readFields_48 rfl (lv_at hl 1 rfl) ?_
          refine lv_aload_n hx hb dX0_readFields_49 rfl (lv_at hl 0 rfl) ?_
          refine r_get C hw hiX0_readFields_X0 3 (XWa_3 cI cZ a u0) rfl 0 (by decide) (by decide +kernel) rfl dX0_readFields_50 ?_
          obtain ⟨r6, u7, h5, h⟩ := b2E h
          refine r_callV (rest := [.int (((x2 * 15) + x3) + x5), .ref (a 11)]) C hw (c_X5_type l D cI cZ z base a (u0 3 0) u0 r6 u7 h5) (cwV 1 C.1.2.2.2.2 gX0_readFields_X5_type rfl rfl rfl (by decide +kernel) ⟨Nat.le_of_ble_eq_true rfl, Nat.le_of_ble_eq_true rfl⟩) (va_recv C.2.1 hw.1 (ci := 4) (q0 := 2) rfl (XWa_2 cI cZ a u0)) rfl hl.1 rfl (Nat.le_of_ble_eq_true rfl) dX0_readFields_53 ⟨Nat.zero_le _, Nat.zero_le _⟩ (fun H locs hw => ?_)
          obtain ⟨g8, h⟩ := ixE h
          obtain ⟨u9, eu9⟩ : ∃ y : St, y = st u7 11 ((((x2 * 15) + x3) + x5)).toNatClampNeg r6 := ⟨_, rfl⟩
          have h := nmE eu9 h
          refine r_ast (ws' := (XW cI cZ a u9)) C hw 11 0 (XWa_11 cI cZ a u7) rfl g8 (by rw [eu9]; exact XWs_11 cI cZ a u7 _ r6) dX0_readFields_56 (fun H locs hw => ?_)
          obtain ⟨v10, ev10⟩ : ∃ y : Int32, y = x5 + 1 := ⟨_, rfl⟩
          have h := nmE ev10 h
          refine lv_iinc (v := v10) (lv' := [(5, .int v10), (0, .ref (a 3)), (1, .ref (a 2)), (2, .int x2), (3, .int x3), (4, .int x4)]) hx hb dX0_readFields_57 hl (k := 5) rfl (by rw [ev10]; rfl) (by decide) rfl (fun ls hl => ?_)
          refine lv_goto (tgt := 21) hx hb dX0_readFields_60 (by decide) ?_
          exact ih21 x2 x3 x4 v10 u9 _ _ _ h hw (lv_sub hl [1, 2, 3, 4, 5, 0] rfl)
  have hl : lv_has ls 6 [(0, .ref (a 3)), (1, .ref (a 2)), (2, .int x2)] := hl
  rw [F_X0_readFields] at h
  refine lv_aload_n hx hb dX0_readFields_0 rfl (lv_at hl 0 rfl) ?_
  refine r_get C hw hiX0_readFields_X0 3 (XWa_3 cI cZ a u0) rfl 2 (by decide) (by decide +kernel) rfl dX0_readFields_1 ?_
  refine lv_iload_n hx hb dX0_readFields_4 rfl (lv_at hl 2 rfl) ?_
  obtain ⟨g1, h⟩ := ixE h
  refine r_ald C hw 10 0 (XWa_10 cI cZ a u0) rfl g1 dX0_readFields_5 ?_
  refine lv_topi (fun v2 ev2 => ?_)
  have h := nmE ev2 h
  refine lv_istore_n (lv' := [(3, .int v2), (0, .ref (a 3)), (1, .ref (a 2)), (2, .int x2)]) hx hb dX0_readFields_6 rfl hl (by decide) rfl (fun ls hl => ?_)
  refine lv_aload_n hx hb dX0_readFields_7 rfl (lv_at hl 2 rfl) ?_
  refine lv_iconst (v := 0) hx hb dX0_readFields_8 (by decide) ?_
  refine lv_bipush (v := 15) hx hb dX0_readFields_9 (by decide) ?_
  refine lv_iload_n hx hb dX0_readFields_11 rfl (lv_at hl 0 rfl) ?_
  refine lv_isub hx hb dX0_readFields_12 ?_
  obtain ⟨r4, u5, h3, h⟩ := b2E h
  refine r_callV (rest := []) C hw (c_X5_number l D cI cZ z base a 0 (15 - v2) u0 r4 u5 h3) (cwV 2 C.1.2.2.2.2 gX0_readFields_X5_number rfl rfl rfl (by decide +kernel) ⟨Nat.le_of_ble_eq_true rfl, Nat.le_of_ble_eq_true rfl⟩) (va_recv C.2.1 hw.1 (ci := 4) (q0 := 2) rfl (XWa_2 cI cZ a u0)) rfl hl.1 rfl (Nat.le_of_ble_eq_true rfl) dX0_readFields_13 ⟨Nat.zero_le _, Nat.zero_le _⟩ (fun H locs hw => ?_)
  refine lv_istore (lv' := [(4, .int r4), (3, .int v2), (0, .ref (a 3)), (1, .ref (a 2)), (2, .int x2)]) hx hb dX0_readFields_16 hl (by decide) rfl (fun ls hl => ?_)
  refine lv_iconst (v := 0) hx hb dX0_readFields_18 (by decide) ?_
  refine lv_istore (lv' := [(5, .int 0), (4, .int r4), (3, .int v2), (0, .ref (a 3)), (1, .ref (a 2)), (2, .int x2)]) hx hb dX0_readFields_19 hl (by decide) rfl (fun ls hl => ?_)
  exact J21 fu x2 v2 r4 0 u5 _ _ _ h hw (lv_sub hl [3, 4, 5, 2, 1, 0] rfl)
abbrev rmX5_place : Room := { frames := 0, cells := 0, slots := 0, locals := 0 }
theorem hiX5_place_X5 : ∀ w ∈ wsX50, w ∈ wsX5_place := by decide +kernel
set_option maxHeartbeats 4000000 in
set_option maxRecDepth 100000 in
theorem c_X5_place (l : Launch) (D : va_G) (cI cZ : ClassId) (z : Nat → Nat) (base : Nat) (a : Nat → Nat) (u0 : St) (ro : Int32) (h : F_X5_place u0 = some ro) : MI l D [(cI, .int), (cZ, .boolean)] z base yX5_place wsX5_place rmX5_place [.ref (a 2)] (XW cI cZ a u0) ro (XW cI cZ a u0) := by
  refine MI.ofI (own := RX5) (cc := cX5_place) (maxL := 1) (by decide) rfl rfl (Nat.le_of_ble_eq_true rfl) ?_
  intro p e s m args below meth c A Q ls C hl hw hQ
  have hx := C.1.1
  have hb := C.1.2.1
  have hl : lv_has ls 1 [(0, .ref (a 2))] := hl
  rw [F_X5_place] at h
  refine lv_aload_n hx hb dX5_place_0 rfl (lv_at hl 0 rfl) ?_
  refine r_get C hw hiX5_place_X5 2 (XWa_2 cI cZ a u0) rfl 2 (by decide) (by decide +kernel) rfl dX5_place_1 ?_
  exact r_iretP hQ h hw dX5_place_4
abbrev rmX0_readSlots : Room := { frames := 2, cells := 0, slots := 0, locals := 45 }
theorem hiX0_readSlots_X0 : ∀ w ∈ wsX00, w ∈ wsX0_readSlots := by decide +kernel
set_option maxHeartbeats 4000000 in
set_option maxRecDepth 100000 in
theorem c_X0_readSlots (l : Launch) (D : va_G) (cI cZ : ClassId) (z : Nat → Nat) (base : Nat) (a : Nat → Nat) (x2 : Int32) (u0 : St) (uo : St) (h : F_X0_readSlots x2 u0 = some uo) : MV l D [(cI, .int), (cZ, .boolean)] z base yX0_readSlots wsX0_readSlots rmX0_readSlots [.ref (a 3), .ref (a 2), .int x2] (XW cI cZ a u0) (XW cI cZ a uo) := by
  refine MV.of (own := RX0) (cc := cX0_readSlots) (maxL := 9) (by decide) rfl rfl (Nat.le_of_ble_eq_true rfl) ?_
  intro p e s m args below meth c A Q ls C hl hw hQ
  have hx := C.1.1
  have hb := C.1.2.1
  have J14 : ∀ n14 : Nat, ∀ (x2 x3 x4 x5 : Int32) (u0 : St) (H : Heap) (locs : List Loc) (ls : Array Slot), F_X0_readSlots_14 n14 x2 x3 x4 x5 u0 = some uo → Wd D A s.heap H locs (XW cI cZ a u0) → lv_has ls 9 [(0, .ref (a 3)), (1, .ref (a 2)), (2, .int x2), (3, .int x3), (4, .int x4), (5, .int x5)] → W p l e rmX0_readSlots s m args below meth c H locs 0 0 Q (F0 m 14 ls []) := by
    intro n14
    induction n14 with
    | zero => intro x2 x3 x4 x5 u0 H locs ls h; rw [F_X0_readSlots_14] at h; cases h
    | succ n14 ih14 =>
      intro x2 x3 x4 x5 u0 H locs ls h hw hl
      rw [F_X0_readSlots_14] at h
      refine lv_iload hx hb dX0_readSlots_14 (lv_at hl 5 rfl) ?_
      refine lv_iload_n hx hb dX0_readSlots_16 rfl (lv_at hl 3 rfl) ?_
      refine lv_icmp_ge (tgt := 94) hx hb dX0_readSlots_17 (by decide) (fun c1 => ?_) (fun c1 => ?_)
      · have h := itT c1 h
        exact r_vret (f := XW cI cZ a) hQ h hw dX0_readSlots_94
      · have h := itF c1 h
        refine lv_aload_n hx hb dX0_readSlots_20 rfl (lv_at hl 1 rfl) ?_
        refine lv_iload hx hb dX0_readSlots_21 (lv_at hl 4 rfl) ?_
        refine lv_bipush (v := 15) hx hb dX0_readSlots_23 (by decide) ?_
        obtain ⟨r3, u4, h2, h⟩ := b2E h
        refine r_callV (rest := []) C hw (c_X5_number l D cI cZ z base a x4 15 u0 r3 u4 h2) (cwV 2 C.1.2.2.2.2 gX0_readSlots_X5_number rfl rfl rfl (by decide +kernel) ⟨Nat.le_of_ble_eq_true rfl, Nat.le_of_ble_eq_true rfl⟩) (va_recv C.2.1 hw.1 (ci := 4) (q0 := 2) rfl (XWa_2 cI cZ a u0)) rfl hl.1 rfl (Nat.le_of_ble_eq_true rfl) dX0_readSlots_25 ⟨Nat.zero_le _, Nat.zero_le _⟩ (fun H locs hw => ?_)
        refine lv_istore (lv' := [(6, .int r3), (0, .ref (a 3)), (1, .ref (a 2)), (2, .int x2), (3, .int x3), (4, .int x4), (5, .int x5)]) hx hb dX0_readSlots_28 hl (by decide) rfl (fun ls hl => ?_)
        refine lv_aload_n hx hb dX0_readSlots_30 rfl (lv_at hl 2 rfl) ?_
        obtain ⟨r6, h5, h⟩ := b1E h
        refine r_callV (rest := []) C hw (c_X5_place l D cI cZ z base a u4 r6 h5) (cwV 0 C.1.2.2.2.2 gX0_readSlots_X5_place rfl rfl rfl (by decide +kernel) ⟨Nat.le_of_ble_eq_true rfl, Nat.le_of_ble_eq_true rfl⟩) (va_recv C.2.1 hw.1 (ci := 4) (q0 := 2) rfl (XWa_2 cI cZ a u4)) rfl hl.1 rfl (Nat.le_of_ble_eq_true rfl) dX0_readSlots_31 ⟨Nat.zero_le _, Nat.zero_le _⟩ (fun H locs hw => ?_)
        refine lv_istore (lv' := [(7, .int r6), (6, .int r3), (0, .ref (a 3)), (1, .ref (a 2)), (2, .int x2), (3, .int x3), (4, .int x4), (5, .int x5)]) hx hb dX0_readSlots_34 hl (by decide) rfl (fun ls hl => ?_)
        refine lv_aload_n hx hb dX0_readSlots_36 rfl (lv_at hl 3 rfl) ?_
        refine lv_iconst (v := 0) hx hb dX0_readSlots_37 (by decide) ?_
        refine lv_sipush (v := 255) hx hb dX0_readSlots_38 (by decide) ?_
        obtain ⟨r8, u9, h7, h⟩ := b2E h
        refine r_callV (rest := []) C hw (c_X5_number l D cI cZ z base a 0 255 u4 r8 u9 h7) (cwV 2 C.1.2.2.2.2 gX0_readSlots_X5_number rfl rfl rfl (by decide +kernel) ⟨Nat.le_of_ble_eq_true rfl, Nat.le_of_ble_eq_true rfl⟩) (va_recv C.2.1 hw.1 (ci := 4) (q0 := 2) rfl (XWa_2 cI cZ a u4)) rfl hl.1 rfl (Nat.le_of_ble_eq_true rfl) dX0_readSlots_41 ⟨Nat.zero_le _, Nat.zero_le _⟩ (fun H locs hw => ?_)
        refine lv_istore (lv' := [(8, .int r8), (7, .int r6), (6, .int r3), (0, .ref (a 3)), (1, .ref (a 2)), (2, .int x2), (3, .int x3), (4, .int x4), (5, .int x5)]) hx hb dX0_readSlots_44 hl (by decide) rfl (fun ls hl => ?_)
        refine lv_aload_n hx hb dX0_readSlots_46 rfl (lv_at hl 4 rfl) ?_
        obtain ⟨r11, h10, h⟩ := b1E h
        refine r_callV (rest := []) C hw (c_X5_stopped l D cI cZ z base a u9 r11 h10) (cwV 0 C.1.2.2.2.2 gX0_readSlots_X5_stopped rfl rfl rfl (by decide +kernel) ⟨Nat.le_of_ble_eq_true rfl, Nat.le_of_ble_eq_true rfl⟩) (va_recv C.2.1 hw.1 (ci := 4) (q0 := 2) rfl (XWa_2 cI cZ a u9)) rfl hl.1 rfl (Nat.le_of_ble_eq_true rfl) dX0_readSlots_47 ⟨Nat.zero_le _, Nat.zero_le _⟩ (fun H locs hw => ?_)
        refine lv_if_eq (tgt := 54) hx hb dX0_readSlots_50 (by decide) (fun c12 => ?_) (fun c12 => ?_)
        · have h := itT c12 h
          refine lv_aload_n hx hb dX0_readSlots_54 rfl (lv_at hl 3 rfl) ?_
          refine r_get C hw hiX0_readSlots_X0 3 (XWa_3 cI cZ a u9) rfl 4 (by decide) (by decide +kernel) rfl dX0_readSlots_55 ?_
          refine lv_iload_n hx hb dX0_readSlots_58 rfl (lv_at hl 5 rfl) ?_
          refine lv_bipush (v := 16) hx hb dX0_readSlots_59 (by decide) ?_
          refine lv_imul hx hb dX0_readSlots_61 ?_
          refine lv_iload hx hb dX0_readSlots_62 (lv_at hl 2 rfl) ?_
          refine lv_iadd hx hb dX0_readSlots_64 ?_
          refine lv_iload hx hb dX0_readSlots_65 (lv_at hl 0 rfl) ?_
          obtain ⟨g13, h⟩ := ixE h
          obtain ⟨u14, eu14⟩ : ∃ y : St, y = st u9 12 (((x2 * 16) + r3)).toNatClampNeg r8 := ⟨_, rfl⟩
          have h := nmE eu14 h
          refine r_ast (ws' := (XW cI cZ a u14)) C hw 12 0 (XWa_12 cI cZ a u9) rfl g13 (by rw [eu14]; exact XWs_12 cI cZ a u9 _ r8) dX0_readSlots_67 (fun H locs hw => ?_)
          refine lv_aload_n hx hb dX0_readSlots_68 rfl (lv_at hl 3 rfl) ?_
          refine r_get C hw hiX0_readSlots_X0 3 (XWa_3 cI cZ a u14) rfl 5 (by decide) (by decide +kernel) rfl dX0_readSlots_69 ?_
          refine lv_iload_n hx hb dX0_readSlots_72 rfl (lv_at hl 5 rfl) ?_
          refine lv_bipush (v := 16) hx hb dX0_readSlots_73 (by decide) ?_
          refine lv_imul hx hb dX0_readSlots_75 ?_
          refine lv_iload hx hb dX0_readSlots_76 (lv_at hl 2 rfl) ?_
          refine lv_iadd hx hb dX0_readSlots_78 ?_
          refine lv_iload hx hb dX0_readSlots_79 (lv_at hl 1 rfl) ?_
          obtain ⟨g15, h⟩ := ixE h
          obtain ⟨u16, eu16⟩ : ∃ y : St, y = st u14 13 (((x2 * 16) + r3)).toNatClampNeg r6 := ⟨_, rfl⟩
          have h := nmE eu16 h
          refine r_ast (ws' := (XW cI cZ a u16)) C hw 13 0 (XWa_13 cI cZ a u14) rfl g15 (by rw [eu16]; exact XWs_13 cI cZ a u14 _ r6) dX0_readSlots_81 (fun H locs hw => ?_)
          refine lv_iload hx hb dX0_readSlots_82 (lv_at hl 2 rfl) ?_
          refine lv_iconst (v := 1) hx hb dX0_readSlots_84 (by decide) ?_
          refine lv_iadd hx hb dX0_readSlots_85 ?_
          refine lv_topi (fun v17 ev17 => ?_)
          have h := nmE ev17 h
          refine lv_istore (lv' := [(4, .int v17), (8, .int r8), (7, .int r6), (6, .int r3), (0, .ref (a 3)), (1, .ref (a 2)), (2, .int x2), (3, .int x3), (5, .int x5)]) hx hb dX0_readSlots_86 hl (by decide) rfl (fun ls hl => ?_)
          obtain ⟨v18, ev18⟩ : ∃ y : Int32, y = x5 + 1 := ⟨_, rfl⟩
          have h := nmE ev18 h
          refine lv_iinc (v := v18) (lv' := [(5, .int v18), (4, .int v17), (8, .int r8), (7, .int r6), (6, .int r3), (0, .ref (a 3)), (1, .ref (a 2)), (2, .int x2), (3, .int x3)]) hx hb dX0_readSlots_88 hl (k := 8) rfl (by rw [ev18]; rfl) (by decide) rfl (fun ls hl => ?_)
          refine lv_goto (tgt := 14) hx hb dX0_readSlots_91 (by decide) ?_
          exact ih14 x2 x3 v17 v18 u16 _ _ _ h hw (lv_sub hl [5, 6, 7, 8, 1, 0] rfl)
        · have h := itF c12 h
          exact r_vret (f := XW cI cZ a) hQ h hw dX0_readSlots_53
  have hl : lv_has ls 9 [(0, .ref (a 3)), (1, .ref (a 2)), (2, .int x2)] := hl
  rw [F_X0_readSlots] at h
  refine lv_aload_n hx hb dX0_readSlots_0 rfl (lv_at hl 1 rfl) ?_
  refine lv_iconst (v := 0) hx hb dX0_readSlots_1 (by decide) ?_
  refine lv_bipush (v := 16) hx hb dX0_readSlots_2 (by decide) ?_
  obtain ⟨r2, u3, h1, h⟩ := b2E h
  refine r_callV (rest := []) C hw (c_X5_number l D cI cZ z base a 0 16 u0 r2 u3 h1) (cwV 2 C.1.2.2.2.2 gX0_readSlots_X5_number rfl rfl rfl (by decide +kernel) ⟨Nat.le_of_ble_eq_true rfl, Nat.le_of_ble_eq_true rfl⟩) (va_recv C.2.1 hw.1 (ci := 4) (q0 := 2) rfl (XWa_2 cI cZ a u0)) rfl hl.1 rfl (Nat.le_of_ble_eq_true rfl) dX0_readSlots_4 ⟨Nat.zero_le _, Nat.zero_le _⟩ (fun H locs hw => ?_)
  refine lv_istore_n (lv' := [(3, .int r2), (0, .ref (a 3)), (1, .ref (a 2)), (2, .int x2)]) hx hb dX0_readSlots_7 rfl hl (by decide) rfl (fun ls hl => ?_)
  refine lv_iconst (v := 0) hx hb dX0_readSlots_8 (by decide) ?_
  refine lv_istore (lv' := [(4, .int 0), (3, .int r2), (0, .ref (a 3)), (1, .ref (a 2)), (2, .int x2)]) hx hb dX0_readSlots_9 hl (by decide) rfl (fun ls hl => ?_)
  refine lv_iconst (v := 0) hx hb dX0_readSlots_11 (by decide) ?_
  refine lv_istore (lv' := [(5, .int 0), (4, .int 0), (3, .int r2), (0, .ref (a 3)), (1, .ref (a 2)), (2, .int x2)]) hx hb dX0_readSlots_12 hl (by decide) rfl (fun ls hl => ?_)
  exact J14 fu x2 r2 0 0 u3 _ _ _ h hw (lv_sub hl [3, 4, 5, 2, 1, 0] rfl)
abbrev rmX0_readClass : Room := { frames := 4, cells := 0, slots := 0, locals := 91 }
theorem hiX0_readClass_X0 : ∀ w ∈ wsX00, w ∈ wsX0_readClass := by decide +kernel
set_option maxHeartbeats 4000000 in
set_option maxRecDepth 100000 in
theorem c_X0_readClass (l : Launch) (D : va_G) (cI cZ : ClassId) (z : Nat → Nat) (base : Nat) (a : Nat → Nat) (x2 : Int32) (u0 : St) (uo : St) (h : F_X0_readClass x2 u0 = some uo) : MV l D [(cI, .int), (cZ, .boolean)] z base yX0_readClass wsX0_readClass rmX0_readClass [.ref (a 3), .ref (a 2), .int x2] (XW cI cZ a u0) (XW cI cZ a uo) := by
  refine MV.of (own := RX0) (cc := cX0_readClass) (maxL := 4) (by decide) rfl rfl (Nat.le_of_ble_eq_true rfl) ?_
  intro p e s m args below meth c A Q ls C hl hw hQ
  have hx := C.1.1
  have hb := C.1.2.1
  have J25 : ∀ (x2 t0 t1 : Int32) (u0 : St) (H : Heap) (locs : List Loc) (ls : Array Slot), F_X0_readClass_25 x2 t0 t1 u0 = some uo → Wd D A s.heap H locs (XW cI cZ a u0) → lv_has ls 4 [(0, .ref (a 3)), (1, .ref (a 2)), (2, .int x2)] → W p l e rmX0_readClass s m args below meth c H locs 0 0 Q (F0 m 25 ls [.int t0, .int t1, .ref (a 9)]) := by
    intro x2 t0 t1 u0 H locs ls h hw hl
    rw [F_X0_readClass_25] at h
    obtain ⟨g1, h⟩ := ixE h
    obtain ⟨u2, eu2⟩ : ∃ y : St, y = st u0 9 (t1).toNatClampNeg t0 := ⟨_, rfl⟩
    have h := nmE eu2 h
    refine r_ast (ws' := (XW cI cZ a u2)) C hw 9 0 (XWa_9 cI cZ a u0) rfl g1 (by rw [eu2]; exact XWs_9 cI cZ a u0 _ t0) dX0_readClass_25 (fun H locs hw => ?_)
    refine lv_aload_n hx hb dX0_readClass_26 rfl (lv_at hl 0 rfl) ?_
    refine lv_iload_n hx hb dX0_readClass_27 rfl (lv_at hl 2 rfl) ?_
    obtain ⟨u4, h3, h⟩ := b1E h
    refine r_callVv (rest := []) C hw (c_X0_inherit l D cI cZ z base a x2 u2 u4 h3) (cwV 1 C.1.2.2.2.2 gX0_readClass_X0_inherit rfl rfl rfl (by decide +kernel) ⟨Nat.le_of_ble_eq_true rfl, Nat.le_of_ble_eq_true rfl⟩) (va_recv C.2.1 hw.1 (ci := 0) (q0 := 3) rfl (XWa_3 cI cZ a u2)) rfl hl.1 rfl (Nat.le_of_ble_eq_true rfl) dX0_readClass_28 ⟨Nat.zero_le _, Nat.zero_le _⟩ (fun H locs hw => ?_)
    refine lv_aload_n hx hb dX0_readClass_31 rfl (lv_at hl 0 rfl) ?_
    refine lv_aload_n hx hb dX0_readClass_32 rfl (lv_at hl 1 rfl) ?_
    refine lv_iload_n hx hb dX0_readClass_33 rfl (lv_at hl 2 rfl) ?_
    obtain ⟨u6, h5, h⟩ := b1E h
    refine r_callVv (rest := []) C hw (c_X0_readFields l D cI cZ z base a x2 u4 u6 h5) (cwV 2 C.1.2.2.2.2 gX0_readClass_X0_readFields rfl rfl rfl (by decide +kernel) ⟨Nat.le_of_ble_eq_true rfl, Nat.le_of_ble_eq_true rfl⟩) (va_recv C.2.1 hw.1 (ci := 0) (q0 := 3) rfl (XWa_3 cI cZ a u4)) rfl hl.1 rfl (Nat.le_of_ble_eq_true rfl) dX0_readClass_34 ⟨Nat.zero_le _, Nat.zero_le _⟩ (fun H locs hw => ?_)
    refine lv_aload_n hx hb dX0_readClass_37 rfl (lv_at hl 0 rfl) ?_
    refine lv_aload_n hx hb dX0_readClass_38 rfl (lv_at hl 1 rfl) ?_
    refine lv_iload_n hx hb dX0_readClass_39 rfl (lv_at hl 2 rfl) ?_
    obtain ⟨u8, h7, h⟩ := b1E h
    refine r_callVv (rest := []) C hw (c_X0_readSlots l D cI cZ z base a x2 u6 u8 h7) (cwV 2 C.1.2.2.2.2 gX0_readClass_X0_readSlots rfl rfl rfl (by decide +kernel) ⟨Nat.le_of_ble_eq_true rfl, Nat.le_of_ble_eq_true rfl⟩) (va_recv C.2.1 hw.1 (ci := 0) (q0 := 3) rfl (XWa_3 cI cZ a u6)) rfl hl.1 rfl (Nat.le_of_ble_eq_true rfl) dX0_readClass_40 ⟨Nat.zero_le _, Nat.zero_le _⟩ (fun H locs hw => ?_)
    exact r_vret (f := XW cI cZ a) hQ h hw dX0_readClass_43
  have hl : lv_has ls 4 [(0, .ref (a 3)), (1, .ref (a 2)), (2, .int x2)] := hl
  rw [F_X0_readClass] at h
  refine lv_aload_n hx hb dX0_readClass_0 rfl (lv_at hl 1 rfl) ?_
  refine lv_iload_n hx hb dX0_readClass_1 rfl (lv_at hl 2 rfl) ?_
  refine lv_iconst (v := 1) hx hb dX0_readClass_2 (by decide) ?_
  refine lv_isub hx hb dX0_readClass_3 ?_
  obtain ⟨r2, u3, h1, h⟩ := b2E h
  refine r_callV (rest := []) C hw (c_X5_numberOrNothing l D cI cZ z base a (x2 - 1) u0 r2 u3 h1) (cwV 1 C.1.2.2.2.2 gX0_readClass_X5_numberOrNothing rfl rfl rfl (by decide +kernel) ⟨Nat.le_of_ble_eq_true rfl, Nat.le_of_ble_eq_true rfl⟩) (va_recv C.2.1 hw.1 (ci := 4) (q0 := 2) rfl (XWa_2 cI cZ a u0)) rfl hl.1 rfl (Nat.le_of_ble_eq_true rfl) dX0_readClass_4 ⟨Nat.zero_le _, Nat.zero_le _⟩ (fun H locs hw => ?_)
  refine lv_istore_n (lv' := [(3, .int r2), (0, .ref (a 3)), (1, .ref (a 2)), (2, .int x2)]) hx hb dX0_readClass_7 rfl hl (by decide) rfl (fun ls hl => ?_)
  refine lv_aload_n hx hb dX0_readClass_8 rfl (lv_at hl 1 rfl) ?_
  refine r_get C hw hiX0_readClass_X0 3 (XWa_3 cI cZ a u3) rfl 1 (by decide) (by decide +kernel) rfl dX0_readClass_9 ?_
  refine lv_iload_n hx hb dX0_readClass_12 rfl (lv_at hl 3 rfl) ?_
  refine lv_iload_n hx hb dX0_readClass_13 rfl (lv_at hl 0 rfl) ?_
  refine lv_sipush (v := 255) hx hb dX0_readClass_14 (by decide) ?_
  refine lv_icmp_ne (tgt := 24) hx hb dX0_readClass_17 (by decide) (fun c4 => ?_) (fun c4 => ?_)
  · have h := itF c4 h
    refine lv_iload_n hx hb dX0_readClass_24 rfl (lv_at hl 0 rfl) ?_
    exact J25 x2 r2 x2 u3 _ _ _ h hw (lv_sub hl [1, 2, 3] rfl)
  · have h := itT c4 h
    refine lv_iconst (v := (-1)) hx hb dX0_readClass_20 (by decide) ?_
    refine lv_goto (tgt := 25) hx hb dX0_readClass_21 (by decide) ?_
    exact J25 x2 (-1) x2 u3 _ _ _ h hw (lv_sub hl [1, 2, 3] rfl)
