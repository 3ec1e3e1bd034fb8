abbrev rmX6_add : Room := { frames := 0, cells := 0, slots := 0, locals := 0 }
theorem hiX6_add_X6 : ∀ w ∈ wsX60, w ∈ wsX6_add := by decide +kernel
set_option maxHeartbeats 4000000 in
set_option maxRecDepth 100000 in
theorem c_X6_add (l : Launch) (D : va_G) (cI cZ : ClassId) (z : Nat → Nat) (base : Nat) (a : Nat → Nat) (x1 : Int32) (x2 : Int32) (x3 : Int32) (x4 : Int32) (x5 : Int32) (u0 : St) (ro : Int32) (uo : St) (h : F_X6_add x1 x2 x3 x4 x5 u0 = some (ro, uo)) : MI l D [(cI, .int), (cZ, .boolean)] z base yX6_add wsX6_add rmX6_add [.ref (a 1), .int x1, .int x2, .int x3, .int x4, .int x5] (XW cI cZ a u0) ro (XW cI cZ a uo) := by
  refine MI.ofZ (own := RX6) (cc := cX6_add) (maxL := 6) (by decide) rfl rfl (Nat.le_of_ble_eq_true rfl) ?_
  intro p e s m args below meth c A Q ls C hl hw hQ
  have hx := C.1.1
  have hb := C.1.2.1
  have hl : lv_has ls 6 [(0, .ref (a 1)), (1, .int x1), (2, .int x2), (3, .int x3), (4, .int x4), (5, .int x5)] := hl
  rw [F_X6_add] at h
  refine lv_aload_n hx hb dX6_add_0 rfl (lv_at hl 0 rfl) ?_
  refine r_get C hw hiX6_add_X6 1 (XWa_1 cI cZ a u0) rfl 1 (by decide) (by decide +kernel) rfl dX6_add_1 ?_
  refine lv_if_lt (tgt := 21) hx hb dX6_add_4 (by decide) (fun c1 => ?_) (fun c1 => ?_)
  · have h := itT c1 h
    refine lv_iconst (v := 0) hx hb dX6_add_21 (by decide) ?_
    exact r_zret (f := XW cI cZ a) hQ (by decide) h hw dX6_add_22
  · have h := itF c1 h
    refine lv_aload_n hx hb dX6_add_7 rfl (lv_at hl 0 rfl) ?_
    refine r_get C hw hiX6_add_X6 1 (XWa_1 cI cZ a u0) rfl 1 (by decide) (by decide +kernel) rfl dX6_add_8 ?_
    refine lv_aload_n hx hb dX6_add_11 rfl (lv_at hl 0 rfl) ?_
    refine r_get C hw hiX6_add_X6 1 (XWa_1 cI cZ a u0) rfl 0 (by decide) (by decide +kernel) rfl dX6_add_12 ?_
    refine r_alen (v := 2000) C hw 7 0 (XWa_7 cI cZ a u0) rfl rfl dX6_add_15 ?_
    refine lv_iconst (v := 5) hx hb dX6_add_16 (by decide) ?_
    refine lv_isub hx hb dX6_add_17 ?_
    refine lv_icmp_le (tgt := 23) hx hb dX6_add_18 (by decide) (fun c2 => ?_) (fun c2 => ?_)
    · have h := itT c2 h
      refine lv_aload_n hx hb dX6_add_23 rfl (lv_at hl 0 rfl) ?_
      refine r_get C hw hiX6_add_X6 1 (XWa_1 cI cZ a u0) rfl 0 (by decide) (by decide +kernel) rfl dX6_add_24 ?_
      refine lv_aload_n hx hb dX6_add_27 rfl (lv_at hl 0 rfl) ?_
      refine r_get C hw hiX6_add_X6 1 (XWa_1 cI cZ a u0) rfl 1 (by decide) (by decide +kernel) rfl dX6_add_28 ?_
      refine lv_iload_n hx hb dX6_add_31 rfl (lv_at hl 1 rfl) ?_
      obtain ⟨g3, h⟩ := ixE h
      obtain ⟨u4, eu4⟩ : ∃ y : St, y = st u0 7 ((u0 1 1)).toNatClampNeg x1 := ⟨_, rfl⟩
      have h := nmE eu4 h
      refine r_ast (ws' := (XW cI cZ a u4)) C hw 7 0 (XWa_7 cI cZ a u0) rfl g3 (by rw [eu4]; exact XWs_7 cI cZ a u0 _ x1) dX6_add_32 (fun H locs hw => ?_)
      refine lv_aload_n hx hb dX6_add_33 rfl (lv_at hl 0 rfl) ?_
      refine r_get C hw hiX6_add_X6 1 (XWa_1 cI cZ a u4) rfl 0 (by decide) (by decide +kernel) rfl dX6_add_34 ?_
      refine lv_aload_n hx hb dX6_add_37 rfl (lv_at hl 0 rfl) ?_
      refine r_get C hw hiX6_add_X6 1 (XWa_1 cI cZ a u4) rfl 1 (by decide) (by decide +kernel) rfl dX6_add_38 ?_
      refine lv_iconst (v := 1) hx hb dX6_add_41 (by decide) ?_
      refine lv_iadd hx hb dX6_add_42 ?_
      refine lv_iload_n hx hb dX6_add_43 rfl (lv_at hl 2 rfl) ?_
      obtain ⟨g5, h⟩ := ixE h
      obtain ⟨u6, eu6⟩ : ∃ y : St, y = st u4 7 (((u4 1 1) + 1)).toNatClampNeg x2 := ⟨_, rfl⟩
      have h := nmE eu6 h
      refine r_ast (ws' := (XW cI cZ a u6)) C hw 7 0 (XWa_7 cI cZ a u4) rfl g5 (by rw [eu6]; exact XWs_7 cI cZ a u4 _ x2) dX6_add_44 (fun H locs hw => ?_)
      refine lv_aload_n hx hb dX6_add_45 rfl (lv_at hl 0 rfl) ?_
      refine r_get C hw hiX6_add_X6 1 (XWa_1 cI cZ a u6) rfl 0 (by decide) (by decide +kernel) rfl dX6_add_46 ?_
      refine lv_aload_n hx hb dX6_add_49 rfl (lv_at hl 0 rfl) ?_
      refine r_get C hw hiX6_add_X6 1 (XWa_1 cI cZ a u6) rfl 1 (by decide) (by decide +kernel) rfl dX6_add_50 ?_
      refine lv_iconst (v := 2) hx hb dX6_add_53 (by decide) ?_
      refine lv_iadd hx hb dX6_add_54 ?_
      refine lv_iload_n hx hb dX6_add_55 rfl (lv_at hl 3 rfl) ?_
      obtain ⟨g7, h⟩ := ixE h
      obtain ⟨u8, eu8⟩ : ∃ y : St, y = st u6 7 (((u6 1 1) + 2)).toNatClampNeg x3 := ⟨_, rfl⟩
      have h := nmE eu8 h
      refine r_ast (ws' := (XW cI cZ a u8)) C hw 7 0 (XWa_7 cI cZ a u6) rfl g7 (by rw [eu8]; exact XWs_7 cI cZ a u6 _ x3) dX6_add_56 (fun H locs hw => ?_)
      refine lv_aload_n hx hb dX6_add_57 rfl (lv_at hl 0 rfl) ?_
      refine r_get C hw hiX6_add_X6 1 (XWa_1 cI cZ a u8) rfl 0 (by decide) (by decide +kernel) rfl dX6_add_58 ?_
      refine lv_aload_n hx hb dX6_add_61 rfl (lv_at hl 0 rfl) ?_
      refine r_get C hw hiX6_add_X6 1 (XWa_1 cI cZ a u8) rfl 1 (by decide) (by decide +kernel) rfl dX6_add_62 ?_
      refine lv_iconst (v := 3) hx hb dX6_add_65 (by decide) ?_
      refine lv_iadd hx hb dX6_add_66 ?_
      refine lv_iload hx hb dX6_add_67 (lv_at hl 4 rfl) ?_
      obtain ⟨g9, h⟩ := ixE h
      obtain ⟨u10, eu10⟩ : ∃ y : St, y = st u8 7 (((u8 1 1) + 3)).toNatClampNeg x4 := ⟨_, rfl⟩
      have h := nmE eu10 h
      refine r_ast (ws' := (XW cI cZ a u10)) C hw 7 0 (XWa_7 cI cZ a u8) rfl g9 (by rw [eu10]; exact XWs_7 cI cZ a u8 _ x4) dX6_add_69 (fun H locs hw => ?_)
      refine lv_aload_n hx hb dX6_add_70 rfl (lv_at hl 0 rfl) ?_
      refine r_get C hw hiX6_add_X6 1 (XWa_1 cI cZ a u10) rfl 0 (by decide) (by decide +kernel) rfl dX6_add_71 ?_
      refine lv_aload_n hx hb dX6_add_74 rfl (lv_at hl 0 rfl) ?_
      refine r_get C hw hiX6_add_X6 1 (XWa_1 cI cZ a u10) rfl 1 (by decide) (by decide +kernel) rfl dX6_add_75 ?_
      refine lv_iconst (v := 4) hx hb dX6_add_78 (by decide) ?_
      refine lv_iadd hx hb dX6_add_79 ?_
      refine lv_iload hx hb dX6_add_80 (lv_at hl 5 rfl) ?_
      obtain ⟨g11, h⟩ := ixE h
      obtain ⟨u12, eu12⟩ : ∃ y : St, y = st u10 7 (((u10 1 1) + 4)).toNatClampNeg x5 := ⟨_, rfl⟩
      have h := nmE eu12 h
      refine r_ast (ws' := (XW cI cZ a u12)) C hw 7 0 (XWa_7 cI cZ a u10) rfl g11 (by rw [eu12]; exact XWs_7 cI cZ a u10 _ x5) dX6_add_82 (fun H locs hw => ?_)
      refine lv_aload_n hx hb dX6_add_83 rfl (lv_at hl 0 rfl) ?_
      refine lv_dup hx hb dX6_add_84 rfl ?_
      refine r_get C hw hiX6_add_X6 1 (XWa_1 cI cZ a u12) rfl 1 (by decide) (by decide +kernel) rfl dX6_add_85 ?_
      refine lv_iconst (v := 5) hx hb dX6_add_88 (by decide) ?_
      refine lv_iadd hx hb dX6_add_89 ?_
      obtain ⟨u13, eu13⟩ : ∃ y : St, y = st u12 1 1 ((u12 1 1) + 5) := ⟨_, rfl⟩
      have h := nmE eu13 h
      refine r_put (ws' := (XW cI cZ a u13)) C hw hiX6_add_X6 tyX6 tyX6_ok nmX6 1 (XWa_1 cI cZ a u12) rfl 1 (by decide) (by decide +kernel) rfl (ty := .int) (by decide +kernel) rfl rfl (Nat.le_of_ble_eq_true rfl) (by rw [eu13]; exact XWs_1_1 cI cZ a u12 ((u12 1 1) + 5)) dX6_add_90 (fun H locs hw => ?_)
      refine lv_iconst (v := 1) hx hb dX6_add_93 (by decide) ?_
      exact r_zret (f := XW cI cZ a) hQ (by decide) h hw dX6_add_94
    · have h := itF c2 h
      refine lv_iconst (v := 0) hx hb dX6_add_21 (by decide) ?_
      exact r_zret (f := XW cI cZ a) hQ (by decide) h hw dX6_add_22
abbrev rmX6_length : Room := { frames := 0, cells := 0, slots := 0, locals := 0 }
theorem hiX6_length_X6 : ∀ w ∈ wsX60, w ∈ wsX6_length := by decide +kernel
set_option maxHeartbeats 4000000 in
set_option maxRecDepth 100000 in
theorem c_X6_length (l : Launch) (D : va_G) (cI cZ : ClassId) (z : Nat → Nat) (base : Nat) (a : Nat → Nat) (u0 : St) (ro : Int32) (h : F_X6_length u0 = some ro) : MI l D [(cI, .int), (cZ, .boolean)] z base yX6_length wsX6_length rmX6_length [.ref (a 1)] (XW cI cZ a u0) ro (XW cI cZ a u0) := by
  refine MI.ofI (own := RX6) (cc := cX6_length) (maxL := 1) (by decide) rfl rfl (Nat.le_of_ble_eq_true rfl) ?_
  intro p e s m args below meth c A Q ls C hl hw hQ
  have hx := C.1.1
  have hb := C.1.2.1
  have hl : lv_has ls 1 [(0, .ref (a 1))] := hl
  rw [F_X6_length] at h
  refine lv_aload_n hx hb dX6_length_0 rfl (lv_at hl 0 rfl) ?_
  refine r_get C hw hiX6_length_X6 1 (XWa_1 cI cZ a u0) rfl 1 (by decide) (by decide +kernel) rfl dX6_length_1 ?_
  refine lv_iconst (v := 4) hx hb dX6_length_4 (by decide) ?_
  refine lv_imul hx hb dX6_length_5 ?_
  exact r_iretP hQ h hw dX6_length_6
abbrev rmX7_feed : Room := { frames := 1, cells := 0, slots := 0, locals := 25 }
theorem hiX7_feed_X7 : ∀ w ∈ wsX70, w ∈ wsX7_feed := by decide +kernel
set_option maxHeartbeats 4000000 in
set_option maxRecDepth 100000 in
theorem c_X7_feed (l : Launch) (D : va_G) (cI cZ : ClassId) (z : Nat → Nat) (base : Nat) (a : Nat → Nat) (x1 : Int32) (x2 : Int32) (x3 : Int32) (x4 : Int32) (x5 : Int32) (u0 : St) (ro : Int32) (uo : St) (h : F_X7_feed x1 x2 x3 x4 x5 u0 = some (ro, uo)) : MI l D [(cI, .int), (cZ, .boolean)] z base yX7_feed wsX7_feed rmX7_feed [.ref (a 0), .int x1, .int x2, .int x3, .int x4, .int x5] (XW cI cZ a u0) ro (XW cI cZ a uo) := by
  refine MI.ofI (own := RX7) (cc := cX7_feed) (maxL := 6) (by decide) rfl rfl (Nat.le_of_ble_eq_true rfl) ?_
  intro p e s m args below meth c A Q ls C hl hw hQ
  have hx := C.1.1
  have hb := C.1.2.1
  have hl : lv_has ls 6 [(0, .ref (a 0)), (1, .int x1), (2, .int x2), (3, .int x3), (4, .int x4), (5, .int x5)] := hl
  rw [F_X7_feed] at h
  refine lv_aload_n hx hb dX7_feed_0 rfl (lv_at hl 0 rfl) ?_
  refine r_get C hw hiX7_feed_X7 0 (XWa_0 cI cZ a u0) rfl 0 (by decide) (by decide +kernel) rfl dX7_feed_1 ?_
  refine lv_iload_n hx hb dX7_feed_4 rfl (lv_at hl 1 rfl) ?_
  refine lv_iload_n hx hb dX7_feed_5 rfl (lv_at hl 2 rfl) ?_
  refine lv_iload_n hx hb dX7_feed_6 rfl (lv_at hl 3 rfl) ?_
  refine lv_iload hx hb dX7_feed_7 (lv_at hl 4 rfl) ?_
  refine lv_iload hx hb dX7_feed_9 (lv_at hl 5 rfl) ?_
  obtain ⟨r2, u3, h1, h⟩ := b2E h
  refine r_callV (rest := []) C hw (c_X6_add l D cI cZ z base a x1 x2 x3 x4 x5 u0 r2 u3 h1) (cwV 5 C.1.2.2.2.2 gX7_feed_X6_add rfl rfl rfl (by decide +kernel) ⟨Nat.le_of_ble_eq_true rfl, Nat.le_of_ble_eq_true rfl⟩) (va_recv C.2.1 hw.1 (ci := 5) (q0 := 1) rfl (XWa_1 cI cZ a u0)) rfl hl.1 rfl (Nat.le_of_ble_eq_true rfl) dX7_feed_11 ⟨Nat.zero_le _, Nat.zero_le _⟩ (fun H locs hw => ?_)
  refine lv_if_eq (tgt := 27) hx hb dX7_feed_14 (by decide) (fun c4 => ?_) (fun c4 => ?_)
  · have h := itT c4 h
    refine lv_bipush (v := (-2)) hx hb dX7_feed_27 (by decide) ?_
    exact r_iret (f := XW cI cZ a) hQ h hw dX7_feed_29
  · have h := itF c4 h
    refine lv_aload_n hx hb dX7_feed_17 rfl (lv_at hl 0 rfl) ?_
    refine r_get C hw hiX7_feed_X7 0 (XWa_0 cI cZ a u3) rfl 0 (by decide) (by decide +kernel) rfl dX7_feed_18 ?_
    obtain ⟨r6, h5, h⟩ := b1E h
    refine r_callV (rest := []) C hw (c_X6_length l D cI cZ z base a u3 r6 h5) (cwV 0 C.1.2.2.2.2 gX7_feed_X6_length rfl rfl rfl (by decide +kernel) ⟨Nat.le_of_ble_eq_true rfl, Nat.le_of_ble_eq_true rfl⟩) (va_recv C.2.1 hw.1 (ci := 5) (q0 := 1) rfl (XWa_1 cI cZ a u3)) rfl hl.1 rfl (Nat.le_of_ble_eq_true rfl) dX7_feed_21 ⟨Nat.zero_le _, Nat.zero_le _⟩ (fun H locs hw => ?_)
    refine lv_goto (tgt := 29) hx hb dX7_feed_24 (by decide) ?_
    exact r_iret (f := XW cI cZ a) hQ h hw dX7_feed_29
abbrev rmX6_clear : Room := { frames := 0, cells := 0, slots := 0, locals := 0 }
theorem hiX6_clear_X6 : ∀ w ∈ wsX60, w ∈ wsX6_clear := by decide +kernel
set_option maxHeartbeats 4000000 in
set_option maxRecDepth 100000 in
theorem c_X6_clear (l : Launch) (D : va_G) (cI cZ : ClassId) (z : Nat → Nat) (base : Nat) (a : Nat → Nat) (u0 : St) (uo : St) (h : F_X6_clear u0 = some uo) : MV l D [(cI, .int), (cZ, .boolean)] z base yX6_clear wsX6_clear rmX6_clear [.ref (a 1)] (XW cI cZ a u0) (XW cI cZ a uo) := by
  refine MV.of (own := RX6) (cc := cX6_clear) (maxL := 1) (by decide) rfl rfl (Nat.le_of_ble_eq_true rfl) ?_
  intro p e s m args below meth c A Q ls C hl hw hQ
  have hx := C.1.1
  have hb := C.1.2.1
  have hl : lv_has ls 1 [(0, .ref (a 1))] := hl
  rw [F_X6_clear] at h
  refine lv_aload_n hx hb dX6_clear_0 rfl (lv_at hl 0 rfl) ?_
  refine lv_iconst (v := 0) hx hb dX6_clear_1 (by decide) ?_
  obtain ⟨u1, eu1⟩ : ∃ y : St, y = st u0 1 1 0 := ⟨_, rfl⟩
  have h := nmE eu1 h
  refine r_put (ws' := (XW cI cZ a u1)) C hw hiX6_clear_X6 tyX6 tyX6_ok nmX6 1 (XWa_1 cI cZ a u0) rfl 1 (by decide) (by decide +kernel) rfl (ty := .int) (by decide +kernel) rfl rfl (Nat.le_of_ble_eq_true rfl) (by rw [eu1]; exact XWs_1_1 cI cZ a u0 0) dX6_clear_2 (fun H locs hw => ?_)
  exact r_vret (f := XW cI cZ a) hQ h hw dX6_clear_5
abbrev rmX5_byteAt : Room := { frames := 0, cells := 0, slots := 0, locals := 0 }
theorem hiX5_byteAt_X5 : ∀ w ∈ wsX50, w ∈ wsX5_byteAt := by decide +kernel
set_option maxHeartbeats 4000000 in
set_option maxRecDepth 100000 in
theorem c_X5_byteAt (l : Launch) (D : va_G) (cI cZ : ClassId) (z : Nat → Nat) (base : Nat) (a : Nat → Nat) (x1 : Int32) (u0 : St) (ro : Int32) (h : F_X5_byteAt x1 u0 = some ro) : MI l D [(cI, .int), (cZ, .boolean)] z base yX5_byteAt wsX5_byteAt rmX5_byteAt [.ref (a 2), .int x1] (XW cI cZ a u0) ro (XW cI cZ a u0) := by
  refine MI.ofI (own := RX5) (cc := cX5_byteAt) (maxL := 3) (by decide) rfl rfl (Nat.le_of_ble_eq_true rfl) ?_
  intro p e s m args below meth c A Q ls C hl hw hQ
  have hx := C.1.1
  have hb := C.1.2.1
  have hl : lv_has ls 3 [(0, .ref (a 2)), (1, .int x1)] := hl
  rw [F_X5_byteAt] at h
  refine lv_iload_n hx hb dX5_byteAt_0 rfl (lv_at hl 1 rfl) ?_
  refine lv_iconst (v := 2) hx hb dX5_byteAt_1 (by decide) ?_
  refine lv_ishr hx hb dX5_byteAt_2 ?_
  refine lv_topi (fun v1 ev1 => ?_)
  have h := nmE ev1 h
  refine lv_istore_n (lv' := [(2, .int v1), (0, .ref (a 2)), (1, .int x1)]) hx hb dX5_byteAt_3 rfl hl (by decide) rfl (fun ls hl => ?_)
  refine lv_iload_n hx hb dX5_byteAt_4 rfl (lv_at hl 2 rfl) ?_
  refine lv_if_lt (tgt := 25) hx hb dX5_byteAt_5 (by decide) (fun c2 => ?_) (fun c2 => ?_)
  · have h := itT c2 h
    refine lv_iconst (v := (-1)) hx hb dX5_byteAt_25 (by decide) ?_
    exact r_iretP hQ h hw dX5_byteAt_26
  · have h := itF c2 h
    refine lv_iload_n hx hb dX5_byteAt_8 rfl (lv_at hl 2 rfl) ?_
    refine lv_aload_n hx hb dX5_byteAt_9 rfl (lv_at hl 1 rfl) ?_
    refine r_get C hw hiX5_byteAt_X5 2 (XWa_2 cI cZ a u0) rfl 1 (by decide) (by decide +kernel) rfl dX5_byteAt_10 ?_
    refine lv_icmp_ge (tgt := 25) hx hb dX5_byteAt_13 (by decide) (fun c3 => ?_) (fun c3 => ?_)
    · have h := itT c3 h
      refine lv_iconst (v := (-1)) hx hb dX5_byteAt_25 (by decide) ?_
      exact r_iretP hQ h hw dX5_byteAt_26
    · have h := itF c3 h
      refine lv_iload_n hx hb dX5_byteAt_16 rfl (lv_at hl 0 rfl) ?_
      refine lv_aload_n hx hb dX5_byteAt_17 rfl (lv_at hl 1 rfl) ?_
      refine r_get C hw hiX5_byteAt_X5 2 (XWa_2 cI cZ a u0) rfl 0 (by decide) (by decide +kernel) rfl dX5_byteAt_18 ?_
      refine r_alen (v := 2000) C hw 8 0 (XWa_8 cI cZ a u0) rfl rfl dX5_byteAt_21 ?_
      refine lv_icmp_lt (tgt := 27) hx hb dX5_byteAt_22 (by decide) (fun c4 => ?_) (fun c4 => ?_)
      · have h := itT c4 h
        refine lv_aload_n hx hb dX5_byteAt_27 rfl (lv_at hl 1 rfl) ?_
        refine r_get C hw hiX5_byteAt_X5 2 (XWa_2 cI cZ a u0) rfl 0 (by decide) (by decide +kernel) rfl dX5_byteAt_28 ?_
        refine lv_iload_n hx hb dX5_byteAt_31 rfl (lv_at hl 0 rfl) ?_
        obtain ⟨g5, h⟩ := ixE h
        refine r_ald C hw 8 0 (XWa_8 cI cZ a u0) rfl g5 dX5_byteAt_32 ?_
        refine lv_bipush (v := 24) hx hb dX5_byteAt_33 (by decide) ?_
        refine lv_bipush (v := 8) hx hb dX5_byteAt_35 (by decide) ?_
        refine lv_iload_n hx hb dX5_byteAt_37 rfl (lv_at hl 2 rfl) ?_
        refine lv_iconst (v := 3) hx hb dX5_byteAt_38 (by decide) ?_
        refine lv_iand hx hb dX5_byteAt_39 ?_
        refine lv_imul hx hb dX5_byteAt_40 ?_
        refine lv_isub hx hb dX5_byteAt_41 ?_
        refine lv_iushr (v := ushr (u0 8 (v1).toNatClampNeg) (24 - (8 * (x1 &&& 3)))) hx hb dX5_byteAt_42 rfl ?_
        refine lv_sipush (v := 255) hx hb dX5_byteAt_43 (by decide) ?_
        refine lv_iand hx hb dX5_byteAt_46 ?_
        exact r_iretP hQ h hw dX5_byteAt_47
      · have h := itF c4 h
        refine lv_iconst (v := (-1)) hx hb dX5_byteAt_25 (by decide) ?_
        exact r_iretP hQ h hw dX5_byteAt_26
abbrev rmX5_number : Room := { frames := 1, cells := 0, slots := 0, locals := 22 }
theorem hiX5_number_X5 : ∀ w ∈ wsX50, w ∈ wsX5_number := by decide +kernel
set_option maxHeartbeats 4000000 in
set_option maxRecDepth 100000 in
theorem c_X5_number (l : Launch) (D : va_G) (cI cZ : ClassId) (z : Nat → Nat) (base : Nat) (a : Nat → Nat) (x1 : Int32) (x2 : Int32) (u0 : St) (ro : Int32) (uo : St) (h : F_X5_number x1 x2 u0 = some (ro, uo)) : MI l D [(cI, .int), (cZ, .boolean)] z base yX5_number wsX5_number rmX5_number [.ref (a 2), .int x1, .int x2] (XW cI cZ a u0) ro (XW cI cZ a uo) := by
  refine MI.ofI (own := RX5) (cc := cX5_number) (maxL := 4) (by decide) rfl rfl (Nat.le_of_ble_eq_true rfl) ?_
  intro p e s m args below meth c A Q ls C hl hw hQ
  have hx := C.1.1
  have hb := C.1.2.1
  have J31 : ∀ (u0 : St) (H : Heap) (locs : List Loc) (ls : Array Slot), F_X5_number_31 u0 = some (ro, uo) → Wd D A s.heap H locs (XW cI cZ a u0) → lv_has ls 4 [(0, .ref (a 2))] → W p l e rmX5_number s m args below meth c H locs 0 0 Q (F0 m 31 ls []) := by
    intro u0 H locs ls h hw hl
    rw [F_X5_number_31] at h
    refine lv_aload_n hx hb dX5_number_31 rfl (lv_at hl 0 rfl) ?_
    refine lv_iconst (v := 1) hx hb dX5_number_32 (by decide) ?_
    obtain ⟨u1, eu1⟩ : ∃ y : St, y = st u0 2 3 1 := ⟨_, rfl⟩
    have h := nmE eu1 h
    refine r_put (ws' := (XW cI cZ a u1)) C hw hiX5_number_X5 tyX5 tyX5_ok nmX5 2 (XWa_2 cI cZ a u0) rfl 3 (by decide) (by decide +kernel) rfl (ty := .boolean) (by decide +kernel) rfl rfl (Nat.le_of_ble_eq_true rfl) (by rw [eu1]; exact XWs_2_3 cI cZ a u0 1) dX5_number_33 (fun H locs hw => ?_)
    refine lv_iconst (v := (-1)) hx hb dX5_number_36 (by decide) ?_
    exact r_iret (f := XW cI cZ a) hQ h hw dX5_number_37
  have hl : lv_has ls 4 [(0, .ref (a 2)), (1, .int x1), (2, .int x2)] := hl
  rw [F_X5_number] at h
  refine lv_aload_n hx hb dX5_number_0 rfl (lv_at hl 0 rfl) ?_
  refine lv_aload_n hx hb dX5_number_1 rfl (lv_at hl 0 rfl) ?_
  refine r_get C hw hiX5_number_X5 2 (XWa_2 cI cZ a u0) rfl 2 (by decide) (by decide +kernel) rfl dX5_number_2 ?_
  obtain ⟨r2, h1, h⟩ := b1E h
  refine r_callV (rest := []) C hw (c_X5_byteAt l D cI cZ z base a (u0 2 2) u0 r2 h1) (cwV 1 C.1.2.2.2.2 gX5_number_X5_byteAt rfl rfl rfl (by decide +kernel) ⟨Nat.le_of_ble_eq_true rfl, Nat.le_of_ble_eq_true rfl⟩) (va_recv C.2.1 hw.1 (ci := 4) (q0 := 2) rfl (XWa_2 cI cZ a u0)) rfl hl.1 rfl (Nat.le_of_ble_eq_true rfl) dX5_number_5 ⟨Nat.zero_le _, Nat.zero_le _⟩ (fun H locs hw => ?_)
  refine lv_istore_n (lv' := [(3, .int r2), (0, .ref (a 2)), (1, .int x1), (2, .int x2)]) hx hb dX5_number_8 rfl hl (by decide) rfl (fun ls hl => ?_)
  refine lv_aload_n hx hb dX5_number_9 rfl (lv_at hl 1 rfl) ?_
  refine r_get C hw hiX5_number_X5 2 (XWa_2 cI cZ a u0) rfl 3 (by decide) (by decide +kernel) rfl dX5_number_10 ?_
  refine lv_if_ne (tgt := 31) hx hb dX5_number_13 (by decide) (fun c3 => ?_) (fun c3 => ?_)
  · have h := itF c3 h
    exact J31 u0 _ _ _ h hw (lv_sub hl [1] rfl)
  · have h := itT c3 h
    refine lv_iload_n hx hb dX5_number_16 rfl (lv_at hl 0 rfl) ?_
    refine lv_iconst (v := (-1)) hx hb dX5_number_17 (by decide) ?_
    refine lv_icmp_eq (tgt := 31) hx hb dX5_number_18 (by decide) (fun c4 => ?_) (fun c4 => ?_)
    · have h := itT c4 h
      exact J31 u0 _ _ _ h hw (lv_sub hl [1] rfl)
    · have h := itF c4 h
      refine lv_iload_n hx hb dX5_number_21 rfl (lv_at hl 0 rfl) ?_
      refine lv_iload_n hx hb dX5_number_22 rfl (lv_at hl 2 rfl) ?_
      refine lv_icmp_lt (tgt := 31) hx hb dX5_number_23 (by decide) (fun c5 => ?_) (fun c5 => ?_)
      · have h := itT c5 h
        exact J31 u0 _ _ _ h hw (lv_sub hl [1] rfl)
      · have h := itF c5 h
        refine lv_iload_n hx hb dX5_number_26 rfl (lv_at hl 0 rfl) ?_
        refine lv_iload_n hx hb dX5_number_27 rfl (lv_at hl 3 rfl) ?_
        refine lv_icmp_le (tgt := 38) hx hb dX5_number_28 (by decide) (fun c6 => ?_) (fun c6 => ?_)
        · have h := itT c6 h
          refine lv_aload_n hx hb dX5_number_38 rfl (lv_at hl 1 rfl) ?_
          refine lv_dup hx hb dX5_number_39 rfl ?_
          refine r_get C hw hiX5_number_X5 2 (XWa_2 cI cZ a u0) rfl 2 (by decide) (by decide +kernel) rfl dX5_number_40 ?_
          refine lv_iconst (v := 1) hx hb dX5_number_43 (by decide) ?_
          refine lv_iadd hx hb dX5_number_44 ?_
          obtain ⟨u7, eu7⟩ : ∃ y : St, y = st u0 2 2 ((u0 2 2) + 1) := ⟨_, rfl⟩
          have h := nmE eu7 h
          refine r_put (ws' := (XW cI cZ a u7)) C hw hiX5_number_X5 tyX5 tyX5_ok nmX5 2 (XWa_2 cI cZ a u0) rfl 2 (by decide) (by decide +kernel) rfl (ty := .int) (by decide +kernel) rfl rfl (Nat.le_of_ble_eq_true rfl) (by rw [eu7]; exact XWs_2_2 cI cZ a u0 ((u0 2 2) + 1)) dX5_number_45 (fun H locs hw => ?_)
          refine lv_iload_n hx hb dX5_number_48 rfl (lv_at hl 0 rfl) ?_
          exact r_iret (f := XW cI cZ a) hQ h hw dX5_number_49
        · have h := itF c6 h
          exact J31 u0 _ _ _ h hw (lv_sub hl [1] rfl)
abbrev rmX5_stopped : Room := { frames := 0, cells := 0, slots := 0, locals := 0 }
theorem hiX5_stopped_X5 : ∀ w ∈ wsX50, w ∈ wsX5_stopped := by decide +kernel
set_option maxHeartbeats 4000000 in
set_option maxRecDepth 100000 in
theorem c_X5_stopped (l : Launch) (D : va_G) (cI cZ : ClassId) (z : Nat → Nat) (base : Nat) (a : Nat → Nat) (u0 : St) (ro : Int32) (h : F_X5_stopped u0 = some ro) : MI l D [(cI, .int), (cZ, .boolean)] z base yX5_stopped wsX5_stopped rmX5_stopped [.ref (a 2)] (XW cI cZ a u0) ro (XW cI cZ a u0) := by
  refine MI.ofZ (own := RX5) (cc := cX5_stopped) (maxL := 1) (by decide) rfl rfl (Nat.le_of_ble_eq_true rfl) ?_
  intro p e s m args below meth c A Q ls C hl hw hQ
  have hx := C.1.1
  have hb := C.1.2.1
  have hl : lv_has ls 1 [(0, .ref (a 2))] := hl
  rw [F_X5_stopped] at h
  refine lv_aload_n hx hb dX5_stopped_0 rfl (lv_at hl 0 rfl) ?_
  refine r_get C hw hiX5_stopped_X5 2 (XWa_2 cI cZ a u0) rfl 3 (by decide) (by decide +kernel) rfl dX5_stopped_1 ?_
  obtain ⟨g1, h⟩ := boE h
  exact r_zretP hQ g1 h hw dX5_stopped_4
abbrev rmX5_next : Room := { frames := 1, cells := 0, slots := 0, locals := 22 }
theorem hiX5_next_X5 : ∀ w ∈ wsX50, w ∈ wsX5_next := by decide +kernel
set_option maxHeartbeats 4000000 in
set_option maxRecDepth 100000 in
theorem c_X5_next (l : Launch) (D : va_G) (cI cZ : ClassId) (z : Nat → Nat) (base : Nat) (a : Nat → Nat) (u0 : St) (ro : Int32) (h : F_X5_next u0 = some ro) : MI l D [(cI, .int), (cZ, .boolean)] z base yX5_next wsX5_next rmX5_next [.ref (a 2)] (XW cI cZ a u0) ro (XW cI cZ a u0) := by
  refine MI.ofI (own := RX5) (cc := cX5_next) (maxL := 1) (by decide) rfl rfl (Nat.le_of_ble_eq_true rfl) ?_
  intro p e s m args below meth c A Q ls C hl hw hQ
  have hx := C.1.1
  have hb := C.1.2.1
  have hl : lv_has ls 1 [(0, .ref (a 2))] := hl
  rw [F_X5_next] at h
  refine lv_aload_n hx hb dX5_next_0 rfl (lv_at hl 0 rfl) ?_
  refine lv_aload_n hx hb dX5_next_1 rfl (lv_at hl 0 rfl) ?_
  refine r_get C hw hiX5_next_X5 2 (XWa_2 cI cZ a u0) rfl 2 (by decide) (by decide +kernel) rfl dX5_next_2 ?_
  obtain ⟨r2, h1, h⟩ := b1E h
  refine r_callV (rest := []) C hw (c_X5_byteAt l D cI cZ z base a (u0 2 2) u0 r2 h1) (cwV 1 C.1.2.2.2.2 gX5_next_X5_byteAt rfl rfl rfl (by decide +kernel) ⟨Nat.le_of_ble_eq_true rfl, Nat.le_of_ble_eq_true rfl⟩) (va_recv C.2.1 hw.1 (ci := 4) (q0 := 2) rfl (XWa_2 cI cZ a u0)) rfl hl.1 rfl (Nat.le_of_ble_eq_true rfl) dX5_next_5 ⟨Nat.zero_le _, Nat.zero_le _⟩ (fun H locs hw => ?_)
  exact r_iretP hQ h hw dX5_next_8
abbrev rmX5_numberOrNothing : Room := { frames := 2, cells := 0, slots := 0, locals := 45 }
set_option maxHeartbeats 4000000 in
set_option maxRecDepth 100000 in
theorem c_X5_numberOrNothing (l : Launch) (D : va_G) (cI cZ : ClassId) (z : Nat → Nat) (base : Nat) (a : Nat → Nat) (x1 : Int32) (u0 : St) (ro : Int32) (uo : St) (h : F_X5_numberOrNothing x1 u0 = some (ro, uo)) : MI l D [(cI, .int), (cZ, .boolean)] z base yX5_numberOrNothing wsX5_numberOrNothing rmX5_numberOrNothing [.ref (a 2), .int x1] (XW cI cZ a u0) ro (XW cI cZ a uo) := by
  refine MI.ofI (own := RX5) (cc := cX5_numberOrNothing) (maxL := 2) (by decide) rfl rfl (Nat.le_of_ble_eq_true rfl) ?_
  intro p e s m args below meth c A Q ls C hl hw hQ
  have hx := C.1.1
  have hb := C.1.2.1
  have hl : lv_has ls 2 [(0, .ref (a 2)), (1, .int x1)] := hl
  rw [F_X5_numberOrNothing] at h
  refine lv_aload_n hx hb dX5_numberOrNothing_0 rfl (lv_at hl 0 rfl) ?_
  obtain ⟨r2, h1, h⟩ := b1E h
  refine r_callV (rest := []) C hw (c_X5_next l D cI cZ z base a u0 r2 h1) (cwV 0 C.1.2.2.2.2 gX5_numberOrNothing_X5_next rfl rfl rfl (by decide +kernel) ⟨Nat.le_of_ble_eq_true rfl, Nat.le_of_ble_eq_true rfl⟩) (va_recv C.2.1 hw.1 (ci := 4) (q0 := 2) rfl (XWa_2 cI cZ a u0)) rfl hl.1 rfl (Nat.le_of_ble_eq_true rfl) dX5_numberOrNothing_1 ⟨Nat.zero_le _, Nat.zero_le _⟩ (fun H locs hw => ?_)
  refine lv_sipush (v := 255) hx hb dX5_numberOrNothing_4 (by decide) ?_
  refine lv_icmp_ne (tgt := 23) hx hb dX5_numberOrNothing_7 (by decide) (fun c3 => ?_) (fun c3 => ?_)
  · have h := itF c3 h
    refine lv_aload_n hx hb dX5_numberOrNothing_23 rfl (lv_at hl 0 rfl) ?_
    refine lv_iconst (v := 0) hx hb dX5_numberOrNothing_24 (by decide) ?_
    refine lv_iload_n hx hb dX5_numberOrNothing_25 rfl (lv_at hl 1 rfl) ?_
    obtain ⟨r5, u6, h4, h⟩ := b2E h
    refine r_callV (rest := []) C hw (c_X5_number l D cI cZ z base a 0 x1 u0 r5 u6 h4) (cwV 2 C.1.2.2.2.2 gX5_numberOrNothing_X5_number rfl rfl rfl (by decide +kernel) ⟨Nat.le_of_ble_eq_true rfl, Nat.le_of_ble_eq_true rfl⟩) (va_recv C.2.1 hw.1 (ci := 4) (q0 := 2) rfl (XWa_2 cI cZ a u0)) rfl hl.1 rfl (Nat.le_of_ble_eq_true rfl) dX5_numberOrNothing_26 ⟨Nat.zero_le _, Nat.zero_le _⟩ (fun H locs hw => ?_)
    exact r_iret (f := XW cI cZ a) hQ h hw dX5_numberOrNothing_29
  · have h := itT c3 h
    refine lv_aload_n hx hb dX5_numberOrNothing_10 rfl (lv_at hl 0 rfl) ?_
    refine lv_sipush (v := 255) hx hb dX5_numberOrNothing_11 (by decide) ?_
    refine lv_sipush (v := 255) hx hb dX5_numberOrNothing_14 (by decide) ?_
    obtain ⟨r8, u9, h7, h⟩ := b2E h
    refine r_callV (rest := []) C hw (c_X5_number l D cI cZ z base a 255 255 u0 r8 u9 h7) (cwV 2 C.1.2.2.2.2 gX5_numberOrNothing_X5_number rfl rfl rfl (by decide +kernel) ⟨Nat.le_of_ble_eq_true rfl, Nat.le_of_ble_eq_true rfl⟩) (va_recv C.2.1 hw.1 (ci := 4) (q0 := 2) rfl (XWa_2 cI cZ a u0)) rfl hl.1 rfl (Nat.le_of_ble_eq_true rfl) dX5_numberOrNothing_17 ⟨Nat.zero_le _, Nat.zero_le _⟩ (fun H locs hw => ?_)
    refine lv_goto (tgt := 29) hx hb dX5_numberOrNothing_20 (by decide) ?_
    exact r_iret (f := XW cI cZ a) hQ h hw dX5_numberOrNothing_29
abbrev rmX0_has : Room := { frames := 0, cells := 0, slots := 0, locals := 0 }
theorem hiX0_has_X0 : ∀ w ∈ wsX00, w ∈ wsX0_has := by decide +kernel
set_option maxHeartbeats 4000000 in
set_option maxRecDepth 100000 in
theorem c_X0_has (l : Launch) (D : va_G) (cI cZ : ClassId) (z : Nat → Nat) (base : Nat) (a : Nat → Nat) (x1 : Int32) (u0 : St) (ro : Int32) (h : F_X0_has x1 u0 = some ro) : MI l D [(cI, .int), (cZ, .boolean)] z base yX0_has wsX0_has rmX0_has [.ref (a 3), .int x1] (XW cI cZ a u0) ro (XW cI cZ a u0) := by
  refine MI.ofZ (own := RX0) (cc := cX0_has) (maxL := 2) (by decide) rfl rfl (Nat.le_of_ble_eq_true rfl) ?_
  intro p e s m args below meth c A Q ls C hl hw hQ
  have hx := C.1.1
  have hb := C.1.2.1
  have hl : lv_has ls 2 [(0, .ref (a 3)), (1, .int x1)] := hl
  rw [F_X0_has] at h
  refine lv_iload_n hx hb dX0_has_0 rfl (lv_at hl 1 rfl) ?_
  refine lv_if_lt (tgt := 22) hx hb dX0_has_1 (by decide) (fun c1 => ?_) (fun c1 => ?_)
  · have h := itT c1 h
    refine lv_iconst (v := 0) hx hb dX0_has_22 (by decide) ?_
    exact r_zretP hQ (by decide) h hw dX0_has_23
  · have h := itF c1 h
    refine lv_iload_n hx hb dX0_has_4 rfl (lv_at hl 1 rfl) ?_
    refine lv_aload_n hx hb dX0_has_5 rfl (lv_at hl 0 rfl) ?_
    refine r_get C hw hiX0_has_X0 3 (XWa_3 cI cZ a u0) rfl 0 (by decide) (by decide +kernel) rfl dX0_has_6 ?_
    refine lv_icmp_ge (tgt := 22) hx hb dX0_has_9 (by decide) (fun c2 => ?_) (fun c2 => ?_)
    · have h := itT c2 h
      refine lv_iconst (v := 0) hx hb dX0_has_22 (by decide) ?_
      exact r_zretP hQ (by decide) h hw dX0_has_23
    · have h := itF c2 h
      refine lv_iload_n hx hb dX0_has_12 rfl (lv_at hl 1 rfl) ?_
      refine lv_bipush (v := 32) hx hb dX0_has_13 (by decide) ?_
      refine lv_icmp_ge (tgt := 22) hx hb dX0_has_15 (by decide) (fun c3 => ?_) (fun c3 => ?_)
      · have h := itT c3 h
        refine lv_iconst (v := 0) hx hb dX0_has_22 (by decide) ?_
        exact r_zretP hQ (by decide) h hw dX0_has_23
      · have h := itF c3 h
        refine lv_iconst (v := 1) hx hb dX0_has_18 (by decide) ?_
        refine lv_goto (tgt := 23) hx hb dX0_has_19 (by decide) ?_
        exact r_zretP hQ (by decide) h hw dX0_has_23
abbrev rmX0_fields : Room := { frames := 1, cells := 0, slots := 0, locals := 21 }
theorem hiX0_fields_X0 : ∀ w ∈ wsX00, w ∈ wsX0_fields := by decide +kernel
set_option maxHeartbeats 4000000 in
set_option maxRecDepth 100000 in
theorem c_X0_fields (l : Launch) (D : va_G) (cI cZ : ClassId) (z : Nat → Nat) (base : Nat) (a : Nat → Nat) (x1 : Int32) (u0 : St) (ro : Int32) (h : F_X0_fields x1 u0 = some ro) : MI l D [(cI, .int), (cZ, .boolean)] z base yX0_fields wsX0_fields rmX0_fields [.ref (a 3), .int x1] (XW cI cZ a u0) ro (XW cI cZ a u0) := by
  refine MI.ofI (own := RX0) (cc := cX0_fields) (maxL := 2) (by decide) rfl rfl (Nat.le_of_ble_eq_true rfl) ?_
  intro p e s m args below meth c A Q ls C hl hw hQ
  have hx := C.1.1
  have hb := C.1.2.1
  have hl : lv_has ls 2 [(0, .ref (a 3)), (1, .int x1)] := hl
  rw [F_X0_fields] at h
  refine lv_aload_n hx hb dX0_fields_0 rfl (lv_at hl 0 rfl) ?_
  refine lv_iload_n hx hb dX0_fields_1 rfl (lv_at hl 1 rfl) ?_
  obtain ⟨r2, h1, h⟩ := b1E h
  refine r_callV (rest := []) C hw (c_X0_has l D cI cZ z base a x1 u0 r2 h1) (cwV 1 C.1.2.2.2.2 gX0_fields_X0_has rfl rfl rfl (by decide +kernel) ⟨Nat.le_of_ble_eq_true rfl, Nat.le_of_ble_eq_true rfl⟩) (va_recv C.2.1 hw.1 (ci := 0) (q0 := 3) rfl (XWa_3 cI cZ a u0)) rfl hl.1 rfl (Nat.le_of_ble_eq_true rfl) dX0_fields_2 ⟨Nat.zero_le _, Nat.zero_le _⟩ (fun H locs hw => ?_)
  refine lv_if_eq (tgt := 17) hx hb dX0_fields_5 (by decide) (fun c3 => ?_) (fun c3 => ?_)
  · have h := itT c3 h
    refine lv_iconst (v := (-1)) hx hb dX0_fields_17 (by decide) ?_
    exact r_iretP hQ h hw dX0_fields_18
  · have h := itF c3 h
    refine lv_aload_n hx hb dX0_fields_8 rfl (lv_at hl 0 rfl) ?_
    refine r_get C hw hiX0_fields_X0 3 (XWa_3 cI cZ a u0) rfl 2 (by decide) (by decide +kernel) rfl dX0_fields_9 ?_
    refine lv_iload_n hx hb dX0_fields_12 rfl (lv_at hl 1 rfl) ?_
    obtain ⟨g4, h⟩ := ixE h
    refine r_ald C hw 10 0 (XWa_10 cI cZ a u0) rfl g4 dX0_fields_13 ?_
    refine lv_goto (tgt := 18) hx hb dX0_fields_14 (by decide) ?_
    exact r_iretP hQ h hw dX0_fields_18
abbrev rmX0_fieldType : Room := { frames := 2, cells := 0, slots := 0, locals := 42 }
theorem hiX0_fieldType_X0 : ∀ w ∈ wsX00, w ∈ wsX0_fieldType := by decide +kernel
set_option maxHeartbeats 4000000 in
set_option maxRecDepth 100000 in
theorem c_X0_fieldType (l : Launch) (D : va_G) (cI cZ : ClassId) (z : Nat → Nat) (base : Nat) (a : Nat → Nat) (x1 : Int32) (x2 : Int32) (u0 : St) (ro : Int32) (h : F_X0_fieldType x1 x2 u0 = some ro) : MI l D [(cI, .int), (cZ, .boolean)] z base yX0_fieldType wsX0_fieldType rmX0_fieldType [.ref (a 3), .int x1, .int x2] (XW cI cZ a u0) ro (XW cI cZ a u0) := by
  refine MI.ofI (own := RX0) (cc := cX0_fieldType) (maxL := 3) (by decide) rfl rfl (Nat.le_of_ble_eq_true rfl) ?_
  intro p e s m args below meth c A Q ls C hl hw hQ
  have hx := C.1.1
  have hb := C.1.2.1
  have hl : lv_has ls 3 [(0, .ref (a 3)), (1, .int x1), (2, .int x2)] := hl
  rw [F_X0_fieldType] at h
  refine lv_iload_n hx hb dX0_fieldType_0 rfl (lv_at hl 2 rfl) ?_
  refine lv_if_lt (tgt := 27) hx hb dX0_fieldType_1 (by decide) (fun c1 => ?_) (fun c1 => ?_)
  · have h := itT c1 h
    refine lv_iconst (v := (-1)) hx hb dX0_fieldType_27 (by decide) ?_
    exact r_iretP hQ h hw dX0_fieldType_28
  · have h := itF c1 h
    refine lv_iload_n hx hb dX0_fieldType_4 rfl (lv_at hl 2 rfl) ?_
    refine lv_aload_n hx hb dX0_fieldType_5 rfl (lv_at hl 0 rfl) ?_
    refine lv_iload_n hx hb dX0_fieldType_6 rfl (lv_at hl 1 rfl) ?_
    obtain ⟨r3, h2, h⟩ := b1E h
    refine r_callV (rest := [.int x2]) C hw (c_X0_fields l D cI cZ z base a x1 u0 r3 h2) (cwV 1 C.1.2.2.2.2 gX0_fieldType_X0_fields rfl rfl rfl (by decide +kernel) ⟨Nat.le_of_ble_eq_true rfl, Nat.le_of_ble_eq_true rfl⟩) (va_recv C.2.1 hw.1 (ci := 0) (q0 := 3) rfl (XWa_3 cI cZ a u0)) rfl hl.1 rfl (Nat.le_of_ble_eq_true rfl) dX0_fieldType_7 ⟨Nat.zero_le _, Nat.zero_le _⟩ (fun H locs hw => ?_)
    refine lv_icmp_ge (tgt := 27) hx hb dX0_fieldType_10 (by decide) (fun c4 => ?_) (fun c4 => ?_)
    · have h := itT c4 h
      refine lv_iconst (v := (-1)) hx hb dX0_fieldType_27 (by decide) ?_
      exact r_iretP hQ h hw dX0_fieldType_28
    · have h := itF c4 h
      refine lv_aload_n hx hb dX0_fieldType_13 rfl (lv_at hl 0 rfl) ?_
      refine r_get C hw hiX0_fieldType_X0 3 (XWa_3 cI cZ a u0) rfl 3 (by decide) (by decide +kernel) rfl dX0_fieldType_14 ?_
      refine lv_iload_n hx hb dX0_fieldType_17 rfl (lv_at hl 1 rfl) ?_
      refine lv_bipush (v := 15) hx hb dX0_fieldType_18 (by decide) ?_
      refine lv_imul hx hb dX0_fieldType_20 ?_
      refine lv_iload_n hx hb dX0_fieldType_21 rfl (lv_at hl 2 rfl) ?_
      refine lv_iadd hx hb dX0_fieldType_22 ?_
      obtain ⟨g5, h⟩ := ixE h
      refine r_ald C hw 11 0 (XWa_11 cI cZ a u0) rfl g5 dX0_fieldType_23 ?_
      refine lv_goto (tgt := 28) hx hb dX0_fieldType_24 (by decide) ?_
      exact r_iretP hQ h hw dX0_fieldType_28
abbrev rmX0_slotMethod : Room := { frames := 1, cells := 0, slots := 0, locals := 21 }
theorem hiX0_slotMethod_X0 : ∀ w ∈ wsX00, w ∈ wsX0_slotMethod := by decide +kernel
set_option maxHeartbeats 4000000 in
set_option maxRecDepth 100000 in
theorem c_X0_slotMethod (l : Launch) (D : va_G) (cI cZ : ClassId) (z : Nat → Nat) (base : Nat) (a : Nat → Nat) (x1 : Int32) (x2 : Int32) (u0 : St) (ro : Int32) (h : F_X0_slotMethod x1 x2 u0 = some ro) : MI l D [(cI, .int), (cZ, .boolean)] z base yX0_slotMethod wsX0_slotMethod rmX0_slotMethod [.ref (a 3), .int x1, .int x2] (XW cI cZ a u0) ro (XW cI cZ a u0) := by
  refine MI.ofI (own := RX0) (cc := cX0_slotMethod) (maxL := 3) (by decide) rfl rfl (Nat.le_of_ble_eq_true rfl) ?_
  intro p e s m args below meth c A Q ls C hl hw hQ
  have hx := C.1.1
  have hb := C.1.2.1
  have hl : lv_has ls 3 [(0, .ref (a 3)), (1, .int x1), (2, .int x2)] := hl
  rw [F_X0_slotMethod] at h
  refine lv_aload_n hx hb dX0_slotMethod_0 rfl (lv_at hl 0 rfl) ?_
  refine lv_iload_n hx hb dX0_slotMethod_1 rfl (lv_at hl 1 rfl) ?_
  obtain ⟨r2, h1, h⟩ := b1E h
  refine r_callV (rest := []) C hw (c_X0_has l D cI cZ z base a x1 u0 r2 h1) (cwV 1 C.1.2.2.2.2 gX0_slotMethod_X0_has rfl rfl rfl (by decide +kernel) ⟨Nat.le_of_ble_eq_true rfl, Nat.le_of_ble_eq_true rfl⟩) (va_recv C.2.1 hw.1 (ci := 0) (q0 := 3) rfl (XWa_3 cI cZ a u0)) rfl hl.1 rfl (Nat.le_of_ble_eq_true rfl) dX0_slotMethod_2 ⟨Nat.zero_le _, Nat.zero_le _⟩ (fun H locs hw => ?_)
  refine lv_if_eq (tgt := 32) hx hb dX0_slotMethod_5 (by decide) (fun c3 => ?_) (fun c3 => ?_)
  · have h := itT c3 h
    refine lv_iconst (v := (-1)) hx hb dX0_slotMethod_32 (by decide) ?_
    exact r_iretP hQ h hw dX0_slotMethod_33
  · have h := itF c3 h
    refine lv_iload_n hx hb dX0_slotMethod_8 rfl (lv_at hl 2 rfl) ?_
    refine lv_if_lt (tgt := 32) hx hb dX0_slotMethod_9 (by decide) (fun c4 => ?_) (fun c4 => ?_)
    · have h := itT c4 h
      refine lv_iconst (v := (-1)) hx hb dX0_slotMethod_32 (by decide) ?_
      exact r_iretP hQ h hw dX0_slotMethod_33
    · have h := itF c4 h
      refine lv_iload_n hx hb dX0_slotMethod_12 rfl (lv_at hl 2 rfl) ?_
      refine lv_bipush (v := 16) hx hb dX0_slotMethod_13 (by decide) ?_
      refine lv_icmp_ge (tgt := 32) hx hb dX0_slotMethod_15 (by decide) (fun c5 => ?_) (fun c5 => ?_)
      · have h := itT c5 h
        refine lv_iconst (v := (-1)) hx hb dX0_slotMethod_32 (by decide) ?_
        exact r_iretP hQ h hw dX0_slotMethod_33
      · have h := itF c5 h
        refine lv_aload_n hx hb dX0_slotMethod_18 rfl (lv_at hl 0 rfl) ?_
        refine r_get C hw hiX0_slotMethod_X0 3 (XWa_3 cI cZ a u0) rfl 4 (by decide) (by decide +kernel) rfl dX0_slotMethod_19 ?_
        refine lv_iload_n hx hb dX0_slotMethod_22 rfl (lv_at hl 1 rfl) ?_
        refine lv_bipush (v := 16) hx hb dX0_slotMethod_23 (by decide) ?_
        refine lv_imul hx hb dX0_slotMethod_25 ?_
        refine lv_iload_n hx hb dX0_slotMethod_26 rfl (lv_at hl 2 rfl) ?_
        refine lv_iadd hx hb dX0_slotMethod_27 ?_
        obtain ⟨g6, h⟩ := ixE h
        refine r_ald C hw 12 0 (XWa_12 cI cZ a u0) rfl g6 dX0_slotMethod_28 ?_
        refine lv_goto (tgt := 33) hx hb dX0_slotMethod_29 (by decide) ?_
        exact r_iretP hQ h hw dX0_slotMethod_33
