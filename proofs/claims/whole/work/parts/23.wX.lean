abbrev rmX5_pair : Room := { frames := 2, cells := 0, slots := 0, locals := 45 }
theorem hiX5_pair_X5 : ∀ w ∈ wsX50, w ∈ wsX5_pair := by decide +kernel
set_option maxHeartbeats 4000000 in
set_option maxRecDepth 100000 in
theorem c_X5_pair (l : Launch) (D : va_G) (cI cZ : ClassId) (z : Nat → Nat) (base : Nat) (a : Nat → Nat) (x1 : Int32) (x2 : Int32) (u0 : St) (ro : Int32) (uo : St) (h : F_X5_pair x1 x2 u0 = some (ro, uo)) : MI l D [(cI, .int), (cZ, .boolean)] z base yX5_pair wsX5_pair rmX5_pair [.ref (a 2), .int x1, .int x2] (XW cI cZ a u0) ro (XW cI cZ a uo) := by
  refine MI.ofI (own := RX5) (cc := cX5_pair) (maxL := 5) (by decide) rfl rfl (Nat.le_of_ble_eq_true rfl) ?_
  intro p e s m args below meth c A Q ls C hl hw hQ
  have hx := C.1.1
  have hb := C.1.2.1
  have J50 : ∀ (x3 t0 t1 : Int32) (u0 : St) (H : Heap) (locs : List Loc) (ls : Array Slot), F_X5_pair_50 x3 t0 t1 u0 = some (ro, uo) → Wd D A s.heap H locs (XW cI cZ a u0) → lv_has ls 5 [(0, .ref (a 2)), (3, .int x3)] → W p l e rmX5_pair s m args below meth c H locs 0 0 Q (F0 m 50 ls [.int t0, .int t1, .ref (a 2)]) := by
    intro x3 t0 t1 u0 H locs ls h hw hl
    rw [F_X5_pair_50] at h
    obtain ⟨r2, u3, h1, h⟩ := b2E h
    refine r_callV (rest := []) C hw (c_X5_number l D cI cZ z base a t1 t0 u0 r2 u3 h1) (cwV 2 C.1.2.2.2.2 gX5_pair_X5_number rfl rfl rfl (by decide +kernel) ⟨Nat.le_of_ble_eq_true rfl, Nat.le_of_ble_eq_true rfl⟩) (va_recv C.2.1 hw.1 (ci := 4) (q0 := 2) rfl (XWa_2 cI cZ a u0)) rfl hl.1 rfl (Nat.le_of_ble_eq_true rfl) dX5_pair_50 ⟨Nat.zero_le _, Nat.zero_le _⟩ (fun H locs hw => ?_)
    refine lv_istore (lv' := [(4, .int r2), (0, .ref (a 2)), (3, .int x3)]) hx hb dX5_pair_53 hl (by decide) rfl (fun ls hl => ?_)
    refine lv_aload_n hx hb dX5_pair_55 rfl (lv_at hl 1 rfl) ?_
    refine r_get C hw hiX5_pair_X5 2 (XWa_2 cI cZ a u3) rfl 3 (by decide) (by decide +kernel) rfl dX5_pair_56 ?_
    refine lv_if_eq (tgt := 66) hx hb dX5_pair_59 (by decide) (fun c4 => ?_) (fun c4 => ?_)
    · have h := itT c4 h
      refine lv_iload_n hx hb dX5_pair_66 rfl (lv_at hl 2 rfl) ?_
      refine lv_bipush (v := 8) hx hb dX5_pair_67 (by decide) ?_
      refine lv_ishl hx hb dX5_pair_69 ?_
      refine lv_iload hx hb dX5_pair_70 (lv_at hl 0 rfl) ?_
      refine lv_ior hx hb dX5_pair_72 ?_
      exact r_iret (f := XW cI cZ a) hQ h hw dX5_pair_73
    · have h := itF c4 h
      refine lv_iconst (v := (-1)) hx hb dX5_pair_62 (by decide) ?_
      refine lv_goto (tgt := 73) hx hb dX5_pair_63 (by decide) ?_
      exact r_iret (f := XW cI cZ a) hQ h hw dX5_pair_73
  have J31 : ∀ (x2 x3 t0 : Int32) (u0 : St) (H : Heap) (locs : List Loc) (ls : Array Slot), F_X5_pair_31 x2 x3 t0 u0 = some (ro, uo) → Wd D A s.heap H locs (XW cI cZ a u0) → lv_has ls 5 [(0, .ref (a 2)), (2, .int x2), (3, .int x3)] → W p l e rmX5_pair s m args below meth c H locs 0 0 Q (F0 m 31 ls [.int t0, .ref (a 2)]) := by
    intro x2 x3 t0 u0 H locs ls h hw hl
    rw [F_X5_pair_31] at h
    refine lv_iload_n hx hb dX5_pair_31 rfl (lv_at hl 2 rfl) ?_
    refine lv_iload_n hx hb dX5_pair_32 rfl (lv_at hl 1 rfl) ?_
    refine lv_bipush (v := 8) hx hb dX5_pair_33 (by decide) ?_
    refine lv_ishr hx hb dX5_pair_35 ?_
    refine lv_icmp_ne (tgt := 47) hx hb dX5_pair_36 (by decide) (fun c1 => ?_) (fun c1 => ?_)
    · have h := itF c1 h
      refine lv_sipush (v := 255) hx hb dX5_pair_47 (by decide) ?_
      exact J50 x3 255 t0 u0 _ _ _ h hw (lv_sub hl [0, 2] rfl)
    · have h := itT c1 h
      refine lv_iload_n hx hb dX5_pair_39 rfl (lv_at hl 1 rfl) ?_
      refine lv_sipush (v := 255) hx hb dX5_pair_40 (by decide) ?_
      refine lv_iand hx hb dX5_pair_43 ?_
      refine lv_goto (tgt := 50) hx hb dX5_pair_44 (by decide) ?_
      exact J50 x3 (x2 &&& 255) t0 u0 _ _ _ h hw (lv_sub hl [0, 2] rfl)
  have hl : lv_has ls 5 [(0, .ref (a 2)), (1, .int x1), (2, .int x2)] := hl
  rw [F_X5_pair] at h
  refine lv_aload_n hx hb dX5_pair_0 rfl (lv_at hl 0 rfl) ?_
  refine lv_iload_n hx hb dX5_pair_1 rfl (lv_at hl 1 rfl) ?_
  refine lv_bipush (v := 8) hx hb dX5_pair_2 (by decide) ?_
  refine lv_ishr hx hb dX5_pair_4 ?_
  refine lv_iload_n hx hb dX5_pair_5 rfl (lv_at hl 2 rfl) ?_
  refine lv_bipush (v := 8) hx hb dX5_pair_6 (by decide) ?_
  refine lv_ishr hx hb dX5_pair_8 ?_
  obtain ⟨r2, u3, h1, h⟩ := b2E h
  refine r_callV (rest := []) C hw (c_X5_number l D cI cZ z base a (x1 >>> (8 &&& 31)) (x2 >>> (8 &&& 31)) u0 r2 u3 h1) (cwV 2 C.1.2.2.2.2 gX5_pair_X5_number rfl rfl rfl (by decide +kernel) ⟨Nat.le_of_ble_eq_true rfl, Nat.le_of_ble_eq_true rfl⟩) (va_recv C.2.1 hw.1 (ci := 4) (q0 := 2) rfl (XWa_2 cI cZ a u0)) rfl hl.1 rfl (Nat.le_of_ble_eq_true rfl) dX5_pair_9 ⟨Nat.zero_le _, Nat.zero_le _⟩ (fun H locs hw => ?_)
  refine lv_istore_n (lv' := [(3, .int r2), (0, .ref (a 2)), (1, .int x1), (2, .int x2)]) hx hb dX5_pair_12 rfl hl (by decide) rfl (fun ls hl => ?_)
  refine lv_aload_n hx hb dX5_pair_13 rfl (lv_at hl 1 rfl) ?_
  refine lv_iload_n hx hb dX5_pair_14 rfl (lv_at hl 0 rfl) ?_
  refine lv_iload_n hx hb dX5_pair_15 rfl (lv_at hl 2 rfl) ?_
  refine lv_bipush (v := 8) hx hb dX5_pair_16 (by decide) ?_
  refine lv_ishr hx hb dX5_pair_18 ?_
  refine lv_icmp_ne (tgt := 30) hx hb dX5_pair_19 (by decide) (fun c4 => ?_) (fun c4 => ?_)
  · have h := itF c4 h
    refine lv_iconst (v := 0) hx hb dX5_pair_30 (by decide) ?_
    exact J31 x2 r2 0 u3 _ _ _ h hw (lv_sub hl [1, 3, 0] rfl)
  · have h := itT c4 h
    refine lv_iload_n hx hb dX5_pair_22 rfl (lv_at hl 2 rfl) ?_
    refine lv_sipush (v := 255) hx hb dX5_pair_23 (by decide) ?_
    refine lv_iand hx hb dX5_pair_26 ?_
    refine lv_goto (tgt := 31) hx hb dX5_pair_27 (by decide) ?_
    exact J31 x2 r2 (x1 &&& 255) u3 _ _ _ h hw (lv_sub hl [1, 3, 0] rfl)
abbrev rmX4_first : Room := { frames := 0, cells := 0, slots := 0, locals := 0 }
set_option maxHeartbeats 4000000 in
set_option maxRecDepth 100000 in
theorem c_X4_first (l : Launch) (D : va_G) (cI cZ : ClassId) (z : Nat → Nat) (base : Nat) (a : Nat → Nat) (x0 : Int32) (u0 : St) (ro : Int32) (h : F_X4_first x0 u0 = some ro) : MI l D [(cI, .int), (cZ, .boolean)] z base yX4_first wsX4_first rmX4_first [.int x0] (XW cI cZ a u0) ro (XW cI cZ a u0) := by
  refine MI.ofI (own := RX4) (cc := cX4_first) (maxL := 1) (by decide) rfl rfl (Nat.le_of_ble_eq_true rfl) ?_
  intro p e s m args below meth c A Q ls C hl hw hQ
  have hx := C.1.1
  have hb := C.1.2.1
  have hl : lv_has ls 1 [(0, .int x0)] := hl
  rw [F_X4_first] at h
  refine lv_iload_n hx hb dX4_first_0 rfl (lv_at hl 0 rfl) ?_
  refine lv_if_lt (tgt := 20) hx hb dX4_first_1 (by decide) (fun c1 => ?_) (fun c1 => ?_)
  · have h := itT c1 h
    refine lv_iconst (v := 0) hx hb dX4_first_20 (by decide) ?_
    exact r_iretP hQ h hw dX4_first_21
  · have h := itF c1 h
    refine lv_iload_n hx hb dX4_first_4 rfl (lv_at hl 0 rfl) ?_
    refine r_gets C hw C.2.2.2.2.2.1 (by decide +kernel) dX4_first_5 ?_
    refine r_slen C hw C.2.2.2.2.2.1 dX4_first_8 ?_
    refine lv_icmp_ge (tgt := 20) hx hb dX4_first_9 (by decide) (fun c2 => ?_) (fun c2 => ?_)
    · have h := itT c2 h
      refine lv_iconst (v := 0) hx hb dX4_first_20 (by decide) ?_
      exact r_iretP hQ h hw dX4_first_21
    · have h := itF c2 h
      refine r_gets C hw C.2.2.2.2.2.1 (by decide +kernel) dX4_first_12 ?_
      refine lv_iload_n hx hb dX4_first_15 rfl (lv_at hl 0 rfl) ?_
      obtain ⟨g3, h⟩ := ixE h
      refine r_sld C hw C.2.2.2.2.2.1 g3 dX4_first_16 ?_
      refine lv_goto (tgt := 21) hx hb dX4_first_17 (by decide) ?_
      exact r_iretP hQ h hw dX4_first_21
abbrev rmX4_width : Room := { frames := 0, cells := 0, slots := 0, locals := 0 }
set_option maxHeartbeats 4000000 in
set_option maxRecDepth 100000 in
theorem c_X4_width (l : Launch) (D : va_G) (cI cZ : ClassId) (z : Nat → Nat) (base : Nat) (a : Nat → Nat) (x0 : Int32) (u0 : St) (ro : Int32) (h : F_X4_width x0 u0 = some ro) : MI l D [(cI, .int), (cZ, .boolean)] z base yX4_width wsX4_width rmX4_width [.int x0] (XW cI cZ a u0) ro (XW cI cZ a u0) := by
  refine MI.ofI (own := RX4) (cc := cX4_width) (maxL := 1) (by decide) rfl rfl (Nat.le_of_ble_eq_true rfl) ?_
  intro p e s m args below meth c A Q ls C hl hw hQ
  have hx := C.1.1
  have hb := C.1.2.1
  have hl : lv_has ls 1 [(0, .int x0)] := hl
  rw [F_X4_width] at h
  refine lv_iload_n hx hb dX4_width_0 rfl (lv_at hl 0 rfl) ?_
  refine lv_if_lt (tgt := 20) hx hb dX4_width_1 (by decide) (fun c1 => ?_) (fun c1 => ?_)
  · have h := itT c1 h
    refine lv_iconst (v := 0) hx hb dX4_width_20 (by decide) ?_
    exact r_iretP hQ h hw dX4_width_21
  · have h := itF c1 h
    refine lv_iload_n hx hb dX4_width_4 rfl (lv_at hl 0 rfl) ?_
    refine r_gets C hw C.2.2.2.2.2.2.2 (by decide +kernel) dX4_width_5 ?_
    refine r_slen C hw C.2.2.2.2.2.2.2 dX4_width_8 ?_
    refine lv_icmp_ge (tgt := 20) hx hb dX4_width_9 (by decide) (fun c2 => ?_) (fun c2 => ?_)
    · have h := itT c2 h
      refine lv_iconst (v := 0) hx hb dX4_width_20 (by decide) ?_
      exact r_iretP hQ h hw dX4_width_21
    · have h := itF c2 h
      refine r_gets C hw C.2.2.2.2.2.2.2 (by decide +kernel) dX4_width_12 ?_
      refine lv_iload_n hx hb dX4_width_15 rfl (lv_at hl 0 rfl) ?_
      obtain ⟨g3, h⟩ := ixE h
      refine r_sld C hw C.2.2.2.2.2.2.2 g3 dX4_width_16 ?_
      refine lv_goto (tgt := 21) hx hb dX4_width_17 (by decide) ?_
      exact r_iretP hQ h hw dX4_width_21
abbrev rmX4_second : Room := { frames := 0, cells := 0, slots := 0, locals := 0 }
set_option maxHeartbeats 4000000 in
set_option maxRecDepth 100000 in
theorem c_X4_second (l : Launch) (D : va_G) (cI cZ : ClassId) (z : Nat → Nat) (base : Nat) (a : Nat → Nat) (x0 : Int32) (u0 : St) (ro : Int32) (h : F_X4_second x0 u0 = some ro) : MI l D [(cI, .int), (cZ, .boolean)] z base yX4_second wsX4_second rmX4_second [.int x0] (XW cI cZ a u0) ro (XW cI cZ a u0) := by
  refine MI.ofI (own := RX4) (cc := cX4_second) (maxL := 1) (by decide) rfl rfl (Nat.le_of_ble_eq_true rfl) ?_
  intro p e s m args below meth c A Q ls C hl hw hQ
  have hx := C.1.1
  have hb := C.1.2.1
  have hl : lv_has ls 1 [(0, .int x0)] := hl
  rw [F_X4_second] at h
  refine lv_iload_n hx hb dX4_second_0 rfl (lv_at hl 0 rfl) ?_
  refine lv_if_lt (tgt := 20) hx hb dX4_second_1 (by decide) (fun c1 => ?_) (fun c1 => ?_)
  · have h := itT c1 h
    refine lv_iconst (v := 0) hx hb dX4_second_20 (by decide) ?_
    exact r_iretP hQ h hw dX4_second_21
  · have h := itF c1 h
    refine lv_iload_n hx hb dX4_second_4 rfl (lv_at hl 0 rfl) ?_
    refine r_gets C hw C.2.2.2.2.2.2.1 (by decide +kernel) dX4_second_5 ?_
    refine r_slen C hw C.2.2.2.2.2.2.1 dX4_second_8 ?_
    refine lv_icmp_ge (tgt := 20) hx hb dX4_second_9 (by decide) (fun c2 => ?_) (fun c2 => ?_)
    · have h := itT c2 h
      refine lv_iconst (v := 0) hx hb dX4_second_20 (by decide) ?_
      exact r_iretP hQ h hw dX4_second_21
    · have h := itF c2 h
      refine r_gets C hw C.2.2.2.2.2.2.1 (by decide +kernel) dX4_second_12 ?_
      refine lv_iload_n hx hb dX4_second_15 rfl (lv_at hl 0 rfl) ?_
      obtain ⟨g3, h⟩ := ixE h
      refine r_sld C hw C.2.2.2.2.2.2.1 g3 dX4_second_16 ?_
      refine lv_goto (tgt := 21) hx hb dX4_second_17 (by decide) ?_
      exact r_iretP hQ h hw dX4_second_21
abbrev rmX4_length : Room := { frames := 1, cells := 0, slots := 0, locals := 20 }
set_option maxHeartbeats 4000000 in
set_option maxRecDepth 100000 in
theorem c_X4_length (l : Launch) (D : va_G) (cI cZ : ClassId) (z : Nat → Nat) (base : Nat) (a : Nat → Nat) (x0 : Int32) (u0 : St) (ro : Int32) (h : F_X4_length x0 u0 = some ro) : MI l D [(cI, .int), (cZ, .boolean)] z base yX4_length wsX4_length rmX4_length [.int x0] (XW cI cZ a u0) ro (XW cI cZ a u0) := by
  refine MI.ofI (own := RX4) (cc := cX4_length) (maxL := 1) (by decide) rfl rfl (Nat.le_of_ble_eq_true rfl) ?_
  intro p e s m args below meth c A Q ls C hl hw hQ
  have hx := C.1.1
  have hb := C.1.2.1
  have hl : lv_has ls 1 [(0, .int x0)] := hl
  rw [F_X4_length] at h
  refine lv_iconst (v := 1) hx hb dX4_length_0 (by decide) ?_
  refine lv_iload_n hx hb dX4_length_1 rfl (lv_at hl 0 rfl) ?_
  obtain ⟨r2, h1, h⟩ := b1E h
  refine r_callS (rest := [.int 1]) C hw (c_X4_first l D cI cZ z base a x0 u0 r2 h1) (va_cwS 1 C.1.2.2.2.2 gX4_length_X4_first rfl rfl rfl (by decide +kernel) ⟨Nat.le_of_ble_eq_true rfl, Nat.le_of_ble_eq_true rfl⟩) rfl hl.1 rfl (Nat.le_of_ble_eq_true rfl) dX4_length_2 ⟨Nat.zero_le _, Nat.zero_le _⟩ (fun H locs hw => ?_)
  obtain ⟨r4, h3, h⟩ := b1E h
  refine r_callS (rest := [.int 1]) C hw (c_X4_width l D cI cZ z base a r2 u0 r4 h3) (va_cwS 1 C.1.2.2.2.2 gX4_length_X4_width rfl rfl rfl (by decide +kernel) ⟨Nat.le_of_ble_eq_true rfl, Nat.le_of_ble_eq_true rfl⟩) rfl hl.1 rfl (Nat.le_of_ble_eq_true rfl) dX4_length_5 ⟨Nat.zero_le _, Nat.zero_le _⟩ (fun H locs hw => ?_)
  refine lv_iadd hx hb dX4_length_8 ?_
  refine lv_iload_n hx hb dX4_length_9 rfl (lv_at hl 0 rfl) ?_
  obtain ⟨r6, h5, h⟩ := b1E h
  refine r_callS (rest := [.int (1 + r4)]) C hw (c_X4_second l D cI cZ z base a x0 u0 r6 h5) (va_cwS 1 C.1.2.2.2.2 gX4_length_X4_second rfl rfl rfl (by decide +kernel) ⟨Nat.le_of_ble_eq_true rfl, Nat.le_of_ble_eq_true rfl⟩) rfl hl.1 rfl (Nat.le_of_ble_eq_true rfl) dX4_length_10 ⟨Nat.zero_le _, Nat.zero_le _⟩ (fun H locs hw => ?_)
  obtain ⟨r8, h7, h⟩ := b1E h
  refine r_callS (rest := [.int (1 + r4)]) C hw (c_X4_width l D cI cZ z base a r6 u0 r8 h7) (va_cwS 1 C.1.2.2.2.2 gX4_length_X4_width rfl rfl rfl (by decide +kernel) ⟨Nat.le_of_ble_eq_true rfl, Nat.le_of_ble_eq_true rfl⟩) rfl hl.1 rfl (Nat.le_of_ble_eq_true rfl) dX4_length_13 ⟨Nat.zero_le _, Nat.zero_le _⟩ (fun H locs hw => ?_)
  refine lv_iadd hx hb dX4_length_16 ?_
  exact r_iretP hQ h hw dX4_length_17
abbrev rmX5_stopAt : Room := { frames := 0, cells := 0, slots := 0, locals := 0 }
theorem hiX5_stopAt_X5 : ∀ w ∈ wsX50, w ∈ wsX5_stopAt := by decide +kernel
set_option maxHeartbeats 4000000 in
set_option maxRecDepth 100000 in
theorem c_X5_stopAt (l : Launch) (D : va_G) (cI cZ : ClassId) (z : Nat → Nat) (base : Nat) (a : Nat → Nat) (x1 : Int32) (u0 : St) (uo : St) (h : F_X5_stopAt x1 u0 = some uo) : MV l D [(cI, .int), (cZ, .boolean)] z base yX5_stopAt wsX5_stopAt rmX5_stopAt [.ref (a 2), .int x1] (XW cI cZ a u0) (XW cI cZ a uo) := by
  refine MV.of (own := RX5) (cc := cX5_stopAt) (maxL := 2) (by decide) rfl rfl (Nat.le_of_ble_eq_true rfl) ?_
  intro p e s m args below meth c A Q ls C hl hw hQ
  have hx := C.1.1
  have hb := C.1.2.1
  have hl : lv_has ls 2 [(0, .ref (a 2)), (1, .int x1)] := hl
  rw [F_X5_stopAt] at h
  refine lv_aload_n hx hb dX5_stopAt_0 rfl (lv_at hl 0 rfl) ?_
  refine lv_iload_n hx hb dX5_stopAt_1 rfl (lv_at hl 1 rfl) ?_
  obtain ⟨u1, eu1⟩ : ∃ y : St, y = st u0 2 2 x1 := ⟨_, rfl⟩
  have h := nmE eu1 h
  refine r_put (ws' := (XW cI cZ a u1)) C hw hiX5_stopAt_X5 tyX5 tyX5_ok nmX5 2 (XWa_2 cI cZ a u0) rfl 2 (by decide) (by decide +kernel) rfl (ty := .int) (by decide +kernel) rfl rfl (Nat.le_of_ble_eq_true rfl) (by rw [eu1]; exact XWs_2_2 cI cZ a u0 x1) dX5_stopAt_2 (fun H locs hw => ?_)
  refine lv_aload_n hx hb dX5_stopAt_5 rfl (lv_at hl 0 rfl) ?_
  refine lv_iconst (v := 1) hx hb dX5_stopAt_6 (by decide) ?_
  obtain ⟨u2, eu2⟩ : ∃ y : St, y = st u1 2 3 1 := ⟨_, rfl⟩
  have h := nmE eu2 h
  refine r_put (ws' := (XW cI cZ a u2)) C hw hiX5_stopAt_X5 tyX5 tyX5_ok nmX5 2 (XWa_2 cI cZ a u1) rfl 3 (by decide) (by decide +kernel) rfl (ty := .boolean) (by decide +kernel) rfl rfl (Nat.le_of_ble_eq_true rfl) (by rw [eu2]; exact XWs_2_3 cI cZ a u1 1) dX5_stopAt_7 (fun H locs hw => ?_)
  exact r_vret (f := XW cI cZ a) hQ h hw dX5_stopAt_10
abbrev rmX1_markBegin : Room := { frames := 0, cells := 0, slots := 0, locals := 0 }
theorem hiX1_markBegin_X1 : ∀ w ∈ wsX10, w ∈ wsX1_markBegin := by decide +kernel
set_option maxHeartbeats 4000000 in
set_option maxRecDepth 100000 in
theorem c_X1_markBegin (l : Launch) (D : va_G) (cI cZ : ClassId) (z : Nat → Nat) (base : Nat) (a : Nat → Nat) (x1 : Int32) (u0 : St) (uo : St) (h : F_X1_markBegin x1 u0 = some uo) : MV l D [(cI, .int), (cZ, .boolean)] z base yX1_markBegin wsX1_markBegin rmX1_markBegin [.ref (a 5), .int x1] (XW cI cZ a u0) (XW cI cZ a uo) := by
  refine MV.of (own := RX1) (cc := cX1_markBegin) (maxL := 3) (by decide) rfl rfl (Nat.le_of_ble_eq_true rfl) ?_
  intro p e s m args below meth c A Q ls C hl hw hQ
  have hx := C.1.1
  have hb := C.1.2.1
  have hl : lv_has ls 3 [(0, .ref (a 5)), (1, .int x1)] := hl
  rw [F_X1_markBegin] at h
  refine lv_iload_n hx hb dX1_markBegin_0 rfl (lv_at hl 1 rfl) ?_
  refine lv_iconst (v := 5) hx hb dX1_markBegin_1 (by decide) ?_
  refine lv_ishr hx hb dX1_markBegin_2 ?_
  refine lv_topi (fun v1 ev1 => ?_)
  have h := nmE ev1 h
  refine lv_istore_n (lv' := [(2, .int v1), (0, .ref (a 5)), (1, .int x1)]) hx hb dX1_markBegin_3 rfl hl (by decide) rfl (fun ls hl => ?_)
  refine lv_iload_n hx hb dX1_markBegin_4 rfl (lv_at hl 0 rfl) ?_
  refine lv_if_lt (tgt := 32) hx hb dX1_markBegin_5 (by decide) (fun c2 => ?_) (fun c2 => ?_)
  · have h := itT c2 h
    exact r_vret (f := XW cI cZ a) hQ h hw dX1_markBegin_32
  · have h := itF c2 h
    refine lv_iload_n hx hb dX1_markBegin_8 rfl (lv_at hl 0 rfl) ?_
    refine lv_aload_n hx hb dX1_markBegin_9 rfl (lv_at hl 1 rfl) ?_
    refine r_get C hw hiX1_markBegin_X1 5 (XWa_5 cI cZ a u0) rfl 4 (by decide) (by decide +kernel) rfl dX1_markBegin_10 ?_
    refine r_alen (v := 250) C hw 24 0 (XWa_24 cI cZ a u0) rfl rfl dX1_markBegin_13 ?_
    refine lv_icmp_ge (tgt := 32) hx hb dX1_markBegin_14 (by decide) (fun c3 => ?_) (fun c3 => ?_)
    · have h := itT c3 h
      exact r_vret (f := XW cI cZ a) hQ h hw dX1_markBegin_32
    · have h := itF c3 h
      refine lv_aload_n hx hb dX1_markBegin_17 rfl (lv_at hl 1 rfl) ?_
      refine r_get C hw hiX1_markBegin_X1 5 (XWa_5 cI cZ a u0) rfl 4 (by decide) (by decide +kernel) rfl dX1_markBegin_18 ?_
      refine lv_iload_n hx hb dX1_markBegin_21 rfl (lv_at hl 0 rfl) ?_
      refine lv_dup2_11 hx hb dX1_markBegin_22 rfl rfl ?_
      obtain ⟨g4, h⟩ := ixE h
      refine r_ald C hw 24 0 (XWa_24 cI cZ a u0) rfl g4 dX1_markBegin_23 ?_
      refine lv_iconst (v := 1) hx hb dX1_markBegin_24 (by decide) ?_
      refine lv_iload_n hx hb dX1_markBegin_25 rfl (lv_at hl 2 rfl) ?_
      refine lv_bipush (v := 31) hx hb dX1_markBegin_26 (by decide) ?_
      refine lv_iand hx hb dX1_markBegin_28 ?_
      refine lv_ishl hx hb dX1_markBegin_29 ?_
      refine lv_ior hx hb dX1_markBegin_30 ?_
      obtain ⟨g5, h⟩ := ixE h
      obtain ⟨u6, eu6⟩ : ∃ y : St, y = st u0 24 (v1).toNatClampNeg ((u0 24 (v1).toNatClampNeg) ||| (1 <<< ((x1 &&& 31) &&& 31))) := ⟨_, rfl⟩
      have h := nmE eu6 h
      refine r_ast (ws' := (XW cI cZ a u6)) C hw 24 0 (XWa_24 cI cZ a u0) rfl g5 (by rw [eu6]; exact XWs_24 cI cZ a u0 _ ((u0 24 (v1).toNatClampNeg) ||| (1 <<< ((x1 &&& 31) &&& 31)))) dX1_markBegin_31 (fun H locs hw => ?_)
      exact r_vret (f := XW cI cZ a) hQ h hw dX1_markBegin_32
abbrev rmX5_skip : Room := { frames := 1, cells := 0, slots := 0, locals := 21 }
theorem hiX5_skip_X5 : ∀ w ∈ wsX50, w ∈ wsX5_skip := by decide +kernel
set_option maxHeartbeats 4000000 in
set_option maxRecDepth 100000 in
theorem c_X5_skip (l : Launch) (D : va_G) (cI cZ : ClassId) (z : Nat → Nat) (base : Nat) (a : Nat → Nat) (x1 : Int32) (u0 : St) (uo : St) (h : F_X5_skip x1 u0 = some uo) : MV l D [(cI, .int), (cZ, .boolean)] z base yX5_skip wsX5_skip rmX5_skip [.ref (a 2), .int x1] (XW cI cZ a u0) (XW cI cZ a uo) := by
  refine MV.of (own := RX5) (cc := cX5_skip) (maxL := 2) (by decide) rfl rfl (Nat.le_of_ble_eq_true rfl) ?_
  intro p e s m args below meth c A Q ls C hl hw hQ
  have hx := C.1.1
  have hb := C.1.2.1
  have hl : lv_has ls 2 [(0, .ref (a 2)), (1, .int x1)] := hl
  rw [F_X5_skip] at h
  refine lv_aload_n hx hb dX5_skip_0 rfl (lv_at hl 0 rfl) ?_
  refine r_get C hw hiX5_skip_X5 2 (XWa_2 cI cZ a u0) rfl 3 (by decide) (by decide +kernel) rfl dX5_skip_1 ?_
  refine lv_if_eq (tgt := 8) hx hb dX5_skip_4 (by decide) (fun c1 => ?_) (fun c1 => ?_)
  · have h := itT c1 h
    refine lv_iload_n hx hb dX5_skip_8 rfl (lv_at hl 1 rfl) ?_
    refine lv_aload_n hx hb dX5_skip_9 rfl (lv_at hl 0 rfl) ?_
    refine r_get C hw hiX5_skip_X5 2 (XWa_2 cI cZ a u0) rfl 1 (by decide) (by decide +kernel) rfl dX5_skip_10 ?_
    refine lv_aload_n hx hb dX5_skip_13 rfl (lv_at hl 0 rfl) ?_
    refine r_get C hw hiX5_skip_X5 2 (XWa_2 cI cZ a u0) rfl 2 (by decide) (by decide +kernel) rfl dX5_skip_14 ?_
    refine lv_isub hx hb dX5_skip_17 ?_
    refine lv_icmp_le (tgt := 30) hx hb dX5_skip_18 (by decide) (fun c2 => ?_) (fun c2 => ?_)
    · have h := itT c2 h
      refine lv_aload_n hx hb dX5_skip_30 rfl (lv_at hl 0 rfl) ?_
      refine lv_dup hx hb dX5_skip_31 rfl ?_
      refine r_get C hw hiX5_skip_X5 2 (XWa_2 cI cZ a u0) rfl 2 (by decide) (by decide +kernel) rfl dX5_skip_32 ?_
      refine lv_iload_n hx hb dX5_skip_35 rfl (lv_at hl 1 rfl) ?_
      refine lv_iadd hx hb dX5_skip_36 ?_
      obtain ⟨u3, eu3⟩ : ∃ y : St, y = st u0 2 2 ((u0 2 2) + x1) := ⟨_, rfl⟩
      have h := nmE eu3 h
      refine r_put (ws' := (XW cI cZ a u3)) C hw hiX5_skip_X5 tyX5 tyX5_ok nmX5 2 (XWa_2 cI cZ a u0) rfl 2 (by decide) (by decide +kernel) rfl (ty := .int) (by decide +kernel) rfl rfl (Nat.le_of_ble_eq_true rfl) (by rw [eu3]; exact XWs_2_2 cI cZ a u0 ((u0 2 2) + x1)) dX5_skip_37 (fun H locs hw => ?_)
      exact r_vret (f := XW cI cZ a) hQ h hw dX5_skip_40
    · have h := itF c2 h
      refine lv_aload_n hx hb dX5_skip_21 rfl (lv_at hl 0 rfl) ?_
      refine lv_aload_n hx hb dX5_skip_22 rfl (lv_at hl 0 rfl) ?_
      refine r_get C hw hiX5_skip_X5 2 (XWa_2 cI cZ a u0) rfl 1 (by decide) (by decide +kernel) rfl dX5_skip_23 ?_
      obtain ⟨u5, h4, h⟩ := b1E h
      refine r_callVv (rest := []) C hw (c_X5_stopAt l D cI cZ z base a (u0 2 1) u0 u5 h4) (cwV 1 C.1.2.2.2.2 gX5_skip_X5_stopAt rfl rfl rfl (by decide +kernel) ⟨Nat.le_of_ble_eq_true rfl, Nat.le_of_ble_eq_true rfl⟩) (va_recv C.2.1 hw.1 (ci := 4) (q0 := 2) rfl (XWa_2 cI cZ a u0)) rfl hl.1 rfl (Nat.le_of_ble_eq_true rfl) dX5_skip_26 ⟨Nat.zero_le _, Nat.zero_le _⟩ (fun H locs hw => ?_)
      exact r_vret (f := XW cI cZ a) hQ h hw dX5_skip_29
  · have h := itF c1 h
    exact r_vret (f := XW cI cZ a) hQ h hw dX5_skip_7
abbrev rmX1_readOperand : Room := { frames := 2, cells := 0, slots := 0, locals := 45 }
set_option maxHeartbeats 4000000 in
set_option maxRecDepth 100000 in
theorem c_X1_readOperand (l : Launch) (D : va_G) (cI cZ : ClassId) (z : Nat → Nat) (base : Nat) (a : Nat → Nat) (x2 : Int32) (x3 : Int32) (u0 : St) (ro : Int32) (uo : St) (h : F_X1_readOperand x2 x3 u0 = some (ro, uo)) : MI l D [(cI, .int), (cZ, .boolean)] z base yX1_readOperand wsX1_readOperand rmX1_readOperand [.ref (a 2), .ref (a 3), .int x2, .int x3] (XW cI cZ a u0) ro (XW cI cZ a uo) := by
  refine MI.ofI (own := RX1) (cc := cX1_readOperand) (maxL := 4) (by decide) rfl rfl (Nat.le_of_ble_eq_true rfl) ?_
  intro p e s m args below meth c A Q ls C hl hw hQ
  have hx := C.1.1
  have hb := C.1.2.1
  have hl : lv_has ls 4 [(0, .ref (a 2)), (1, .ref (a 3)), (2, .int x2), (3, .int x3)] := hl
  rw [F_X1_readOperand] at h
  refine lv_iload_n hx hb dX1_readOperand_0 rfl (lv_at hl 2 rfl) ?_
  by_cases c1 : x2 = 2
  · have h := itT c1 h
    refine r_tabIn (k := 2) (tgt := 40) C c1 dX1_readOperand_1 (by decide) (by decide) rfl (by decide) ?_
    refine lv_aload_n hx hb dX1_readOperand_40 rfl (lv_at hl 0 rfl) ?_
    refine lv_iconst (v := 0) hx hb dX1_readOperand_41 (by decide) ?_
    refine lv_iload_n hx hb dX1_readOperand_42 rfl (lv_at hl 3 rfl) ?_
    refine lv_iconst (v := 1) hx hb dX1_readOperand_43 (by decide) ?_
    refine lv_isub hx hb dX1_readOperand_44 ?_
    obtain ⟨r3, u4, h2, h⟩ := b2E h
    refine r_callV (rest := []) C hw (c_X5_number l D cI cZ z base a 0 (x3 - 1) u0 r3 u4 h2) (cwV 2 C.1.2.2.2.2 gX1_readOperand_X5_number rfl rfl rfl (by decide +kernel) ⟨Nat.le_of_ble_eq_true rfl, Nat.le_of_ble_eq_true rfl⟩) (va_recv C.2.1 hw.1 (ci := 4) (q0 := 2) rfl (XWa_2 cI cZ a u0)) rfl hl.1 rfl (Nat.le_of_ble_eq_true rfl) dX1_readOperand_45 ⟨Nat.zero_le _, Nat.zero_le _⟩ (fun H locs hw => ?_)
    exact r_iret (f := XW cI cZ a) hQ h hw dX1_readOperand_48
  have h := itF c1 h
  by_cases c5 : x2 = 3
  · have h := itT c5 h
    refine r_tabIn (k := 3) (tgt := 49) C c5 dX1_readOperand_1 (by decide) (by decide) rfl (by decide) ?_
    refine lv_aload_n hx hb dX1_readOperand_49 rfl (lv_at hl 0 rfl) ?_
    refine lv_iconst (v := 0) hx hb dX1_readOperand_50 (by decide) ?_
    refine lv_iconst (v := 5) hx hb dX1_readOperand_51 (by decide) ?_
    obtain ⟨r7, u8, h6, h⟩ := b2E h
    refine r_callV (rest := []) C hw (c_X5_number l D cI cZ z base a 0 5 u0 r7 u8 h6) (cwV 2 C.1.2.2.2.2 gX1_readOperand_X5_number rfl rfl rfl (by decide +kernel) ⟨Nat.le_of_ble_eq_true rfl, Nat.le_of_ble_eq_true rfl⟩) (va_recv C.2.1 hw.1 (ci := 4) (q0 := 2) rfl (XWa_2 cI cZ a u0)) rfl hl.1 rfl (Nat.le_of_ble_eq_true rfl) dX1_readOperand_52 ⟨Nat.zero_le _, Nat.zero_le _⟩ (fun H locs hw => ?_)
    exact r_iret (f := XW cI cZ a) hQ h hw dX1_readOperand_55
  have h := itF c5 h
  by_cases c9 : x2 = 4
  · have h := itT c9 h
    refine r_tabIn (k := 4) (tgt := 78) C c9 dX1_readOperand_1 (by decide) (by decide) rfl (by decide) ?_
    refine lv_aload_n hx hb dX1_readOperand_78 rfl (lv_at hl 0 rfl) ?_
    refine lv_iload_n hx hb dX1_readOperand_79 rfl (lv_at hl 2 rfl) ?_
    obtain ⟨r11, h10, h⟩ := b1E h
    refine r_callS (rest := [.ref (a 2)]) C hw (c_X4_width l D cI cZ z base a x2 u0 r11 h10) (va_cwS 1 C.1.2.2.2.2 gX1_readOperand_X4_width rfl rfl rfl (by decide +kernel) ⟨Nat.le_of_ble_eq_true rfl, Nat.le_of_ble_eq_true rfl⟩) rfl hl.1 rfl (Nat.le_of_ble_eq_true rfl) dX1_readOperand_80 ⟨Nat.zero_le _, Nat.zero_le _⟩ (fun H locs hw => ?_)
    obtain ⟨u13, h12, h⟩ := b1E h
    refine r_callVv (rest := []) C hw (c_X5_skip l D cI cZ z base a r11 u0 u13 h12) (cwV 1 C.1.2.2.2.2 gX1_readOperand_X5_skip rfl rfl rfl (by decide +kernel) ⟨Nat.le_of_ble_eq_true rfl, Nat.le_of_ble_eq_true rfl⟩) (va_recv C.2.1 hw.1 (ci := 4) (q0 := 2) rfl (XWa_2 cI cZ a u0)) rfl hl.1 rfl (Nat.le_of_ble_eq_true rfl) dX1_readOperand_83 ⟨Nat.zero_le _, Nat.zero_le _⟩ (fun H locs hw => ?_)
    refine lv_iconst (v := (-1)) hx hb dX1_readOperand_86 (by decide) ?_
    exact r_iret (f := XW cI cZ a) hQ h hw dX1_readOperand_87
  have h := itF c9 h
  by_cases c14 : x2 = 5
  · have h := itT c14 h
    refine r_tabIn (k := 5) (tgt := 56) C c14 dX1_readOperand_1 (by decide) (by decide) rfl (by decide) ?_
    refine lv_aload_n hx hb dX1_readOperand_56 rfl (lv_at hl 0 rfl) ?_
    refine lv_iconst (v := 0) hx hb dX1_readOperand_57 (by decide) ?_
    refine lv_aload_n hx hb dX1_readOperand_58 rfl (lv_at hl 1 rfl) ?_
    obtain ⟨r16, h15, h⟩ := b1E h
    refine r_callV (rest := [.int 0, .ref (a 2)]) C hw (c_X0_size l D cI cZ z base a u0 r16 h15) (cwV 0 C.1.2.2.2.2 gX1_readOperand_X0_size rfl rfl rfl (by decide +kernel) ⟨Nat.le_of_ble_eq_true rfl, Nat.le_of_ble_eq_true rfl⟩) (va_recv C.2.1 hw.1 (ci := 0) (q0 := 3) rfl (XWa_3 cI cZ a u0)) rfl hl.1 rfl (Nat.le_of_ble_eq_true rfl) dX1_readOperand_59 ⟨Nat.zero_le _, Nat.zero_le _⟩ (fun H locs hw => ?_)
    refine lv_iconst (v := 1) hx hb dX1_readOperand_62 (by decide) ?_
    refine lv_isub hx hb dX1_readOperand_63 ?_
    obtain ⟨r18, u19, h17, h⟩ := b2E h
    refine r_callV (rest := []) C hw (c_X5_number l D cI cZ z base a 0 (r16 - 1) u0 r18 u19 h17) (cwV 2 C.1.2.2.2.2 gX1_readOperand_X5_number rfl rfl rfl (by decide +kernel) ⟨Nat.le_of_ble_eq_true rfl, Nat.le_of_ble_eq_true rfl⟩) (va_recv C.2.1 hw.1 (ci := 4) (q0 := 2) rfl (XWa_2 cI cZ a u0)) rfl hl.1 rfl (Nat.le_of_ble_eq_true rfl) dX1_readOperand_64 ⟨Nat.zero_le _, Nat.zero_le _⟩ (fun H locs hw => ?_)
    exact r_iret (f := XW cI cZ a) hQ h hw dX1_readOperand_67
  have h := itF c14 h
  by_cases c20 : x2 = 6
  · have h := itT c20 h
    refine r_tabIn (k := 6) (tgt := 78) C c20 dX1_readOperand_1 (by decide) (by decide) rfl (by decide) ?_
    refine lv_aload_n hx hb dX1_readOperand_78 rfl (lv_at hl 0 rfl) ?_
    refine lv_iload_n hx hb dX1_readOperand_79 rfl (lv_at hl 2 rfl) ?_
    obtain ⟨r22, h21, h⟩ := b1E h
    refine r_callS (rest := [.ref (a 2)]) C hw (c_X4_width l D cI cZ z base a x2 u0 r22 h21) (va_cwS 1 C.1.2.2.2.2 gX1_readOperand_X4_width rfl rfl rfl (by decide +kernel) ⟨Nat.le_of_ble_eq_true rfl, Nat.le_of_ble_eq_true rfl⟩) rfl hl.1 rfl (Nat.le_of_ble_eq_true rfl) dX1_readOperand_80 ⟨Nat.zero_le _, Nat.zero_le _⟩ (fun H locs hw => ?_)
    obtain ⟨u24, h23, h⟩ := b1E h
    refine r_callVv (rest := []) C hw (c_X5_skip l D cI cZ z base a r22 u0 u24 h23) (cwV 1 C.1.2.2.2.2 gX1_readOperand_X5_skip rfl rfl rfl (by decide +kernel) ⟨Nat.le_of_ble_eq_true rfl, Nat.le_of_ble_eq_true rfl⟩) (va_recv C.2.1 hw.1 (ci := 4) (q0 := 2) rfl (XWa_2 cI cZ a u0)) rfl hl.1 rfl (Nat.le_of_ble_eq_true rfl) dX1_readOperand_83 ⟨Nat.zero_le _, Nat.zero_le _⟩ (fun H locs hw => ?_)
    refine lv_iconst (v := (-1)) hx hb dX1_readOperand_86 (by decide) ?_
    exact r_iret (f := XW cI cZ a) hQ h hw dX1_readOperand_87
  have h := itF c20 h
  by_cases c25 : x2 = 7
  · have h := itT c25 h
    refine r_tabIn (k := 7) (tgt := 68) C c25 dX1_readOperand_1 (by decide) (by decide) rfl (by decide) ?_
    refine lv_aload_n hx hb dX1_readOperand_68 rfl (lv_at hl 0 rfl) ?_
    refine lv_iconst (v := 0) hx hb dX1_readOperand_69 (by decide) ?_
    refine lv_aload_n hx hb dX1_readOperand_70 rfl (lv_at hl 1 rfl) ?_
    obtain ⟨r27, h26, h⟩ := b1E h
    refine r_callV (rest := [.int 0, .ref (a 2)]) C hw (c_X0_size l D cI cZ z base a u0 r27 h26) (cwV 0 C.1.2.2.2.2 gX1_readOperand_X0_size rfl rfl rfl (by decide +kernel) ⟨Nat.le_of_ble_eq_true rfl, Nat.le_of_ble_eq_true rfl⟩) (va_recv C.2.1 hw.1 (ci := 0) (q0 := 3) rfl (XWa_3 cI cZ a u0)) rfl hl.1 rfl (Nat.le_of_ble_eq_true rfl) dX1_readOperand_71 ⟨Nat.zero_le _, Nat.zero_le _⟩ (fun H locs hw => ?_)
    obtain ⟨r29, u30, h28, h⟩ := b2E h
    refine r_callV (rest := []) C hw (c_X5_number l D cI cZ z base a 0 r27 u0 r29 u30 h28) (cwV 2 C.1.2.2.2.2 gX1_readOperand_X5_number rfl rfl rfl (by decide +kernel) ⟨Nat.le_of_ble_eq_true rfl, Nat.le_of_ble_eq_true rfl⟩) (va_recv C.2.1 hw.1 (ci := 4) (q0 := 2) rfl (XWa_2 cI cZ a u0)) rfl hl.1 rfl (Nat.le_of_ble_eq_true rfl) dX1_readOperand_74 ⟨Nat.zero_le _, Nat.zero_le _⟩ (fun H locs hw => ?_)
    exact r_iret (f := XW cI cZ a) hQ h hw dX1_readOperand_77
  have h := itF c25 h
  refine lv_tableOut (tgt := 78) hx hb dX1_readOperand_1 (by have := lv_neT (a := 2) c1 rfl; have := lv_neT (a := 3) c5 rfl; have := lv_neT (a := 4) c9 rfl; have := lv_neT (a := 5) c14 rfl; have := lv_neT (a := 6) c20 rfl; have := lv_neT (a := 7) c25 rfl; omega) (by decide) ?_
  refine lv_aload_n hx hb dX1_readOperand_78 rfl (lv_at hl 0 rfl) ?_
  refine lv_iload_n hx hb dX1_readOperand_79 rfl (lv_at hl 2 rfl) ?_
  obtain ⟨r32, h31, h⟩ := b1E h
  refine r_callS (rest := [.ref (a 2)]) C hw (c_X4_width l D cI cZ z base a x2 u0 r32 h31) (va_cwS 1 C.1.2.2.2.2 gX1_readOperand_X4_width rfl rfl rfl (by decide +kernel) ⟨Nat.le_of_ble_eq_true rfl, Nat.le_of_ble_eq_true rfl⟩) rfl hl.1 rfl (Nat.le_of_ble_eq_true rfl) dX1_readOperand_80 ⟨Nat.zero_le _, Nat.zero_le _⟩ (fun H locs hw => ?_)
  obtain ⟨u34, h33, h⟩ := b1E h
  refine r_callVv (rest := []) C hw (c_X5_skip l D cI cZ z base a r32 u0 u34 h33) (cwV 1 C.1.2.2.2.2 gX1_readOperand_X5_skip rfl rfl rfl (by decide +kernel) ⟨Nat.le_of_ble_eq_true rfl, Nat.le_of_ble_eq_true rfl⟩) (va_recv C.2.1 hw.1 (ci := 4) (q0 := 2) rfl (XWa_2 cI cZ a u0)) rfl hl.1 rfl (Nat.le_of_ble_eq_true rfl) dX1_readOperand_83 ⟨Nat.zero_le _, Nat.zero_le _⟩ (fun H locs hw => ?_)
  refine lv_iconst (v := (-1)) hx hb dX1_readOperand_86 (by decide) ?_
  exact r_iret (f := XW cI cZ a) hQ h hw dX1_readOperand_87
abbrev rmX1_readSlot : Room := { frames := 2, cells := 0, slots := 0, locals := 45 }
set_option maxHeartbeats 4000000 in
set_option maxRecDepth 100000 in
theorem c_X1_readSlot (l : Launch) (D : va_G) (cI cZ : ClassId) (z : Nat → Nat) (base : Nat) (a : Nat → Nat) (x2 : Int32) (u0 : St) (uo : St) (h : F_X1_readSlot x2 u0 = some uo) : MV l D [(cI, .int), (cZ, .boolean)] z base yX1_readSlot wsX1_readSlot rmX1_readSlot [.ref (a 2), .ref (a 3), .int x2] (XW cI cZ a u0) (XW cI cZ a uo) := by
  refine MV.of (own := RX1) (cc := cX1_readSlot) (maxL := 4) (by decide) rfl rfl (Nat.le_of_ble_eq_true rfl) ?_
  intro p e s m args below meth c A Q ls C hl hw hQ
  have hx := C.1.1
  have hb := C.1.2.1
  have hl : lv_has ls 4 [(0, .ref (a 2)), (1, .ref (a 3)), (2, .int x2)] := hl
  rw [F_X1_readSlot] at h
  refine lv_aload_n hx hb dX1_readSlot_0 rfl (lv_at hl 0 rfl) ?_
  obtain ⟨r2, h1, h⟩ := b1E h
  refine r_callV (rest := []) C hw (c_X5_next l D cI cZ z base a u0 r2 h1) (cwV 0 C.1.2.2.2.2 gX1_readSlot_X5_next rfl rfl rfl (by decide +kernel) ⟨Nat.le_of_ble_eq_true rfl, Nat.le_of_ble_eq_true rfl⟩) (va_recv C.2.1 hw.1 (ci := 4) (q0 := 2) rfl (XWa_2 cI cZ a u0)) rfl hl.1 rfl (Nat.le_of_ble_eq_true rfl) dX1_readSlot_1 ⟨Nat.zero_le _, Nat.zero_le _⟩ (fun H locs hw => ?_)
  refine lv_istore_n (lv' := [(3, .int r2), (0, .ref (a 2)), (1, .ref (a 3)), (2, .int x2)]) hx hb dX1_readSlot_4 rfl hl (by decide) rfl (fun ls hl => ?_)
  refine lv_aload_n hx hb dX1_readSlot_5 rfl (lv_at hl 2 rfl) ?_
  refine lv_iload_n hx hb dX1_readSlot_6 rfl (lv_at hl 3 rfl) ?_
  refine lv_iload_n hx hb dX1_readSlot_7 rfl (lv_at hl 0 rfl) ?_
  obtain ⟨r4, h3, h⟩ := b1E h
  refine r_callV (rest := []) C hw (c_X0_slotMethod l D cI cZ z base a x2 r2 u0 r4 h3) (cwV 2 C.1.2.2.2.2 gX1_readSlot_X0_slotMethod rfl rfl rfl (by decide +kernel) ⟨Nat.le_of_ble_eq_true rfl, Nat.le_of_ble_eq_true rfl⟩) (va_recv C.2.1 hw.1 (ci := 0) (q0 := 3) rfl (XWa_3 cI cZ a u0)) rfl hl.1 rfl (Nat.le_of_ble_eq_true rfl) dX1_readSlot_8 ⟨Nat.zero_le _, Nat.zero_le _⟩ (fun H locs hw => ?_)
  refine lv_iconst (v := (-1)) hx hb dX1_readSlot_11 (by decide) ?_
  refine lv_icmp_ne (tgt := 24) hx hb dX1_readSlot_12 (by decide) (fun c5 => ?_) (fun c5 => ?_)
  · have h := itF c5 h
    refine lv_aload_n hx hb dX1_readSlot_24 rfl (lv_at hl 1 rfl) ?_
    refine lv_iload_n hx hb dX1_readSlot_25 rfl (lv_at hl 0 rfl) ?_
    refine lv_iload_n hx hb dX1_readSlot_26 rfl (lv_at hl 0 rfl) ?_
    obtain ⟨r7, u8, h6, h⟩ := b2E h
    refine r_callV (rest := []) C hw (c_X5_number l D cI cZ z base a r2 r2 u0 r7 u8 h6) (cwV 2 C.1.2.2.2.2 gX1_readSlot_X5_number rfl rfl rfl (by decide +kernel) ⟨Nat.le_of_ble_eq_true rfl, Nat.le_of_ble_eq_true rfl⟩) (va_recv C.2.1 hw.1 (ci := 4) (q0 := 2) rfl (XWa_2 cI cZ a u0)) rfl hl.1 rfl (Nat.le_of_ble_eq_true rfl) dX1_readSlot_27 ⟨Nat.zero_le _, Nat.zero_le _⟩ (fun H locs hw => ?_)
    refine lv_pop hx hb dX1_readSlot_30 rfl ?_
    exact r_vret (f := XW cI cZ a) hQ h hw dX1_readSlot_31
  · have h := itT c5 h
    refine lv_aload_n hx hb dX1_readSlot_15 rfl (lv_at hl 1 rfl) ?_
    refine lv_aload_n hx hb dX1_readSlot_16 rfl (lv_at hl 1 rfl) ?_
    obtain ⟨r10, h9, h⟩ := b1E h
    refine r_callV (rest := [.ref (a 2)]) C hw (c_X5_place l D cI cZ z base a u0 r10 h9) (cwV 0 C.1.2.2.2.2 gX1_readSlot_X5_place rfl rfl rfl (by decide +kernel) ⟨Nat.le_of_ble_eq_true rfl, Nat.le_of_ble_eq_true rfl⟩) (va_recv C.2.1 hw.1 (ci := 4) (q0 := 2) rfl (XWa_2 cI cZ a u0)) rfl hl.1 rfl (Nat.le_of_ble_eq_true rfl) dX1_readSlot_17 ⟨Nat.zero_le _, Nat.zero_le _⟩ (fun H locs hw => ?_)
    obtain ⟨u12, h11, h⟩ := b1E h
    refine r_callVv (rest := []) C hw (c_X5_stopAt l D cI cZ z base a r10 u0 u12 h11) (cwV 1 C.1.2.2.2.2 gX1_readSlot_X5_stopAt rfl rfl rfl (by decide +kernel) ⟨Nat.le_of_ble_eq_true rfl, Nat.le_of_ble_eq_true rfl⟩) (va_recv C.2.1 hw.1 (ci := 4) (q0 := 2) rfl (XWa_2 cI cZ a u0)) rfl hl.1 rfl (Nat.le_of_ble_eq_true rfl) dX1_readSlot_20 ⟨Nat.zero_le _, Nat.zero_le _⟩ (fun H locs hw => ?_)
    exact r_vret (f := XW cI cZ a) hQ h hw dX1_readSlot_23
