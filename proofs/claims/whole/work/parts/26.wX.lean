abbrev rmX5_valueAt : Room := { frames := 1, cells := 0, slots := 0, locals := 22 }
set_option maxHeartbeats 4000000 in
set_option maxRecDepth 100000 in
theorem c_X5_valueAt (l : Launch) (D : va_G) (cI cZ : ClassId) (z : Nat → Nat) (base : Nat) (a : Nat → Nat) (x1 : Int32) (x2 : Int32) (u0 : St) (ro : Int32) (h : F_X5_valueAt x1 x2 u0 = some ro) : MI l D [(cI, .int), (cZ, .boolean)] z base yX5_valueAt wsX5_valueAt rmX5_valueAt [.ref (a 2), .int x1, .int x2] (XW cI cZ a u0) ro (XW cI cZ a u0) := by
  refine MI.ofI (own := RX5) (cc := cX5_valueAt) (maxL := 5) (by decide) rfl rfl (Nat.le_of_ble_eq_true rfl) ?_
  intro p e s m args below meth c A Q ls C hl hw hQ
  have hx := C.1.1
  have hb := C.1.2.1
  have J5 : ∀ n5 : Nat, ∀ (x1 x2 x3 x4 : Int32) (H : Heap) (locs : List Loc) (ls : Array Slot), F_X5_valueAt_5 n5 x1 x2 x3 x4 u0 = some ro → Wd D A s.heap H locs (XW cI cZ a u0) → lv_has ls 5 [(0, .ref (a 2)), (1, .int x1), (2, .int x2), (3, .int x3), (4, .int x4)] → W p l e rmX5_valueAt s m args below meth c H locs 0 0 Q (F0 m 5 ls []) := by
    intro n5
    induction n5 with
    | zero => intro x1 x2 x3 x4 H locs ls h; rw [F_X5_valueAt_5] at h; cases h
    | succ n5 ih5 =>
      intro x1 x2 x3 x4 H locs ls h hw hl
      rw [F_X5_valueAt_5] at h
      refine lv_iload hx hb dX5_valueAt_5 (lv_at hl 4 rfl) ?_
      refine lv_iload_n hx hb dX5_valueAt_7 rfl (lv_at hl 2 rfl) ?_
      refine lv_icmp_ge (tgt := 31) hx hb dX5_valueAt_8 (by decide) (fun c1 => ?_) (fun c1 => ?_)
      · have h := itT c1 h
        refine lv_iload_n hx hb dX5_valueAt_31 rfl (lv_at hl 3 rfl) ?_
        exact r_iretP hQ h hw dX5_valueAt_32
      · have h := itF c1 h
        refine lv_iload_n hx hb dX5_valueAt_11 rfl (lv_at hl 3 rfl) ?_
        refine lv_bipush (v := 8) hx hb dX5_valueAt_12 (by decide) ?_
        refine lv_ishl hx hb dX5_valueAt_14 ?_
        refine lv_aload_n hx hb dX5_valueAt_15 rfl (lv_at hl 0 rfl) ?_
        refine lv_iload_n hx hb dX5_valueAt_16 rfl (lv_at hl 1 rfl) ?_
        refine lv_iload hx hb dX5_valueAt_17 (lv_at hl 4 rfl) ?_
        refine lv_iadd hx hb dX5_valueAt_19 ?_
        obtain ⟨r3, h2, h⟩ := b1E h
        refine r_callV (rest := [.int (x3 <<< (8 &&& 31))]) C hw (c_X5_byteAt l D cI cZ z base a (x1 + x4) u0 r3 h2) (cwV 1 C.1.2.2.2.2 gX5_valueAt_X5_byteAt rfl rfl rfl (by decide +kernel) ⟨Nat.le_of_ble_eq_true rfl, Nat.le_of_ble_eq_true rfl⟩) (va_recv C.2.1 hw.1 (ci := 4) (q0 := 2) rfl (XWa_2 cI cZ a u0)) rfl hl.1 rfl (Nat.le_of_ble_eq_true rfl) dX5_valueAt_20 ⟨Nat.zero_le _, Nat.zero_le _⟩ (fun H locs hw => ?_)
        refine lv_ior hx hb dX5_valueAt_23 ?_
        refine lv_topi (fun v4 ev4 => ?_)
        have h := nmE ev4 h
        refine lv_istore_n (lv' := [(3, .int v4), (0, .ref (a 2)), (1, .int x1), (2, .int x2), (4, .int x4)]) hx hb dX5_valueAt_24 rfl hl (by decide) rfl (fun ls hl => ?_)
        obtain ⟨v5, ev5⟩ : ∃ y : Int32, y = x4 + 1 := ⟨_, rfl⟩
        have h := nmE ev5 h
        refine lv_iinc (v := v5) (lv' := [(4, .int v5), (3, .int v4), (0, .ref (a 2)), (1, .int x1), (2, .int x2)]) hx hb dX5_valueAt_25 hl (k := 4) rfl (by rw [ev5]; rfl) (by decide) rfl (fun ls hl => ?_)
        refine lv_goto (tgt := 5) hx hb dX5_valueAt_28 (by decide) ?_
        exact ih5 x1 x2 v4 v5 _ _ _ h hw (lv_sub hl [2, 3, 4, 1, 0] rfl)
  have hl : lv_has ls 5 [(0, .ref (a 2)), (1, .int x1), (2, .int x2)] := hl
  rw [F_X5_valueAt] at h
  refine lv_iconst (v := 0) hx hb dX5_valueAt_0 (by decide) ?_
  refine lv_istore_n (lv' := [(3, .int 0), (0, .ref (a 2)), (1, .int x1), (2, .int x2)]) hx hb dX5_valueAt_1 rfl hl (by decide) rfl (fun ls hl => ?_)
  refine lv_iconst (v := 0) hx hb dX5_valueAt_2 (by decide) ?_
  refine lv_istore (lv' := [(4, .int 0), (3, .int 0), (0, .ref (a 2)), (1, .int x1), (2, .int x2)]) hx hb dX5_valueAt_3 hl (by decide) rfl (fun ls hl => ?_)
  exact J5 fu x1 x2 0 0 _ _ _ h hw (lv_sub hl [2, 3, 4, 1, 0] rfl)
abbrev rmX1_length : Room := { frames := 0, cells := 0, slots := 0, locals := 0 }
theorem hiX1_length_X1 : ∀ w ∈ wsX10, w ∈ wsX1_length := by decide +kernel
set_option maxHeartbeats 4000000 in
set_option maxRecDepth 100000 in
theorem c_X1_length (l : Launch) (D : va_G) (cI cZ : ClassId) (z : Nat → Nat) (base : Nat) (a : Nat → Nat) (x1 : Int32) (u0 : St) (ro : Int32) (h : F_X1_length x1 u0 = some ro) : MI l D [(cI, .int), (cZ, .boolean)] z base yX1_length wsX1_length rmX1_length [.ref (a 5), .int x1] (XW cI cZ a u0) ro (XW cI cZ a u0) := by
  refine MI.ofI (own := RX1) (cc := cX1_length) (maxL := 2) (by decide) rfl rfl (Nat.le_of_ble_eq_true rfl) ?_
  intro p e s m args below meth c A Q ls C hl hw hQ
  have hx := C.1.1
  have hb := C.1.2.1
  have hl : lv_has ls 2 [(0, .ref (a 5)), (1, .int x1)] := hl
  rw [F_X1_length] at h
  refine lv_iload_n hx hb dX1_length_0 rfl (lv_at hl 1 rfl) ?_
  refine lv_if_lt (tgt := 19) hx hb dX1_length_1 (by decide) (fun c1 => ?_) (fun c1 => ?_)
  · have h := itT c1 h
    refine lv_iconst (v := 0) hx hb dX1_length_19 (by decide) ?_
    exact r_iretP hQ h hw dX1_length_20
  · have h := itF c1 h
    refine lv_iload_n hx hb dX1_length_4 rfl (lv_at hl 1 rfl) ?_
    refine lv_bipush (v := 64) hx hb dX1_length_5 (by decide) ?_
    refine lv_icmp_ge (tgt := 19) hx hb dX1_length_7 (by decide) (fun c2 => ?_) (fun c2 => ?_)
    · have h := itT c2 h
      refine lv_iconst (v := 0) hx hb dX1_length_19 (by decide) ?_
      exact r_iretP hQ h hw dX1_length_20
    · have h := itF c2 h
      refine lv_aload_n hx hb dX1_length_10 rfl (lv_at hl 0 rfl) ?_
      refine r_get C hw hiX1_length_X1 5 (XWa_5 cI cZ a u0) rfl 2 (by decide) (by decide +kernel) rfl dX1_length_11 ?_
      refine lv_iload_n hx hb dX1_length_14 rfl (lv_at hl 1 rfl) ?_
      obtain ⟨g3, h⟩ := ixE h
      refine r_ald C hw 22 0 (XWa_22 cI cZ a u0) rfl g3 dX1_length_15 ?_
      refine lv_goto (tgt := 20) hx hb dX1_length_16 (by decide) ?_
      exact r_iretP hQ h hw dX1_length_20
abbrev rmX1_beginsAt : Room := { frames := 1, cells := 0, slots := 0, locals := 21 }
theorem hiX1_beginsAt_X1 : ∀ w ∈ wsX10, w ∈ wsX1_beginsAt := by decide +kernel
set_option maxHeartbeats 4000000 in
set_option maxRecDepth 100000 in
theorem c_X1_beginsAt (l : Launch) (D : va_G) (cI cZ : ClassId) (z : Nat → Nat) (base : Nat) (a : Nat → Nat) (x1 : Int32) (x2 : Int32) (u0 : St) (ro : Int32) (h : F_X1_beginsAt x1 x2 u0 = some ro) : MI l D [(cI, .int), (cZ, .boolean)] z base yX1_beginsAt wsX1_beginsAt rmX1_beginsAt [.ref (a 5), .int x1, .int x2] (XW cI cZ a u0) ro (XW cI cZ a u0) := by
  refine MI.ofZ (own := RX1) (cc := cX1_beginsAt) (maxL := 5) (by decide) rfl rfl (Nat.le_of_ble_eq_true rfl) ?_
  intro p e s m args below meth c A Q ls C hl hw hQ
  have hx := C.1.1
  have hb := C.1.2.1
  have hl : lv_has ls 5 [(0, .ref (a 5)), (1, .int x1), (2, .int x2)] := hl
  rw [F_X1_beginsAt] at h
  refine lv_iload_n hx hb dX1_beginsAt_0 rfl (lv_at hl 2 rfl) ?_
  refine lv_if_lt (tgt := 13) hx hb dX1_beginsAt_1 (by decide) (fun c1 => ?_) (fun c1 => ?_)
  · have h := itT c1 h
    refine lv_iconst (v := 0) hx hb dX1_beginsAt_13 (by decide) ?_
    exact r_zretP hQ (by decide) h hw dX1_beginsAt_14
  · have h := itF c1 h
    refine lv_iload_n hx hb dX1_beginsAt_4 rfl (lv_at hl 2 rfl) ?_
    refine lv_aload_n hx hb dX1_beginsAt_5 rfl (lv_at hl 0 rfl) ?_
    refine lv_iload_n hx hb dX1_beginsAt_6 rfl (lv_at hl 1 rfl) ?_
    obtain ⟨r3, h2, h⟩ := b1E h
    refine r_callV (rest := [.int x2]) C hw (c_X1_length l D cI cZ z base a x1 u0 r3 h2) (cwV 1 C.1.2.2.2.2 gX1_beginsAt_X1_length rfl rfl rfl (by decide +kernel) ⟨Nat.le_of_ble_eq_true rfl, Nat.le_of_ble_eq_true rfl⟩) (va_recv C.2.1 hw.1 (ci := 1) (q0 := 5) rfl (XWa_5 cI cZ a u0)) rfl hl.1 rfl (Nat.le_of_ble_eq_true rfl) dX1_beginsAt_7 ⟨Nat.zero_le _, Nat.zero_le _⟩ (fun H locs hw => ?_)
    refine lv_icmp_lt (tgt := 15) hx hb dX1_beginsAt_10 (by decide) (fun c4 => ?_) (fun c4 => ?_)
    · have h := itT c4 h
      refine lv_aload_n hx hb dX1_beginsAt_15 rfl (lv_at hl 0 rfl) ?_
      refine r_get C hw hiX1_beginsAt_X1 5 (XWa_5 cI cZ a u0) rfl 1 (by decide) (by decide +kernel) rfl dX1_beginsAt_16 ?_
      refine lv_iload_n hx hb dX1_beginsAt_19 rfl (lv_at hl 1 rfl) ?_
      obtain ⟨g5, h⟩ := ixE h
      refine r_ald C hw 21 0 (XWa_21 cI cZ a u0) rfl g5 dX1_beginsAt_20 ?_
      refine lv_iload_n hx hb dX1_beginsAt_21 rfl (lv_at hl 2 rfl) ?_
      refine lv_iadd hx hb dX1_beginsAt_22 ?_
      refine lv_topi (fun v6 ev6 => ?_)
      have h := nmE ev6 h
      refine lv_istore_n (lv' := [(3, .int v6), (0, .ref (a 5)), (1, .int x1), (2, .int x2)]) hx hb dX1_beginsAt_23 rfl hl (by decide) rfl (fun ls hl => ?_)
      refine lv_iload_n hx hb dX1_beginsAt_24 rfl (lv_at hl 0 rfl) ?_
      refine lv_iconst (v := 5) hx hb dX1_beginsAt_25 (by decide) ?_
      refine lv_ishr hx hb dX1_beginsAt_26 ?_
      refine lv_topi (fun v7 ev7 => ?_)
      have h := nmE ev7 h
      refine lv_istore (lv' := [(4, .int v7), (3, .int v6), (0, .ref (a 5)), (1, .int x1), (2, .int x2)]) hx hb dX1_beginsAt_27 hl (by decide) rfl (fun ls hl => ?_)
      refine lv_iload hx hb dX1_beginsAt_29 (lv_at hl 0 rfl) ?_
      refine lv_if_lt (tgt := 66) hx hb dX1_beginsAt_31 (by decide) (fun c8 => ?_) (fun c8 => ?_)
      · have h := itT c8 h
        refine lv_iconst (v := 0) hx hb dX1_beginsAt_66 (by decide) ?_
        exact r_zretP hQ (by decide) h hw dX1_beginsAt_67
      · have h := itF c8 h
        refine lv_iload hx hb dX1_beginsAt_34 (lv_at hl 0 rfl) ?_
        refine lv_aload_n hx hb dX1_beginsAt_36 rfl (lv_at hl 2 rfl) ?_
        refine r_get C hw hiX1_beginsAt_X1 5 (XWa_5 cI cZ a u0) rfl 4 (by decide) (by decide +kernel) rfl dX1_beginsAt_37 ?_
        refine r_alen (v := 250) C hw 24 0 (XWa_24 cI cZ a u0) rfl rfl dX1_beginsAt_40 ?_
        refine lv_icmp_ge (tgt := 66) hx hb dX1_beginsAt_41 (by decide) (fun c9 => ?_) (fun c9 => ?_)
        · have h := itT c9 h
          refine lv_iconst (v := 0) hx hb dX1_beginsAt_66 (by decide) ?_
          exact r_zretP hQ (by decide) h hw dX1_beginsAt_67
        · have h := itF c9 h
          refine lv_aload_n hx hb dX1_beginsAt_44 rfl (lv_at hl 2 rfl) ?_
          refine r_get C hw hiX1_beginsAt_X1 5 (XWa_5 cI cZ a u0) rfl 4 (by decide) (by decide +kernel) rfl dX1_beginsAt_45 ?_
          refine lv_iload hx hb dX1_beginsAt_48 (lv_at hl 0 rfl) ?_
          obtain ⟨g10, h⟩ := ixE h
          refine r_ald C hw 24 0 (XWa_24 cI cZ a u0) rfl g10 dX1_beginsAt_50 ?_
          refine lv_iload_n hx hb dX1_beginsAt_51 rfl (lv_at hl 1 rfl) ?_
          refine lv_bipush (v := 31) hx hb dX1_beginsAt_52 (by decide) ?_
          refine lv_iand hx hb dX1_beginsAt_54 ?_
          refine lv_iushr (v := ushr (u0 24 (v7).toNatClampNeg) (v6 &&& 31)) hx hb dX1_beginsAt_55 rfl ?_
          refine lv_iconst (v := 1) hx hb dX1_beginsAt_56 (by decide) ?_
          refine lv_iand hx hb dX1_beginsAt_57 ?_
          refine lv_iconst (v := 1) hx hb dX1_beginsAt_58 (by decide) ?_
          refine lv_icmp_ne (tgt := 66) hx hb dX1_beginsAt_59 (by decide) (fun c11 => ?_) (fun c11 => ?_)
          · have h := itF c11 h
            refine lv_iconst (v := 0) hx hb dX1_beginsAt_66 (by decide) ?_
            exact r_zretP hQ (by decide) h hw dX1_beginsAt_67
          · have h := itT c11 h
            refine lv_iconst (v := 1) hx hb dX1_beginsAt_62 (by decide) ?_
            refine lv_goto (tgt := 67) hx hb dX1_beginsAt_63 (by decide) ?_
            exact r_zretP hQ (by decide) h hw dX1_beginsAt_67
    · have h := itF c4 h
      refine lv_iconst (v := 0) hx hb dX1_beginsAt_13 (by decide) ?_
      exact r_zretP hQ (by decide) h hw dX1_beginsAt_14
abbrev rmX1_misfit : Room := { frames := 2, cells := 0, slots := 0, locals := 46 }
theorem hiX1_misfit_X1 : ∀ w ∈ wsX10, w ∈ wsX1_misfit := by decide +kernel
set_option maxHeartbeats 4000000 in
set_option maxRecDepth 100000 in
theorem c_X1_misfit (l : Launch) (D : va_G) (cI cZ : ClassId) (z : Nat → Nat) (base : Nat) (a : Nat → Nat) (x2 : Int32) (x3 : Int32) (u0 : St) (ro : Int32) (h : F_X1_misfit x2 x3 u0 = some ro) : MI l D [(cI, .int), (cZ, .boolean)] z base yX1_misfit wsX1_misfit rmX1_misfit [.ref (a 5), .ref (a 2), .int x2, .int x3] (XW cI cZ a u0) ro (XW cI cZ a u0) := by
  refine MI.ofI (own := RX1) (cc := cX1_misfit) (maxL := 10) (by decide) rfl rfl (Nat.le_of_ble_eq_true rfl) ?_
  intro p e s m args below meth c A Q ls C hl hw hQ
  have hx := C.1.1
  have hb := C.1.2.1
  have J27 : ∀ n27 : Nat, ∀ (x2 x3 x4 x5 x6 : Int32) (H : Heap) (locs : List Loc) (ls : Array Slot), F_X1_misfit_27 n27 x2 x3 x4 x5 x6 u0 = some ro → Wd D A s.heap H locs (XW cI cZ a u0) → lv_has ls 10 [(0, .ref (a 5)), (1, .ref (a 2)), (2, .int x2), (3, .int x3), (4, .int x4), (5, .int x5), (6, .int x6)] → W p l e rmX1_misfit s m args below meth c H locs 0 0 Q (F0 m 27 ls []) := by
    intro n27
    induction n27 with
    | zero => intro x2 x3 x4 x5 x6 H locs ls h; rw [F_X1_misfit_27] at h; cases h
    | succ n27 ih27 =>
      have J140 : ∀ (x2 x3 x4 x5 x6 x7 : Int32) (H : Heap) (locs : List Loc) (ls : Array Slot), F_X1_misfit_140 (F_X1_misfit_27 n27) x2 x3 x4 x5 x6 x7 u0 = some ro → Wd D A s.heap H locs (XW cI cZ a u0) → lv_has ls 10 [(0, .ref (a 5)), (1, .ref (a 2)), (2, .int x2), (3, .int x3), (4, .int x4), (5, .int x5), (6, .int x6), (7, .int x7)] → W p l e rmX1_misfit s m args below meth c H locs 0 0 Q (F0 m 140 ls []) := by
        intro x2 x3 x4 x5 x6 x7 H locs ls h hw hl
        rw [F_X1_misfit_140] at h
        refine lv_iload hx hb dX1_misfit_140 (lv_at hl 5 rfl) ?_
        refine lv_iload hx hb dX1_misfit_142 (lv_at hl 7 rfl) ?_
        obtain ⟨r2, h1, h⟩ := b1E h
        refine r_callS (rest := [.int x5]) C hw (c_X4_length l D cI cZ z base a x7 u0 r2 h1) (va_cwS 1 C.1.2.2.2.2 gX1_misfit_X4_length rfl rfl rfl (by decide +kernel) ⟨Nat.le_of_ble_eq_true rfl, Nat.le_of_ble_eq_true rfl⟩) rfl hl.1 rfl (Nat.le_of_ble_eq_true rfl) dX1_misfit_144 ⟨Nat.zero_le _, Nat.zero_le _⟩ (fun H locs hw => ?_)
        refine lv_iadd hx hb dX1_misfit_147 ?_
        refine lv_topi (fun v3 ev3 => ?_)
        have h := nmE ev3 h
        refine lv_istore (lv' := [(5, .int v3), (0, .ref (a 5)), (1, .ref (a 2)), (2, .int x2), (3, .int x3), (4, .int x4), (6, .int x6), (7, .int x7)]) hx hb dX1_misfit_148 hl (by decide) rfl (fun ls hl => ?_)
        obtain ⟨v4, ev4⟩ : ∃ y : Int32, y = x6 + 1 := ⟨_, rfl⟩
        have h := nmE ev4 h
        refine lv_iinc (v := v4) (lv' := [(6, .int v4), (5, .int v3), (0, .ref (a 5)), (1, .ref (a 2)), (2, .int x2), (3, .int x3), (4, .int x4), (7, .int x7)]) hx hb dX1_misfit_150 hl (k := 6) rfl (by rw [ev4]; rfl) (by decide) rfl (fun ls hl => ?_)
        refine lv_goto (tgt := 27) hx hb dX1_misfit_153 (by decide) ?_
        exact ih27 x2 x3 x4 v3 v4 _ _ _ h hw (lv_sub hl [2, 3, 4, 5, 6, 1, 0] rfl)
      have J113 : ∀ (x2 x3 x4 x5 x6 x7 x9 : Int32) (H : Heap) (locs : List Loc) (ls : Array Slot), F_X1_misfit_113 (F_X1_misfit_27 n27) x2 x3 x4 x5 x6 x7 x9 u0 = some ro → Wd D A s.heap H locs (XW cI cZ a u0) → lv_has ls 10 [(0, .ref (a 5)), (1, .ref (a 2)), (2, .int x2), (3, .int x3), (4, .int x4), (5, .int x5), (6, .int x6), (7, .int x7), (9, .int x9)] → W p l e rmX1_misfit s m args below meth c H locs 0 0 Q (F0 m 113 ls []) := by
        intro x2 x3 x4 x5 x6 x7 x9 H locs ls h hw hl
        rw [F_X1_misfit_113] at h
        refine lv_iload hx hb dX1_misfit_113 (lv_at hl 7 rfl) ?_
        obtain ⟨r2, h1, h⟩ := b1E h
        refine r_callS (rest := []) C hw (c_X4_second l D cI cZ z base a x7 u0 r2 h1) (va_cwS 1 C.1.2.2.2.2 gX1_misfit_X4_second rfl rfl rfl (by decide +kernel) ⟨Nat.le_of_ble_eq_true rfl, Nat.le_of_ble_eq_true rfl⟩) rfl hl.1 rfl (Nat.le_of_ble_eq_true rfl) dX1_misfit_115 ⟨Nat.zero_le _, Nat.zero_le _⟩ (fun H locs hw => ?_)
        refine lv_iconst (v := 4) hx hb dX1_misfit_118 (by decide) ?_
        refine lv_icmp_ne (tgt := 140) hx hb dX1_misfit_119 (by decide) (fun c3 => ?_) (fun c3 => ?_)
        · have h := itF c3 h
          exact J140 x2 x3 x4 x5 x6 x7 _ _ _ h hw (lv_sub hl [0, 1, 2, 3, 4, 5, 6, 7] rfl)
        · have h := itT c3 h
          refine lv_aload_n hx hb dX1_misfit_122 rfl (lv_at hl 0 rfl) ?_
          refine lv_iload_n hx hb dX1_misfit_123 rfl (lv_at hl 2 rfl) ?_
          refine lv_aload_n hx hb dX1_misfit_124 rfl (lv_at hl 1 rfl) ?_
          refine lv_iload hx hb dX1_misfit_125 (lv_at hl 8 rfl) ?_
          refine lv_iconst (v := 2) hx hb dX1_misfit_127 (by decide) ?_
          obtain ⟨r5, h4, h⟩ := b1E h
          refine r_callV (rest := [.int x2, .ref (a 5)]) C hw (c_X5_valueAt l D cI cZ z base a x9 2 u0 r5 h4) (cwV 2 C.1.2.2.2.2 gX1_misfit_X5_valueAt rfl rfl rfl (by decide +kernel) ⟨Nat.le_of_ble_eq_true rfl, Nat.le_of_ble_eq_true rfl⟩) (va_recv C.2.1 hw.1 (ci := 4) (q0 := 2) rfl (XWa_2 cI cZ a u0)) rfl hl.1 rfl (Nat.le_of_ble_eq_true rfl) dX1_misfit_128 ⟨Nat.zero_le _, Nat.zero_le _⟩ (fun H locs hw => ?_)
          obtain ⟨r7, h6, h⟩ := b1E h
          refine r_callV (rest := []) C hw (c_X1_beginsAt l D cI cZ z base a x2 r5 u0 r7 h6) (cwV 2 C.1.2.2.2.2 gX1_misfit_X1_beginsAt rfl rfl rfl (by decide +kernel) ⟨Nat.le_of_ble_eq_true rfl, Nat.le_of_ble_eq_true rfl⟩) (va_recv C.2.1 hw.1 (ci := 1) (q0 := 5) rfl (XWa_5 cI cZ a u0)) rfl hl.1 rfl (Nat.le_of_ble_eq_true rfl) dX1_misfit_131 ⟨Nat.zero_le _, Nat.zero_le _⟩ (fun H locs hw => ?_)
          refine lv_if_ne (tgt := 140) hx hb dX1_misfit_134 (by decide) (fun c8 => ?_) (fun c8 => ?_)
          · have h := itF c8 h
            exact J140 x2 x3 x4 x5 x6 x7 _ _ _ h hw (lv_sub hl [0, 1, 2, 3, 4, 5, 6, 7] rfl)
          · have h := itT c8 h
            refine lv_iload hx hb dX1_misfit_137 (lv_at hl 8 rfl) ?_
            exact r_iretP hQ h hw dX1_misfit_139
      have J85 : ∀ (x2 x3 x4 x5 x6 x7 x8 x9 : Int32) (H : Heap) (locs : List Loc) (ls : Array Slot), F_X1_misfit_85 (F_X1_misfit_27 n27) x2 x3 x4 x5 x6 x7 x8 x9 u0 = some ro → Wd D A s.heap H locs (XW cI cZ a u0) → lv_has ls 10 [(0, .ref (a 5)), (1, .ref (a 2)), (2, .int x2), (3, .int x3), (4, .int x4), (5, .int x5), (6, .int x6), (7, .int x7), (8, .int x8), (9, .int x9)] → W p l e rmX1_misfit s m args below meth c H locs 0 0 Q (F0 m 85 ls []) := by
        intro x2 x3 x4 x5 x6 x7 x8 x9 H locs ls h hw hl
        rw [F_X1_misfit_85] at h
        refine lv_iload hx hb dX1_misfit_85 (lv_at hl 8 rfl) ?_
        refine lv_iconst (v := 4) hx hb dX1_misfit_87 (by decide) ?_
        refine lv_icmp_ne (tgt := 113) hx hb dX1_misfit_88 (by decide) (fun c1 => ?_) (fun c1 => ?_)
        · have h := itF c1 h
          exact J113 x2 x3 x4 x5 x6 x7 x9 _ _ _ h hw (lv_sub hl [0, 1, 2, 3, 4, 5, 6, 7, 9] rfl)
        · have h := itT c1 h
          refine lv_aload_n hx hb dX1_misfit_91 rfl (lv_at hl 0 rfl) ?_
          refine lv_iload_n hx hb dX1_misfit_92 rfl (lv_at hl 2 rfl) ?_
          refine lv_aload_n hx hb dX1_misfit_93 rfl (lv_at hl 1 rfl) ?_
          refine lv_iload hx hb dX1_misfit_94 (lv_at hl 5 rfl) ?_
          refine lv_iconst (v := 1) hx hb dX1_misfit_96 (by decide) ?_
          refine lv_iadd hx hb dX1_misfit_97 ?_
          refine lv_iconst (v := 2) hx hb dX1_misfit_98 (by decide) ?_
          obtain ⟨r3, h2, h⟩ := b1E h
          refine r_callV (rest := [.int x2, .ref (a 5)]) C hw (c_X5_valueAt l D cI cZ z base a (x5 + 1) 2 u0 r3 h2) (cwV 2 C.1.2.2.2.2 gX1_misfit_X5_valueAt rfl rfl rfl (by decide +kernel) ⟨Nat.le_of_ble_eq_true rfl, Nat.le_of_ble_eq_true rfl⟩) (va_recv C.2.1 hw.1 (ci := 4) (q0 := 2) rfl (XWa_2 cI cZ a u0)) rfl hl.1 rfl (Nat.le_of_ble_eq_true rfl) dX1_misfit_99 ⟨Nat.zero_le _, Nat.zero_le _⟩ (fun H locs hw => ?_)
          obtain ⟨r5, h4, h⟩ := b1E h
          refine r_callV (rest := []) C hw (c_X1_beginsAt l D cI cZ z base a x2 r3 u0 r5 h4) (cwV 2 C.1.2.2.2.2 gX1_misfit_X1_beginsAt rfl rfl rfl (by decide +kernel) ⟨Nat.le_of_ble_eq_true rfl, Nat.le_of_ble_eq_true rfl⟩) (va_recv C.2.1 hw.1 (ci := 1) (q0 := 5) rfl (XWa_5 cI cZ a u0)) rfl hl.1 rfl (Nat.le_of_ble_eq_true rfl) dX1_misfit_102 ⟨Nat.zero_le _, Nat.zero_le _⟩ (fun H locs hw => ?_)
          refine lv_if_ne (tgt := 113) hx hb dX1_misfit_105 (by decide) (fun c6 => ?_) (fun c6 => ?_)
          · have h := itF c6 h
            exact J113 x2 x3 x4 x5 x6 x7 x9 _ _ _ h hw (lv_sub hl [0, 1, 2, 3, 4, 5, 6, 7, 9] rfl)
          · have h := itT c6 h
            refine lv_iload hx hb dX1_misfit_108 (lv_at hl 5 rfl) ?_
            refine lv_iconst (v := 1) hx hb dX1_misfit_110 (by decide) ?_
            refine lv_iadd hx hb dX1_misfit_111 ?_
            exact r_iretP hQ h hw dX1_misfit_112
      intro x2 x3 x4 x5 x6 H locs ls h hw hl
      rw [F_X1_misfit_27] at h
      refine lv_iload hx hb dX1_misfit_27 (lv_at hl 6 rfl) ?_
      refine lv_iload hx hb dX1_misfit_29 (lv_at hl 4 rfl) ?_
      refine lv_icmp_ge (tgt := 156) hx hb dX1_misfit_31 (by decide) (fun c1 => ?_) (fun c1 => ?_)
      · have h := itT c1 h
        refine lv_iconst (v := (-1)) hx hb dX1_misfit_156 (by decide) ?_
        exact r_iretP hQ h hw dX1_misfit_157
      · have h := itF c1 h
        refine lv_aload_n hx hb dX1_misfit_34 rfl (lv_at hl 1 rfl) ?_
        refine lv_iload hx hb dX1_misfit_35 (lv_at hl 5 rfl) ?_
        obtain ⟨r3, h2, h⟩ := b1E h
        refine r_callV (rest := []) C hw (c_X5_byteAt l D cI cZ z base a x5 u0 r3 h2) (cwV 1 C.1.2.2.2.2 gX1_misfit_X5_byteAt rfl rfl rfl (by decide +kernel) ⟨Nat.le_of_ble_eq_true rfl, Nat.le_of_ble_eq_true rfl⟩) (va_recv C.2.1 hw.1 (ci := 4) (q0 := 2) rfl (XWa_2 cI cZ a u0)) rfl hl.1 rfl (Nat.le_of_ble_eq_true rfl) dX1_misfit_37 ⟨Nat.zero_le _, Nat.zero_le _⟩ (fun H locs hw => ?_)
        refine lv_istore (lv' := [(7, .int r3), (0, .ref (a 5)), (1, .ref (a 2)), (2, .int x2), (3, .int x3), (4, .int x4), (5, .int x5), (6, .int x6)]) hx hb dX1_misfit_40 hl (by decide) rfl (fun ls hl => ?_)
        refine lv_iload hx hb dX1_misfit_42 (lv_at hl 0 rfl) ?_
        obtain ⟨r5, h4, h⟩ := b1E h
        refine r_callS (rest := []) C hw (c_X4_first l D cI cZ z base a r3 u0 r5 h4) (va_cwS 1 C.1.2.2.2.2 gX1_misfit_X4_first rfl rfl rfl (by decide +kernel) ⟨Nat.le_of_ble_eq_true rfl, Nat.le_of_ble_eq_true rfl⟩) rfl hl.1 rfl (Nat.le_of_ble_eq_true rfl) dX1_misfit_44 ⟨Nat.zero_le _, Nat.zero_le _⟩ (fun H locs hw => ?_)
        refine lv_istore (lv' := [(8, .int r5), (7, .int r3), (0, .ref (a 5)), (1, .ref (a 2)), (2, .int x2), (3, .int x3), (4, .int x4), (5, .int x5), (6, .int x6)]) hx hb dX1_misfit_47 hl (by decide) rfl (fun ls hl => ?_)
        refine lv_iload hx hb dX1_misfit_49 (lv_at hl 7 rfl) ?_
        refine lv_iconst (v := 1) hx hb dX1_misfit_51 (by decide) ?_
        refine lv_iadd hx hb dX1_misfit_52 ?_
        refine lv_iload hx hb dX1_misfit_53 (lv_at hl 0 rfl) ?_
        obtain ⟨r7, h6, h⟩ := b1E h
        refine r_callS (rest := [.int (x5 + 1)]) C hw (c_X4_width l D cI cZ z base a r5 u0 r7 h6) (va_cwS 1 C.1.2.2.2.2 gX1_misfit_X4_width rfl rfl rfl (by decide +kernel) ⟨Nat.le_of_ble_eq_true rfl, Nat.le_of_ble_eq_true rfl⟩) rfl hl.1 rfl (Nat.le_of_ble_eq_true rfl) dX1_misfit_55 ⟨Nat.zero_le _, Nat.zero_le _⟩ (fun H locs hw => ?_)
        refine lv_iadd hx hb dX1_misfit_58 ?_
        refine lv_topi (fun v8 ev8 => ?_)
        have h := nmE ev8 h
        refine lv_istore (lv' := [(9, .int v8), (8, .int r5), (7, .int r3), (0, .ref (a 5)), (1, .ref (a 2)), (2, .int x2), (3, .int x3), (4, .int x4), (5, .int x5), (6, .int x6)]) hx hb dX1_misfit_59 hl (by decide) rfl (fun ls hl => ?_)
        refine lv_iload hx hb dX1_misfit_61 (lv_at hl 1 rfl) ?_
        refine lv_bipush (v := 8) hx hb dX1_misfit_63 (by decide) ?_
        refine lv_icmp_ne (tgt := 85) hx hb dX1_misfit_65 (by decide) (fun c9 => ?_) (fun c9 => ?_)
        · have h := itF c9 h
          exact J85 x2 x3 x4 x5 x6 r3 r5 v8 _ _ _ h hw (lv_sub hl [3, 4, 5, 6, 7, 8, 9, 2, 1, 0] rfl)
        · have h := itT c9 h
          refine lv_aload_n hx hb dX1_misfit_68 rfl (lv_at hl 4 rfl) ?_
          refine lv_iload hx hb dX1_misfit_69 (lv_at hl 8 rfl) ?_
          refine lv_iconst (v := 1) hx hb dX1_misfit_71 (by decide) ?_
          refine lv_iadd hx hb dX1_misfit_72 ?_
          obtain ⟨r11, h10, h⟩ := b1E h
          refine r_callV (rest := []) C hw (c_X5_byteAt l D cI cZ z base a (x5 + 1) u0 r11 h10) (cwV 1 C.1.2.2.2.2 gX1_misfit_X5_byteAt rfl rfl rfl (by decide +kernel) ⟨Nat.le_of_ble_eq_true rfl, Nat.le_of_ble_eq_true rfl⟩) (va_recv C.2.1 hw.1 (ci := 4) (q0 := 2) rfl (XWa_2 cI cZ a u0)) rfl hl.1 rfl (Nat.le_of_ble_eq_true rfl) dX1_misfit_73 ⟨Nat.zero_le _, Nat.zero_le _⟩ (fun H locs hw => ?_)
          refine lv_iload_n hx hb dX1_misfit_76 rfl (lv_at hl 6 rfl) ?_
          refine lv_icmp_lt (tgt := 85) hx hb dX1_misfit_77 (by decide) (fun c12 => ?_) (fun c12 => ?_)
          · have h := itT c12 h
            exact J85 x2 x3 x4 x5 x6 r3 r5 v8 _ _ _ h hw (lv_sub hl [3, 4, 5, 6, 7, 8, 9, 2, 1, 0] rfl)
          · have h := itF c12 h
            refine lv_iload hx hb dX1_misfit_80 (lv_at hl 8 rfl) ?_
            refine lv_iconst (v := 1) hx hb dX1_misfit_82 (by decide) ?_
            refine lv_iadd hx hb dX1_misfit_83 ?_
            exact r_iretP hQ h hw dX1_misfit_84
  have J22 : ∀ (x2 x3 x4 t0 : Int32) (H : Heap) (locs : List Loc) (ls : Array Slot), F_X1_misfit_22 x2 x3 x4 t0 u0 = some ro → Wd D A s.heap H locs (XW cI cZ a u0) → lv_has ls 10 [(0, .ref (a 5)), (1, .ref (a 2)), (2, .int x2), (3, .int x3), (4, .int x4)] → W p l e rmX1_misfit s m args below meth c H locs 0 0 Q (F0 m 22 ls [.int t0]) := by
    intro x2 x3 x4 t0 H locs ls h hw hl
    rw [F_X1_misfit_22] at h
    refine lv_istore (lv' := [(5, .int t0), (0, .ref (a 5)), (1, .ref (a 2)), (2, .int x2), (3, .int x3), (4, .int x4)]) hx hb dX1_misfit_22 hl (by decide) rfl (fun ls hl => ?_)
    refine lv_iconst (v := 0) hx hb dX1_misfit_24 (by decide) ?_
    refine lv_istore (lv' := [(6, .int 0), (5, .int t0), (0, .ref (a 5)), (1, .ref (a 2)), (2, .int x2), (3, .int x3), (4, .int x4)]) hx hb dX1_misfit_25 hl (by decide) rfl (fun ls hl => ?_)
    exact J27 fu x2 x3 x4 t0 0 _ _ _ h hw (lv_sub hl [2, 3, 4, 5, 6, 1, 0] rfl)
  have hl : lv_has ls 10 [(0, .ref (a 5)), (1, .ref (a 2)), (2, .int x2), (3, .int x3)] := hl
  rw [F_X1_misfit] at h
  refine lv_aload_n hx hb dX1_misfit_0 rfl (lv_at hl 0 rfl) ?_
  refine lv_iload_n hx hb dX1_misfit_1 rfl (lv_at hl 2 rfl) ?_
  obtain ⟨r2, h1, h⟩ := b1E h
  refine r_callV (rest := []) C hw (c_X1_size l D cI cZ z base a x2 u0 r2 h1) (cwV 1 C.1.2.2.2.2 gX1_misfit_X1_size rfl rfl rfl (by decide +kernel) ⟨Nat.le_of_ble_eq_true rfl, Nat.le_of_ble_eq_true rfl⟩) (va_recv C.2.1 hw.1 (ci := 1) (q0 := 5) rfl (XWa_5 cI cZ a u0)) rfl hl.1 rfl (Nat.le_of_ble_eq_true rfl) dX1_misfit_2 ⟨Nat.zero_le _, Nat.zero_le _⟩ (fun H locs hw => ?_)
  refine lv_istore (lv' := [(4, .int r2), (0, .ref (a 5)), (1, .ref (a 2)), (2, .int x2), (3, .int x3)]) hx hb dX1_misfit_5 hl (by decide) rfl (fun ls hl => ?_)
  refine lv_iload hx hb dX1_misfit_7 (lv_at hl 0 rfl) ?_
  refine lv_if_le (tgt := 21) hx hb dX1_misfit_9 (by decide) (fun c3 => ?_) (fun c3 => ?_)
  · have h := itT c3 h
    refine lv_iconst (v := 0) hx hb dX1_misfit_21 (by decide) ?_
    exact J22 x2 x3 r2 0 _ _ _ h hw (lv_sub hl [1, 2, 3, 4, 0] rfl)
  · have h := itF c3 h
    refine lv_aload_n hx hb dX1_misfit_12 rfl (lv_at hl 1 rfl) ?_
    refine r_get C hw hiX1_misfit_X1 5 (XWa_5 cI cZ a u0) rfl 1 (by decide) (by decide +kernel) rfl dX1_misfit_13 ?_
    refine lv_iload_n hx hb dX1_misfit_16 rfl (lv_at hl 3 rfl) ?_
    obtain ⟨g4, h⟩ := ixE h
    refine r_ald C hw 21 0 (XWa_21 cI cZ a u0) rfl g4 dX1_misfit_17 ?_
    refine lv_goto (tgt := 22) hx hb dX1_misfit_18 (by decide) ?_
    exact J22 x2 x3 r2 (u0 21 (x2).toNatClampNeg) _ _ _ h hw (lv_sub hl [1, 2, 3, 4, 0] rfl)
abbrev rmX2_size : Room := { frames := 0, cells := 0, slots := 0, locals := 0 }
theorem hiX2_size_X2 : ∀ w ∈ wsX20, w ∈ wsX2_size := by decide +kernel
set_option maxHeartbeats 4000000 in
set_option maxRecDepth 100000 in
theorem c_X2_size (l : Launch) (D : va_G) (cI cZ : ClassId) (z : Nat → Nat) (base : Nat) (a : Nat → Nat) (x1 : Int32) (u0 : St) (ro : Int32) (h : F_X2_size x1 u0 = some ro) : MI l D [(cI, .int), (cZ, .boolean)] z base yX2_size wsX2_size rmX2_size [.ref (a 6), .int x1] (XW cI cZ a u0) ro (XW cI cZ a u0) := by
  refine MI.ofI (own := RX2) (cc := cX2_size) (maxL := 2) (by decide) rfl rfl (Nat.le_of_ble_eq_true rfl) ?_
  intro p e s m args below meth c A Q ls C hl hw hQ
  have hx := C.1.1
  have hb := C.1.2.1
  have hl : lv_has ls 2 [(0, .ref (a 6)), (1, .int x1)] := hl
  rw [F_X2_size] at h
  refine lv_iload_n hx hb dX2_size_0 rfl (lv_at hl 1 rfl) ?_
  refine lv_if_lt (tgt := 19) hx hb dX2_size_1 (by decide) (fun c1 => ?_) (fun c1 => ?_)
  · have h := itT c1 h
    refine lv_iconst (v := 0) hx hb dX2_size_19 (by decide) ?_
    exact r_iretP hQ h hw dX2_size_20
  · have h := itF c1 h
    refine lv_iload_n hx hb dX2_size_4 rfl (lv_at hl 1 rfl) ?_
    refine lv_bipush (v := 64) hx hb dX2_size_5 (by decide) ?_
    refine lv_icmp_ge (tgt := 19) hx hb dX2_size_7 (by decide) (fun c2 => ?_) (fun c2 => ?_)
    · have h := itT c2 h
      refine lv_iconst (v := 0) hx hb dX2_size_19 (by decide) ?_
      exact r_iretP hQ h hw dX2_size_20
    · have h := itF c2 h
      refine lv_aload_n hx hb dX2_size_10 rfl (lv_at hl 0 rfl) ?_
      refine r_get C hw hiX2_size_X2 6 (XWa_6 cI cZ a u0) rfl 1 (by decide) (by decide +kernel) rfl dX2_size_11 ?_
      refine lv_iload_n hx hb dX2_size_14 rfl (lv_at hl 1 rfl) ?_
      obtain ⟨g3, h⟩ := ixE h
      refine r_ald C hw 26 0 (XWa_26 cI cZ a u0) rfl g3 dX2_size_15 ?_
      refine lv_goto (tgt := 20) hx hb dX2_size_16 (by decide) ?_
      exact r_iretP hQ h hw dX2_size_20
abbrev rmX2_misfit : Room := { frames := 2, cells := 0, slots := 0, locals := 46 }
theorem hiX2_misfit_X2 : ∀ w ∈ wsX20, w ∈ wsX2_misfit := by decide +kernel
set_option maxHeartbeats 4000000 in
set_option maxRecDepth 100000 in
theorem c_X2_misfit (l : Launch) (D : va_G) (cI cZ : ClassId) (z : Nat → Nat) (base : Nat) (a : Nat → Nat) (x3 : Int32) (u0 : St) (ro : Int32) (h : F_X2_misfit x3 u0 = some ro) : MI l D [(cI, .int), (cZ, .boolean)] z base yX2_misfit wsX2_misfit rmX2_misfit [.ref (a 6), .ref (a 2), .ref (a 5), .int x3] (XW cI cZ a u0) ro (XW cI cZ a u0) := by
  refine MI.ofI (own := RX2) (cc := cX2_misfit) (maxL := 9) (by decide) rfl rfl (Nat.le_of_ble_eq_true rfl) ?_
  intro p e s m args below meth c A Q ls C hl hw hQ
  have hx := C.1.1
  have hb := C.1.2.1
  have J27 : ∀ n27 : Nat, ∀ (x3 x4 x5 x6 : Int32) (H : Heap) (locs : List Loc) (ls : Array Slot), F_X2_misfit_27 n27 x3 x4 x5 x6 u0 = some ro → Wd D A s.heap H locs (XW cI cZ a u0) → lv_has ls 9 [(1, .ref (a 2)), (2, .ref (a 5)), (3, .int x3), (4, .int x4), (5, .int x5), (6, .int x6)] → W p l e rmX2_misfit s m args below meth c H locs 0 0 Q (F0 m 27 ls []) := by
    intro n27
    induction n27 with
    | zero => intro x3 x4 x5 x6 H locs ls h; rw [F_X2_misfit_27] at h; cases h
    | succ n27 ih27 =>
      have J99 : ∀ (x3 x4 x5 x6 : Int32) (H : Heap) (locs : List Loc) (ls : Array Slot), F_X2_misfit_99 (F_X2_misfit_27 n27) x3 x4 x5 x6 u0 = some ro → Wd D A s.heap H locs (XW cI cZ a u0) → lv_has ls 9 [(1, .ref (a 2)), (2, .ref (a 5)), (3, .int x3), (4, .int x4), (5, .int x5), (6, .int x6)] → W p l e rmX2_misfit s m args below meth c H locs 0 0 Q (F0 m 99 ls []) := by
        intro x3 x4 x5 x6 H locs ls h hw hl
        rw [F_X2_misfit_99] at h
        refine lv_aload_n hx hb dX2_misfit_99 rfl (lv_at hl 1 rfl) ?_
        refine lv_iload_n hx hb dX2_misfit_100 rfl (lv_at hl 2 rfl) ?_
        refine lv_aload_n hx hb dX2_misfit_101 rfl (lv_at hl 0 rfl) ?_
        refine lv_iload hx hb dX2_misfit_102 (lv_at hl 4 rfl) ?_
        refine lv_iconst (v := 5) hx hb dX2_misfit_104 (by decide) ?_
        refine lv_iadd hx hb dX2_misfit_105 ?_
        refine lv_iconst (v := 2) hx hb dX2_misfit_106 (by decide) ?_
        obtain ⟨r2, h1, h⟩ := b1E h
        refine r_callV (rest := [.int x3, .ref (a 5)]) C hw (c_X5_valueAt l D cI cZ z base a (x5 + 5) 2 u0 r2 h1) (cwV 2 C.1.2.2.2.2 gX2_misfit_X5_valueAt rfl rfl rfl (by decide +kernel) ⟨Nat.le_of_ble_eq_true rfl, Nat.le_of_ble_eq_true rfl⟩) (va_recv C.2.1 hw.1 (ci := 4) (q0 := 2) rfl (XWa_2 cI cZ a u0)) rfl hl.1 rfl (Nat.le_of_ble_eq_true rfl) dX2_misfit_107 ⟨Nat.zero_le _, Nat.zero_le _⟩ (fun H locs hw => ?_)
        obtain ⟨r4, h3, h⟩ := b1E h
        refine r_callV (rest := []) C hw (c_X1_beginsAt l D cI cZ z base a x3 r2 u0 r4 h3) (cwV 2 C.1.2.2.2.2 gX2_misfit_X1_beginsAt rfl rfl rfl (by decide +kernel) ⟨Nat.le_of_ble_eq_true rfl, Nat.le_of_ble_eq_true rfl⟩) (va_recv C.2.1 hw.1 (ci := 1) (q0 := 5) rfl (XWa_5 cI cZ a u0)) rfl hl.1 rfl (Nat.le_of_ble_eq_true rfl) dX2_misfit_110 ⟨Nat.zero_le _, Nat.zero_le _⟩ (fun H locs hw => ?_)
        refine lv_if_ne (tgt := 121) hx hb dX2_misfit_113 (by decide) (fun c5 => ?_) (fun c5 => ?_)
        · have h := itF c5 h
          obtain ⟨v6, ev6⟩ : ∃ y : Int32, y = x5 + 7 := ⟨_, rfl⟩
          have h := nmE ev6 h
          refine lv_iinc (v := v6) (lv' := [(5, .int v6), (1, .ref (a 2)), (2, .ref (a 5)), (3, .int x3), (4, .int x4), (6, .int x6)]) hx hb dX2_misfit_121 hl (k := 4) rfl (by rw [ev6]; rfl) (by decide) rfl (fun ls hl => ?_)
          obtain ⟨v7, ev7⟩ : ∃ y : Int32, y = x6 + 1 := ⟨_, rfl⟩
          have h := nmE ev7 h
          refine lv_iinc (v := v7) (lv' := [(6, .int v7), (5, .int v6), (1, .ref (a 2)), (2, .ref (a 5)), (3, .int x3), (4, .int x4)]) hx hb dX2_misfit_124 hl (k := 5) rfl (by rw [ev7]; rfl) (by decide) rfl (fun ls hl => ?_)
          refine lv_goto (tgt := 27) hx hb dX2_misfit_127 (by decide) ?_
          exact ih27 x3 x4 v6 v7 _ _ _ h hw (lv_sub hl [2, 3, 4, 5, 1, 0] rfl)
        · have h := itT c5 h
          refine lv_iload hx hb dX2_misfit_116 (lv_at hl 4 rfl) ?_
          refine lv_iconst (v := 5) hx hb dX2_misfit_118 (by decide) ?_
          refine lv_iadd hx hb dX2_misfit_119 ?_
          exact r_iretP hQ h hw dX2_misfit_120
      intro x3 x4 x5 x6 H locs ls h hw hl
      rw [F_X2_misfit_27] at h
      refine lv_iload hx hb dX2_misfit_27 (lv_at hl 5 rfl) ?_
      refine lv_iload hx hb dX2_misfit_29 (lv_at hl 3 rfl) ?_
      refine lv_icmp_ge (tgt := 130) hx hb dX2_misfit_31 (by decide) (fun c1 => ?_) (fun c1 => ?_)
      · have h := itT c1 h
        refine lv_iconst (v := (-1)) hx hb dX2_misfit_130 (by decide) ?_
        exact r_iretP hQ h hw dX2_misfit_131
      · have h := itF c1 h
        refine lv_aload_n hx hb dX2_misfit_34 rfl (lv_at hl 0 rfl) ?_
        refine lv_iload hx hb dX2_misfit_35 (lv_at hl 4 rfl) ?_
        refine lv_iconst (v := 2) hx hb dX2_misfit_37 (by decide) ?_
        obtain ⟨r3, h2, h⟩ := b1E h
        refine r_callV (rest := []) C hw (c_X5_valueAt l D cI cZ z base a x5 2 u0 r3 h2) (cwV 2 C.1.2.2.2.2 gX2_misfit_X5_valueAt rfl rfl rfl (by decide +kernel) ⟨Nat.le_of_ble_eq_true rfl, Nat.le_of_ble_eq_true rfl⟩) (va_recv C.2.1 hw.1 (ci := 4) (q0 := 2) rfl (XWa_2 cI cZ a u0)) rfl hl.1 rfl (Nat.le_of_ble_eq_true rfl) dX2_misfit_38 ⟨Nat.zero_le _, Nat.zero_le _⟩ (fun H locs hw => ?_)
        refine lv_istore (lv' := [(7, .int r3), (1, .ref (a 2)), (2, .ref (a 5)), (3, .int x3), (4, .int x4), (5, .int x5), (6, .int x6)]) hx hb dX2_misfit_41 hl (by decide) rfl (fun ls hl => ?_)
        refine lv_aload_n hx hb dX2_misfit_43 rfl (lv_at hl 1 rfl) ?_
        refine lv_iload hx hb dX2_misfit_44 (lv_at hl 5 rfl) ?_
        refine lv_iconst (v := 2) hx hb dX2_misfit_46 (by decide) ?_
        refine lv_iadd hx hb dX2_misfit_47 ?_
        refine lv_iconst (v := 2) hx hb dX2_misfit_48 (by decide) ?_
        obtain ⟨r5, h4, h⟩ := b1E h
        refine r_callV (rest := []) C hw (c_X5_valueAt l D cI cZ z base a (x5 + 2) 2 u0 r5 h4) (cwV 2 C.1.2.2.2.2 gX2_misfit_X5_valueAt rfl rfl rfl (by decide +kernel) ⟨Nat.le_of_ble_eq_true rfl, Nat.le_of_ble_eq_true rfl⟩) (va_recv C.2.1 hw.1 (ci := 4) (q0 := 2) rfl (XWa_2 cI cZ a u0)) rfl hl.1 rfl (Nat.le_of_ble_eq_true rfl) dX2_misfit_49 ⟨Nat.zero_le _, Nat.zero_le _⟩ (fun H locs hw => ?_)
        refine lv_istore (lv' := [(8, .int r5), (7, .int r3), (1, .ref (a 2)), (2, .ref (a 5)), (3, .int x3), (4, .int x4), (5, .int x5), (6, .int x6)]) hx hb dX2_misfit_52 hl (by decide) rfl (fun ls hl => ?_)
        refine lv_iload hx hb dX2_misfit_54 (lv_at hl 1 rfl) ?_
        refine lv_iload hx hb dX2_misfit_56 (lv_at hl 0 rfl) ?_
        refine lv_icmp_ge (tgt := 71) hx hb dX2_misfit_58 (by decide) (fun c6 => ?_) (fun c6 => ?_)
        · have h := itT c6 h
          refine lv_iload hx hb dX2_misfit_71 (lv_at hl 6 rfl) ?_
          exact r_iretP hQ h hw dX2_misfit_73
        · have h := itF c6 h
          refine lv_aload_n hx hb dX2_misfit_61 rfl (lv_at hl 3 rfl) ?_
          refine lv_iload_n hx hb dX2_misfit_62 rfl (lv_at hl 4 rfl) ?_
          refine lv_iload hx hb dX2_misfit_63 (lv_at hl 1 rfl) ?_
          obtain ⟨r8, h7, h⟩ := b1E h
          refine r_callV (rest := []) C hw (c_X1_beginsAt l D cI cZ z base a x3 r3 u0 r8 h7) (cwV 2 C.1.2.2.2.2 gX2_misfit_X1_beginsAt rfl rfl rfl (by decide +kernel) ⟨Nat.le_of_ble_eq_true rfl, Nat.le_of_ble_eq_true rfl⟩) (va_recv C.2.1 hw.1 (ci := 1) (q0 := 5) rfl (XWa_5 cI cZ a u0)) rfl hl.1 rfl (Nat.le_of_ble_eq_true rfl) dX2_misfit_65 ⟨Nat.zero_le _, Nat.zero_le _⟩ (fun H locs hw => ?_)
          refine lv_if_ne (tgt := 74) hx hb dX2_misfit_68 (by decide) (fun c9 => ?_) (fun c9 => ?_)
          · have h := itF c9 h
            refine lv_iload hx hb dX2_misfit_74 (lv_at hl 0 rfl) ?_
            refine lv_aload_n hx hb dX2_misfit_76 rfl (lv_at hl 3 rfl) ?_
            refine lv_iload_n hx hb dX2_misfit_77 rfl (lv_at hl 4 rfl) ?_
            obtain ⟨r11, h10, h⟩ := b1E h
            refine r_callV (rest := [.int r5]) C hw (c_X1_length l D cI cZ z base a x3 u0 r11 h10) (cwV 1 C.1.2.2.2.2 gX2_misfit_X1_length rfl rfl rfl (by decide +kernel) ⟨Nat.le_of_ble_eq_true rfl, Nat.le_of_ble_eq_true rfl⟩) (va_recv C.2.1 hw.1 (ci := 1) (q0 := 5) rfl (XWa_5 cI cZ a u0)) rfl hl.1 rfl (Nat.le_of_ble_eq_true rfl) dX2_misfit_78 ⟨Nat.zero_le _, Nat.zero_le _⟩ (fun H locs hw => ?_)
            refine lv_icmp_eq (tgt := 99) hx hb dX2_misfit_81 (by decide) (fun c12 => ?_) (fun c12 => ?_)
            · have h := itT c12 h
              exact J99 x3 x4 x5 x6 _ _ _ h hw (lv_sub hl [2, 3, 4, 5, 6, 7] rfl)
            · have h := itF c12 h
              refine lv_aload_n hx hb dX2_misfit_84 rfl (lv_at hl 3 rfl) ?_
              refine lv_iload_n hx hb dX2_misfit_85 rfl (lv_at hl 4 rfl) ?_
              refine lv_iload hx hb dX2_misfit_86 (lv_at hl 0 rfl) ?_
              obtain ⟨r14, h13, h⟩ := b1E h
              refine r_callV (rest := []) C hw (c_X1_beginsAt l D cI cZ z base a x3 r5 u0 r14 h13) (cwV 2 C.1.2.2.2.2 gX2_misfit_X1_beginsAt rfl rfl rfl (by decide +kernel) ⟨Nat.le_of_ble_eq_true rfl, Nat.le_of_ble_eq_true rfl⟩) (va_recv C.2.1 hw.1 (ci := 1) (q0 := 5) rfl (XWa_5 cI cZ a u0)) rfl hl.1 rfl (Nat.le_of_ble_eq_true rfl) dX2_misfit_88 ⟨Nat.zero_le _, Nat.zero_le _⟩ (fun H locs hw => ?_)
              refine lv_if_ne (tgt := 99) hx hb dX2_misfit_91 (by decide) (fun c15 => ?_) (fun c15 => ?_)
              · have h := itF c15 h
                exact J99 x3 x4 x5 x6 _ _ _ h hw (lv_sub hl [2, 3, 4, 5, 6, 7] rfl)
              · have h := itT c15 h
                refine lv_iload hx hb dX2_misfit_94 (lv_at hl 6 rfl) ?_
                refine lv_iconst (v := 2) hx hb dX2_misfit_96 (by decide) ?_
                refine lv_iadd hx hb dX2_misfit_97 ?_
                exact r_iretP hQ h hw dX2_misfit_98
          · have h := itT c9 h
            refine lv_iload hx hb dX2_misfit_71 (lv_at hl 6 rfl) ?_
            exact r_iretP hQ h hw dX2_misfit_73
  have J22 : ∀ (x3 x4 t0 : Int32) (H : Heap) (locs : List Loc) (ls : Array Slot), F_X2_misfit_22 x3 x4 t0 u0 = some ro → Wd D A s.heap H locs (XW cI cZ a u0) → lv_has ls 9 [(1, .ref (a 2)), (2, .ref (a 5)), (3, .int x3), (4, .int x4)] → W p l e rmX2_misfit s m args below meth c H locs 0 0 Q (F0 m 22 ls [.int t0]) := by
    intro x3 x4 t0 H locs ls h hw hl
    rw [F_X2_misfit_22] at h
    refine lv_istore (lv' := [(5, .int t0), (1, .ref (a 2)), (2, .ref (a 5)), (3, .int x3), (4, .int x4)]) hx hb dX2_misfit_22 hl (by decide) rfl (fun ls hl => ?_)
    refine lv_iconst (v := 0) hx hb dX2_misfit_24 (by decide) ?_
    refine lv_istore (lv' := [(6, .int 0), (5, .int t0), (1, .ref (a 2)), (2, .ref (a 5)), (3, .int x3), (4, .int x4)]) hx hb dX2_misfit_25 hl (by decide) rfl (fun ls hl => ?_)
    exact J27 fu x3 x4 t0 0 _ _ _ h hw (lv_sub hl [2, 3, 4, 5, 1, 0] rfl)
  have hl : lv_has ls 9 [(0, .ref (a 6)), (1, .ref (a 2)), (2, .ref (a 5)), (3, .int x3)] := hl
  rw [F_X2_misfit] at h
  refine lv_aload_n hx hb dX2_misfit_0 rfl (lv_at hl 0 rfl) ?_
  refine lv_iload_n hx hb dX2_misfit_1 rfl (lv_at hl 3 rfl) ?_
  obtain ⟨r2, h1, h⟩ := b1E h
  refine r_callV (rest := []) C hw (c_X2_size l D cI cZ z base a x3 u0 r2 h1) (cwV 1 C.1.2.2.2.2 gX2_misfit_X2_size rfl rfl rfl (by decide +kernel) ⟨Nat.le_of_ble_eq_true rfl, Nat.le_of_ble_eq_true rfl⟩) (va_recv C.2.1 hw.1 (ci := 2) (q0 := 6) rfl (XWa_6 cI cZ a u0)) rfl hl.1 rfl (Nat.le_of_ble_eq_true rfl) dX2_misfit_2 ⟨Nat.zero_le _, Nat.zero_le _⟩ (fun H locs hw => ?_)
  refine lv_istore (lv' := [(4, .int r2), (0, .ref (a 6)), (1, .ref (a 2)), (2, .ref (a 5)), (3, .int x3)]) hx hb dX2_misfit_5 hl (by decide) rfl (fun ls hl => ?_)
  refine lv_iload hx hb dX2_misfit_7 (lv_at hl 0 rfl) ?_
  refine lv_if_le (tgt := 21) hx hb dX2_misfit_9 (by decide) (fun c3 => ?_) (fun c3 => ?_)
  · have h := itT c3 h
    refine lv_iconst (v := 0) hx hb dX2_misfit_21 (by decide) ?_
    exact J22 x3 r2 0 _ _ _ h hw (lv_sub hl [2, 3, 4, 0] rfl)
  · have h := itF c3 h
    refine lv_aload_n hx hb dX2_misfit_12 rfl (lv_at hl 1 rfl) ?_
    refine r_get C hw hiX2_misfit_X2 6 (XWa_6 cI cZ a u0) rfl 0 (by decide) (by decide +kernel) rfl dX2_misfit_13 ?_
    refine lv_iload_n hx hb dX2_misfit_16 rfl (lv_at hl 4 rfl) ?_
    obtain ⟨g4, h⟩ := ixE h
    refine r_ald C hw 25 0 (XWa_25 cI cZ a u0) rfl g4 dX2_misfit_17 ?_
    refine lv_goto (tgt := 22) hx hb dX2_misfit_18 (by decide) ?_
    exact J22 x3 r2 (u0 25 (x3).toNatClampNeg) _ _ _ h hw (lv_sub hl [2, 3, 4, 0] rfl)
