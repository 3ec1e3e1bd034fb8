abbrev rmX0_reaches : Room := { frames := 1, cells := 0, slots := 0, locals := 21 }
theorem hiX0_reaches_X0 : ∀ w ∈ wsX00, w ∈ wsX0_reaches := by decide +kernel
set_option maxHeartbeats 4000000 in
set_option maxRecDepth 100000 in
theorem c_X0_reaches (l : Launch) (D : va_G) (cI cZ : ClassId) (z : Nat → Nat) (base : Nat) (a : Nat → Nat) (x1 : Int32) (x2 : Int32) (u0 : St) (ro : Int32) (h : F_X0_reaches x1 x2 u0 = some ro) : MI l D [(cI, .int), (cZ, .boolean)] z base yX0_reaches wsX0_reaches rmX0_reaches [.ref (a 3), .int x1, .int x2] (XW cI cZ a u0) ro (XW cI cZ a u0) := by
  refine MI.ofZ (own := RX0) (cc := cX0_reaches) (maxL := 5) (by decide) rfl rfl (Nat.le_of_ble_eq_true rfl) ?_
  intro p e s m args below meth c A Q ls C hl hw hQ
  have hx := C.1.1
  have hb := C.1.2.1
  have J5 : ∀ n5 : Nat, ∀ (x2 x3 x4 : Int32) (H : Heap) (locs : List Loc) (ls : Array Slot), F_X0_reaches_5 n5 x2 x3 x4 u0 = some ro → Wd D A s.heap H locs (XW cI cZ a u0) → lv_has ls 5 [(0, .ref (a 3)), (2, .int x2), (3, .int x3), (4, .int x4)] → W p l e rmX0_reaches s m args below meth c H locs 0 0 Q (F0 m 5 ls []) := by
    intro n5
    induction n5 with
    | zero => intro x2 x3 x4 H locs ls h; rw [F_X0_reaches_5] at h; cases h
    | succ n5 ih5 =>
      intro x2 x3 x4 H locs ls h hw hl
      rw [F_X0_reaches_5] at h
      refine lv_iload hx hb dX0_reaches_5 (lv_at hl 3 rfl) ?_
      refine lv_bipush (v := 32) hx hb dX0_reaches_7 (by decide) ?_
      refine lv_icmp_ge (tgt := 40) hx hb dX0_reaches_9 (by decide) (fun c1 => ?_) (fun c1 => ?_)
      · have h := itT c1 h
        refine lv_iconst (v := 0) hx hb dX0_reaches_40 (by decide) ?_
        exact r_zretP hQ (by decide) h hw dX0_reaches_41
      · have h := itF c1 h
        refine lv_aload_n hx hb dX0_reaches_12 rfl (lv_at hl 0 rfl) ?_
        refine lv_iload_n hx hb dX0_reaches_13 rfl (lv_at hl 2 rfl) ?_
        obtain ⟨r3, h2, h⟩ := b1E h
        refine r_callV (rest := []) C hw (c_X0_has l D cI cZ z base a x3 u0 r3 h2) (cwV 1 C.1.2.2.2.2 gX0_reaches_X0_has rfl rfl rfl (by decide +kernel) ⟨Nat.le_of_ble_eq_true rfl, Nat.le_of_ble_eq_true rfl⟩) (va_recv C.2.1 hw.1 (ci := 0) (q0 := 3) rfl (XWa_3 cI cZ a u0)) rfl hl.1 rfl (Nat.le_of_ble_eq_true rfl) dX0_reaches_14 ⟨Nat.zero_le _, Nat.zero_le _⟩ (fun H locs hw => ?_)
        refine lv_if_eq (tgt := 40) hx hb dX0_reaches_17 (by decide) (fun c4 => ?_) (fun c4 => ?_)
        · have h := itT c4 h
          refine lv_iconst (v := 0) hx hb dX0_reaches_40 (by decide) ?_
          exact r_zretP hQ (by decide) h hw dX0_reaches_41
        · have h := itF c4 h
          refine lv_iload_n hx hb dX0_reaches_20 rfl (lv_at hl 2 rfl) ?_
          refine lv_iload_n hx hb dX0_reaches_21 rfl (lv_at hl 1 rfl) ?_
          refine lv_icmp_ne (tgt := 27) hx hb dX0_reaches_22 (by decide) (fun c5 => ?_) (fun c5 => ?_)
          · have h := itF c5 h
            refine lv_aload_n hx hb dX0_reaches_27 rfl (lv_at hl 0 rfl) ?_
            refine r_get C hw hiX0_reaches_X0 3 (XWa_3 cI cZ a u0) rfl 1 (by decide) (by decide +kernel) rfl dX0_reaches_28 ?_
            refine lv_iload_n hx hb dX0_reaches_31 rfl (lv_at hl 2 rfl) ?_
            obtain ⟨g6, h⟩ := ixE h
            refine r_ald C hw 9 0 (XWa_9 cI cZ a u0) rfl g6 dX0_reaches_32 ?_
            refine lv_topi (fun v7 ev7 => ?_)
            have h := nmE ev7 h
            refine lv_istore_n (lv' := [(3, .int v7), (0, .ref (a 3)), (2, .int x2), (4, .int x4)]) hx hb dX0_reaches_33 rfl hl (by decide) rfl (fun ls hl => ?_)
            obtain ⟨v8, ev8⟩ : ∃ y : Int32, y = x4 + 1 := ⟨_, rfl⟩
            have h := nmE ev8 h
            refine lv_iinc (v := v8) (lv' := [(4, .int v8), (3, .int v7), (0, .ref (a 3)), (2, .int x2)]) hx hb dX0_reaches_34 hl (k := 3) rfl (by rw [ev8]; rfl) (by decide) rfl (fun ls hl => ?_)
            refine lv_goto (tgt := 5) hx hb dX0_reaches_37 (by decide) ?_
            exact ih5 x2 v7 v8 _ _ _ h hw (lv_sub hl [2, 3, 1, 0] rfl)
          · have h := itT c5 h
            refine lv_iconst (v := 1) hx hb dX0_reaches_25 (by decide) ?_
            exact r_zretP hQ (by decide) h hw dX0_reaches_26
  have hl : lv_has ls 5 [(0, .ref (a 3)), (1, .int x1), (2, .int x2)] := hl
  rw [F_X0_reaches] at h
  refine lv_iload_n hx hb dX0_reaches_0 rfl (lv_at hl 1 rfl) ?_
  refine lv_istore_n (lv' := [(3, .int x1), (0, .ref (a 3)), (1, .int x1), (2, .int x2)]) hx hb dX0_reaches_1 rfl hl (by decide) rfl (fun ls hl => ?_)
  refine lv_iconst (v := 0) hx hb dX0_reaches_2 (by decide) ?_
  refine lv_istore (lv' := [(4, .int 0), (3, .int x1), (0, .ref (a 3)), (1, .int x1), (2, .int x2)]) hx hb dX0_reaches_3 hl (by decide) rfl (fun ls hl => ?_)
  exact J5 fu x2 x1 0 _ _ _ h hw (lv_sub hl [2, 4, 1, 0] rfl)
abbrev rmX7_isA : Room := { frames := 2, cells := 0, slots := 0, locals := 45 }
theorem hiX7_isA_X7 : ∀ w ∈ wsX70, w ∈ wsX7_isA := by decide +kernel
set_option maxHeartbeats 4000000 in
set_option maxRecDepth 100000 in
theorem c_X7_isA (l : Launch) (D : va_G) (cI cZ : ClassId) (z : Nat → Nat) (base : Nat) (a : Nat → Nat) (x1 : Int32) (x2 : Int32) (u0 : St) (ro : Int32) (h : F_X7_isA x1 x2 u0 = some ro) : MI l D [(cI, .int), (cZ, .boolean)] z base yX7_isA wsX7_isA rmX7_isA [.ref (a 0), .int x1, .int x2] (XW cI cZ a u0) ro (XW cI cZ a u0) := by
  refine MI.ofZ (own := RX7) (cc := cX7_isA) (maxL := 3) (by decide) rfl rfl (Nat.le_of_ble_eq_true rfl) ?_
  intro p e s m args below meth c A Q ls C hl hw hQ
  have hx := C.1.1
  have hb := C.1.2.1
  have hl : lv_has ls 3 [(0, .ref (a 0)), (1, .int x1), (2, .int x2)] := hl
  rw [F_X7_isA] at h
  refine lv_aload_n hx hb dX7_isA_0 rfl (lv_at hl 0 rfl) ?_
  refine r_get C hw hiX7_isA_X7 0 (XWa_0 cI cZ a u0) rfl 2 (by decide) (by decide +kernel) rfl dX7_isA_1 ?_
  refine lv_iload_n hx hb dX7_isA_4 rfl (lv_at hl 1 rfl) ?_
  refine lv_iload_n hx hb dX7_isA_5 rfl (lv_at hl 2 rfl) ?_
  obtain ⟨r2, h1, h⟩ := b1E h
  refine r_callV (rest := []) C hw (c_X0_reaches l D cI cZ z base a x1 x2 u0 r2 h1) (cwV 2 C.1.2.2.2.2 gX7_isA_X0_reaches rfl rfl rfl (by decide +kernel) ⟨Nat.le_of_ble_eq_true rfl, Nat.le_of_ble_eq_true rfl⟩) (va_recv C.2.1 hw.1 (ci := 0) (q0 := 3) rfl (XWa_3 cI cZ a u0)) rfl hl.1 rfl (Nat.le_of_ble_eq_true rfl) dX7_isA_6 ⟨Nat.zero_le _, Nat.zero_le _⟩ (fun H locs hw => ?_)
  obtain ⟨g3, h⟩ := boE h
  exact r_zretP hQ g3 h hw dX7_isA_9
abbrev rmX1_placeOf : Room := { frames := 2, cells := 0, slots := 0, locals := 40 }
theorem hiX1_placeOf_X1 : ∀ w ∈ wsX10, w ∈ wsX1_placeOf := by decide +kernel
set_option maxHeartbeats 4000000 in
set_option maxRecDepth 100000 in
theorem c_X1_placeOf (l : Launch) (D : va_G) (cI cZ : ClassId) (z : Nat → Nat) (base : Nat) (a : Nat → Nat) (x2 : Int32) (x3 : Int32) (u0 : St) (ro : Int32) (h : F_X1_placeOf x2 x3 u0 = some ro) : MI l D [(cI, .int), (cZ, .boolean)] z base yX1_placeOf wsX1_placeOf rmX1_placeOf [.ref (a 5), .ref (a 2), .int x2, .int x3] (XW cI cZ a u0) ro (XW cI cZ a u0) := by
  refine MI.ofI (own := RX1) (cc := cX1_placeOf) (maxL := 6) (by decide) rfl rfl (Nat.le_of_ble_eq_true rfl) ?_
  intro p e s m args below meth c A Q ls C hl hw hQ
  have hx := C.1.1
  have hb := C.1.2.1
  have J26 : ∀ n26 : Nat, ∀ (x2 x3 x4 x5 : Int32) (H : Heap) (locs : List Loc) (ls : Array Slot), F_X1_placeOf_26 n26 x2 x3 x4 x5 u0 = some ro → Wd D A s.heap H locs (XW cI cZ a u0) → lv_has ls 6 [(0, .ref (a 5)), (1, .ref (a 2)), (2, .int x2), (3, .int x3), (4, .int x4), (5, .int x5)] → W p l e rmX1_placeOf s m args below meth c H locs 0 0 Q (F0 m 26 ls []) := by
    intro n26
    induction n26 with
    | zero => intro x2 x3 x4 x5 H locs ls h; rw [F_X1_placeOf_26] at h; cases h
    | succ n26 ih26 =>
      intro x2 x3 x4 x5 H locs ls h hw hl
      rw [F_X1_placeOf_26] at h
      refine lv_iload hx hb dX1_placeOf_26 (lv_at hl 5 rfl) ?_
      refine lv_iload_n hx hb dX1_placeOf_28 rfl (lv_at hl 3 rfl) ?_
      refine lv_icmp_ge (tgt := 52) hx hb dX1_placeOf_29 (by decide) (fun c1 => ?_) (fun c1 => ?_)
      · have h := itT c1 h
        refine lv_iload hx hb dX1_placeOf_52 (lv_at hl 4 rfl) ?_
        refine lv_aload_n hx hb dX1_placeOf_54 rfl (lv_at hl 0 rfl) ?_
        refine r_get C hw hiX1_placeOf_X1 5 (XWa_5 cI cZ a u0) rfl 1 (by decide) (by decide +kernel) rfl dX1_placeOf_55 ?_
        refine lv_iload_n hx hb dX1_placeOf_58 rfl (lv_at hl 2 rfl) ?_
        obtain ⟨g2, h⟩ := ixE h
        refine r_ald C hw 21 0 (XWa_21 cI cZ a u0) rfl g2 dX1_placeOf_59 ?_
        refine lv_isub hx hb dX1_placeOf_60 ?_
        exact r_iretP hQ h hw dX1_placeOf_61
      · have h := itF c1 h
        refine lv_iload hx hb dX1_placeOf_32 (lv_at hl 4 rfl) ?_
        refine lv_aload_n hx hb dX1_placeOf_34 rfl (lv_at hl 1 rfl) ?_
        refine lv_iload hx hb dX1_placeOf_35 (lv_at hl 4 rfl) ?_
        obtain ⟨r4, h3, h⟩ := b1E h
        refine r_callV (rest := [.int x4]) C hw (c_X5_byteAt l D cI cZ z base a x4 u0 r4 h3) (cwV 1 C.1.2.2.2.2 gX1_placeOf_X5_byteAt rfl rfl rfl (by decide +kernel) ⟨Nat.le_of_ble_eq_true rfl, Nat.le_of_ble_eq_true rfl⟩) (va_recv C.2.1 hw.1 (ci := 4) (q0 := 2) rfl (XWa_2 cI cZ a u0)) rfl hl.1 rfl (Nat.le_of_ble_eq_true rfl) dX1_placeOf_37 ⟨Nat.zero_le _, Nat.zero_le _⟩ (fun H locs hw => ?_)
        obtain ⟨r6, h5, h⟩ := b1E h
        refine r_callS (rest := [.int x4]) C hw (c_X4_length l D cI cZ z base a r4 u0 r6 h5) (va_cwS 1 C.1.2.2.2.2 gX1_placeOf_X4_length rfl rfl rfl (by decide +kernel) ⟨Nat.le_of_ble_eq_true rfl, Nat.le_of_ble_eq_true rfl⟩) rfl hl.1 rfl (Nat.le_of_ble_eq_true rfl) dX1_placeOf_40 ⟨Nat.zero_le _, Nat.zero_le _⟩ (fun H locs hw => ?_)
        refine lv_iadd hx hb dX1_placeOf_43 ?_
        refine lv_topi (fun v7 ev7 => ?_)
        have h := nmE ev7 h
        refine lv_istore (lv' := [(4, .int v7), (0, .ref (a 5)), (1, .ref (a 2)), (2, .int x2), (3, .int x3), (5, .int x5)]) hx hb dX1_placeOf_44 hl (by decide) rfl (fun ls hl => ?_)
        obtain ⟨v8, ev8⟩ : ∃ y : Int32, y = x5 + 1 := ⟨_, rfl⟩
        have h := nmE ev8 h
        refine lv_iinc (v := v8) (lv' := [(5, .int v8), (4, .int v7), (0, .ref (a 5)), (1, .ref (a 2)), (2, .int x2), (3, .int x3)]) hx hb dX1_placeOf_46 hl (k := 5) rfl (by rw [ev8]; rfl) (by decide) rfl (fun ls hl => ?_)
        refine lv_goto (tgt := 26) hx hb dX1_placeOf_49 (by decide) ?_
        exact ih26 x2 x3 v7 v8 _ _ _ h hw (lv_sub hl [2, 3, 4, 5, 1, 0] rfl)
  have hl : lv_has ls 6 [(0, .ref (a 5)), (1, .ref (a 2)), (2, .int x2), (3, .int x3)] := hl
  rw [F_X1_placeOf] at h
  refine lv_iload_n hx hb dX1_placeOf_0 rfl (lv_at hl 3 rfl) ?_
  refine lv_if_lt (tgt := 13) hx hb dX1_placeOf_1 (by decide) (fun c1 => ?_) (fun c1 => ?_)
  · have h := itT c1 h
    refine lv_iconst (v := (-1)) hx hb dX1_placeOf_13 (by decide) ?_
    exact r_iretP hQ h hw dX1_placeOf_14
  · have h := itF c1 h
    refine lv_iload_n hx hb dX1_placeOf_4 rfl (lv_at hl 3 rfl) ?_
    refine lv_aload_n hx hb dX1_placeOf_5 rfl (lv_at hl 0 rfl) ?_
    refine lv_iload_n hx hb dX1_placeOf_6 rfl (lv_at hl 2 rfl) ?_
    obtain ⟨r3, h2, h⟩ := b1E h
    refine r_callV (rest := [.int x3]) C hw (c_X1_size l D cI cZ z base a x2 u0 r3 h2) (cwV 1 C.1.2.2.2.2 gX1_placeOf_X1_size rfl rfl rfl (by decide +kernel) ⟨Nat.le_of_ble_eq_true rfl, Nat.le_of_ble_eq_true rfl⟩) (va_recv C.2.1 hw.1 (ci := 1) (q0 := 5) rfl (XWa_5 cI cZ a u0)) rfl hl.1 rfl (Nat.le_of_ble_eq_true rfl) dX1_placeOf_7 ⟨Nat.zero_le _, Nat.zero_le _⟩ (fun H locs hw => ?_)
    refine lv_icmp_lt (tgt := 15) hx hb dX1_placeOf_10 (by decide) (fun c4 => ?_) (fun c4 => ?_)
    · have h := itT c4 h
      refine lv_aload_n hx hb dX1_placeOf_15 rfl (lv_at hl 0 rfl) ?_
      refine r_get C hw hiX1_placeOf_X1 5 (XWa_5 cI cZ a u0) rfl 1 (by decide) (by decide +kernel) rfl dX1_placeOf_16 ?_
      refine lv_iload_n hx hb dX1_placeOf_19 rfl (lv_at hl 2 rfl) ?_
      obtain ⟨g5, h⟩ := ixE h
      refine r_ald C hw 21 0 (XWa_21 cI cZ a u0) rfl g5 dX1_placeOf_20 ?_
      refine lv_topi (fun v6 ev6 => ?_)
      have h := nmE ev6 h
      refine lv_istore (lv' := [(4, .int v6), (0, .ref (a 5)), (1, .ref (a 2)), (2, .int x2), (3, .int x3)]) hx hb dX1_placeOf_21 hl (by decide) rfl (fun ls hl => ?_)
      refine lv_iconst (v := 0) hx hb dX1_placeOf_23 (by decide) ?_
      refine lv_istore (lv' := [(5, .int 0), (4, .int v6), (0, .ref (a 5)), (1, .ref (a 2)), (2, .int x2), (3, .int x3)]) hx hb dX1_placeOf_24 hl (by decide) rfl (fun ls hl => ?_)
      exact J26 fu x2 x3 v6 0 _ _ _ h hw (lv_sub hl [2, 3, 4, 5, 1, 0] rfl)
    · have h := itF c4 h
      refine lv_iconst (v := (-1)) hx hb dX1_placeOf_13 (by decide) ?_
      exact r_iretP hQ h hw dX1_placeOf_14
abbrev rmX3_fact : Room := { frames := 3, cells := 0, slots := 0, locals := 65 }
theorem hiX3_fact_X3 : ∀ w ∈ wsX30, w ∈ wsX3_fact := by decide +kernel
set_option maxHeartbeats 4000000 in
set_option maxRecDepth 100000 in
theorem c_X3_fact (l : Launch) (D : va_G) (cI cZ : ClassId) (z : Nat → Nat) (base : Nat) (a : Nat → Nat) (x2 : Int32) (x3 : Int32) (x4 : Int32) (u0 : St) (ro : Int32) (h : F_X3_fact x2 x3 x4 u0 = some ro) : MI l D [(cI, .int), (cZ, .boolean)] z base yX3_fact wsX3_fact rmX3_fact [.ref (a 4), .ref (a 2), .int x2, .int x3, .int x4] (XW cI cZ a u0) ro (XW cI cZ a u0) := by
  refine MI.ofI (own := RX3) (cc := cX3_fact) (maxL := 5) (by decide) rfl rfl (Nat.le_of_ble_eq_true rfl) ?_
  intro p e s m args below meth c A Q ls C hl hw hQ
  have hx := C.1.1
  have hb := C.1.2.1
  have hl : lv_has ls 5 [(0, .ref (a 4)), (1, .ref (a 2)), (2, .int x2), (3, .int x3), (4, .int x4)] := hl
  rw [F_X3_fact] at h
  refine lv_aload_n hx hb dX3_fact_0 rfl (lv_at hl 0 rfl) ?_
  refine lv_iload_n hx hb dX3_fact_1 rfl (lv_at hl 2 rfl) ?_
  obtain ⟨r2, h1, h⟩ := b1E h
  refine r_callV (rest := []) C hw (c_X3_has l D cI cZ z base a x2 u0 r2 h1) (cwV 1 C.1.2.2.2.2 gX3_fact_X3_has rfl rfl rfl (by decide +kernel) ⟨Nat.le_of_ble_eq_true rfl, Nat.le_of_ble_eq_true rfl⟩) (va_recv C.2.1 hw.1 (ci := 3) (q0 := 4) rfl (XWa_4 cI cZ a u0)) rfl hl.1 rfl (Nat.le_of_ble_eq_true rfl) dX3_fact_2 ⟨Nat.zero_le _, Nat.zero_le _⟩ (fun H locs hw => ?_)
  refine lv_if_ne (tgt := 10) hx hb dX3_fact_5 (by decide) (fun c3 => ?_) (fun c3 => ?_)
  · have h := itF c3 h
    refine lv_iload_n hx hb dX3_fact_10 rfl (lv_at hl 3 rfl) ?_
    by_cases c4 : x3 = 0
    · have h := itT c4 h
      refine r_tabIn (k := 0) (tgt := 64) C c4 dX3_fact_11 (by decide) (by decide) rfl (by decide) ?_
      refine lv_aload_n hx hb dX3_fact_64 rfl (lv_at hl 0 rfl) ?_
      refine r_get C hw hiX3_fact_X3 4 (XWa_4 cI cZ a u0) rfl 2 (by decide) (by decide +kernel) rfl dX3_fact_65 ?_
      refine lv_iload_n hx hb dX3_fact_68 rfl (lv_at hl 2 rfl) ?_
      obtain ⟨g5, h⟩ := ixE h
      refine r_ald C hw 15 0 (XWa_15 cI cZ a u0) rfl g5 dX3_fact_69 ?_
      exact r_iretP hQ h hw dX3_fact_70
    have h := itF c4 h
    by_cases c6 : x3 = 1
    · have h := itT c6 h
      refine r_tabIn (k := 1) (tgt := 71) C c6 dX3_fact_11 (by decide) (by decide) rfl (by decide) ?_
      refine lv_aload_n hx hb dX3_fact_71 rfl (lv_at hl 0 rfl) ?_
      refine r_get C hw hiX3_fact_X3 4 (XWa_4 cI cZ a u0) rfl 3 (by decide) (by decide +kernel) rfl dX3_fact_72 ?_
      refine lv_iload_n hx hb dX3_fact_75 rfl (lv_at hl 2 rfl) ?_
      obtain ⟨g7, h⟩ := ixE h
      refine r_ald C hw 16 0 (XWa_16 cI cZ a u0) rfl g7 dX3_fact_76 ?_
      exact r_iretP hQ h hw dX3_fact_77
    have h := itF c6 h
    by_cases c8 : x3 = 2
    · have h := itT c8 h
      refine r_tabIn (k := 2) (tgt := 78) C c8 dX3_fact_11 (by decide) (by decide) rfl (by decide) ?_
      refine lv_aload_n hx hb dX3_fact_78 rfl (lv_at hl 0 rfl) ?_
      refine lv_iload_n hx hb dX3_fact_79 rfl (lv_at hl 2 rfl) ?_
      refine lv_iload hx hb dX3_fact_80 (lv_at hl 4 rfl) ?_
      obtain ⟨r10, h9, h⟩ := b1E h
      refine r_callV (rest := []) C hw (c_X3_parameterType l D cI cZ z base a x2 x4 u0 r10 h9) (cwV 2 C.1.2.2.2.2 gX3_fact_X3_parameterType rfl rfl rfl (by decide +kernel) ⟨Nat.le_of_ble_eq_true rfl, Nat.le_of_ble_eq_true rfl⟩) (va_recv C.2.1 hw.1 (ci := 3) (q0 := 4) rfl (XWa_4 cI cZ a u0)) rfl hl.1 rfl (Nat.le_of_ble_eq_true rfl) dX3_fact_82 ⟨Nat.zero_le _, Nat.zero_le _⟩ (fun H locs hw => ?_)
      exact r_iretP hQ h hw dX3_fact_85
    have h := itF c8 h
    by_cases c11 : x3 = 3
    · have h := itT c11 h
      refine r_tabIn (k := 3) (tgt := 86) C c11 dX3_fact_11 (by decide) (by decide) rfl (by decide) ?_
      refine lv_aload_n hx hb dX3_fact_86 rfl (lv_at hl 0 rfl) ?_
      refine r_get C hw hiX3_fact_X3 4 (XWa_4 cI cZ a u0) rfl 5 (by decide) (by decide +kernel) rfl dX3_fact_87 ?_
      refine lv_iload_n hx hb dX3_fact_90 rfl (lv_at hl 2 rfl) ?_
      obtain ⟨g12, h⟩ := ixE h
      refine r_ald C hw 18 0 (XWa_18 cI cZ a u0) rfl g12 dX3_fact_91 ?_
      exact r_iretP hQ h hw dX3_fact_92
    have h := itF c11 h
    by_cases c13 : x3 = 4
    · have h := itT c13 h
      refine r_tabIn (k := 4) (tgt := 93) C c13 dX3_fact_11 (by decide) (by decide) rfl (by decide) ?_
      refine lv_aload_n hx hb dX3_fact_93 rfl (lv_at hl 0 rfl) ?_
      refine r_get C hw hiX3_fact_X3 4 (XWa_4 cI cZ a u0) rfl 6 (by decide) (by decide +kernel) rfl dX3_fact_94 ?_
      refine lv_iload_n hx hb dX3_fact_97 rfl (lv_at hl 2 rfl) ?_
      obtain ⟨g14, h⟩ := ixE h
      refine r_ald C hw 19 0 (XWa_19 cI cZ a u0) rfl g14 dX3_fact_98 ?_
      exact r_iretP hQ h hw dX3_fact_99
    have h := itF c13 h
    by_cases c15 : x3 = 5
    · have h := itT c15 h
      refine r_tabIn (k := 5) (tgt := 100) C c15 dX3_fact_11 (by decide) (by decide) rfl (by decide) ?_
      refine lv_aload_n hx hb dX3_fact_100 rfl (lv_at hl 0 rfl) ?_
      refine r_get C hw hiX3_fact_X3 4 (XWa_4 cI cZ a u0) rfl 7 (by decide) (by decide +kernel) rfl dX3_fact_101 ?_
      refine lv_iload_n hx hb dX3_fact_104 rfl (lv_at hl 2 rfl) ?_
      obtain ⟨g16, h⟩ := ixE h
      refine r_ald C hw 20 0 (XWa_20 cI cZ a u0) rfl g16 dX3_fact_105 ?_
      exact r_iretP hQ h hw dX3_fact_106
    have h := itF c15 h
    by_cases c17 : x3 = 6
    · have h := itT c17 h
      refine r_tabIn (k := 6) (tgt := 107) C c17 dX3_fact_11 (by decide) (by decide) rfl (by decide) ?_
      refine lv_aload_n hx hb dX3_fact_107 rfl (lv_at hl 0 rfl) ?_
      refine r_get C hw hiX3_fact_X3 4 (XWa_4 cI cZ a u0) rfl 8 (by decide) (by decide +kernel) rfl dX3_fact_108 ?_
      refine lv_iload_n hx hb dX3_fact_111 rfl (lv_at hl 2 rfl) ?_
      obtain ⟨r19, h18, h⟩ := b1E h
      refine r_callV (rest := []) C hw (c_X1_length l D cI cZ z base a x2 u0 r19 h18) (cwV 1 C.1.2.2.2.2 gX3_fact_X1_length rfl rfl rfl (by decide +kernel) ⟨Nat.le_of_ble_eq_true rfl, Nat.le_of_ble_eq_true rfl⟩) (va_recv C.2.1 hw.1 (ci := 1) (q0 := 5) rfl (XWa_5 cI cZ a u0)) rfl hl.1 rfl (Nat.le_of_ble_eq_true rfl) dX3_fact_112 ⟨Nat.zero_le _, Nat.zero_le _⟩ (fun H locs hw => ?_)
      exact r_iretP hQ h hw dX3_fact_115
    have h := itF c17 h
    by_cases c20 : x3 = 7
    · have h := itT c20 h
      refine r_tabIn (k := 7) (tgt := 116) C c20 dX3_fact_11 (by decide) (by decide) rfl (by decide) ?_
      refine lv_aload_n hx hb dX3_fact_116 rfl (lv_at hl 0 rfl) ?_
      refine r_get C hw hiX3_fact_X3 4 (XWa_4 cI cZ a u0) rfl 8 (by decide) (by decide +kernel) rfl dX3_fact_117 ?_
      refine lv_iload_n hx hb dX3_fact_120 rfl (lv_at hl 2 rfl) ?_
      obtain ⟨r22, h21, h⟩ := b1E h
      refine r_callV (rest := []) C hw (c_X1_size l D cI cZ z base a x2 u0 r22 h21) (cwV 1 C.1.2.2.2.2 gX3_fact_X1_size rfl rfl rfl (by decide +kernel) ⟨Nat.le_of_ble_eq_true rfl, Nat.le_of_ble_eq_true rfl⟩) (va_recv C.2.1 hw.1 (ci := 1) (q0 := 5) rfl (XWa_5 cI cZ a u0)) rfl hl.1 rfl (Nat.le_of_ble_eq_true rfl) dX3_fact_121 ⟨Nat.zero_le _, Nat.zero_le _⟩ (fun H locs hw => ?_)
      exact r_iretP hQ h hw dX3_fact_124
    have h := itF c20 h
    by_cases c23 : x3 = 8
    · have h := itT c23 h
      refine r_tabIn (k := 8) (tgt := 125) C c23 dX3_fact_11 (by decide) (by decide) rfl (by decide) ?_
      refine lv_aload_n hx hb dX3_fact_125 rfl (lv_at hl 0 rfl) ?_
      refine r_get C hw hiX3_fact_X3 4 (XWa_4 cI cZ a u0) rfl 8 (by decide) (by decide +kernel) rfl dX3_fact_126 ?_
      refine lv_aload_n hx hb dX3_fact_129 rfl (lv_at hl 1 rfl) ?_
      refine lv_iload_n hx hb dX3_fact_130 rfl (lv_at hl 2 rfl) ?_
      refine lv_iload hx hb dX3_fact_131 (lv_at hl 4 rfl) ?_
      obtain ⟨r25, h24, h⟩ := b1E h
      refine r_callV (rest := []) C hw (c_X1_placeOf l D cI cZ z base a x2 x4 u0 r25 h24) (cwV 3 C.1.2.2.2.2 gX3_fact_X1_placeOf rfl rfl rfl (by decide +kernel) ⟨Nat.le_of_ble_eq_true rfl, Nat.le_of_ble_eq_true rfl⟩) (va_recv C.2.1 hw.1 (ci := 1) (q0 := 5) rfl (XWa_5 cI cZ a u0)) rfl hl.1 rfl (Nat.le_of_ble_eq_true rfl) dX3_fact_133 ⟨Nat.zero_le _, Nat.zero_le _⟩ (fun H locs hw => ?_)
      exact r_iretP hQ h hw dX3_fact_136
    have h := itF c23 h
    by_cases c26 : x3 = 9
    · have h := itT c26 h
      refine r_tabIn (k := 9) (tgt := 137) C c26 dX3_fact_11 (by decide) (by decide) rfl (by decide) ?_
      refine lv_aload_n hx hb dX3_fact_137 rfl (lv_at hl 0 rfl) ?_
      refine r_get C hw hiX3_fact_X3 4 (XWa_4 cI cZ a u0) rfl 9 (by decide) (by decide +kernel) rfl dX3_fact_138 ?_
      refine lv_iload_n hx hb dX3_fact_141 rfl (lv_at hl 2 rfl) ?_
      obtain ⟨r28, h27, h⟩ := b1E h
      refine r_callV (rest := []) C hw (c_X2_size l D cI cZ z base a x2 u0 r28 h27) (cwV 1 C.1.2.2.2.2 gX3_fact_X2_size rfl rfl rfl (by decide +kernel) ⟨Nat.le_of_ble_eq_true rfl, Nat.le_of_ble_eq_true rfl⟩) (va_recv C.2.1 hw.1 (ci := 2) (q0 := 6) rfl (XWa_6 cI cZ a u0)) rfl hl.1 rfl (Nat.le_of_ble_eq_true rfl) dX3_fact_142 ⟨Nat.zero_le _, Nat.zero_le _⟩ (fun H locs hw => ?_)
      exact r_iretP hQ h hw dX3_fact_145
    have h := itF c26 h
    refine lv_tableOut (tgt := 146) hx hb dX3_fact_11 (by have := lv_neT (a := 0) c4 rfl; have := lv_neT (a := 1) c6 rfl; have := lv_neT (a := 2) c8 rfl; have := lv_neT (a := 3) c11 rfl; have := lv_neT (a := 4) c13 rfl; have := lv_neT (a := 5) c15 rfl; have := lv_neT (a := 6) c17 rfl; have := lv_neT (a := 7) c20 rfl; have := lv_neT (a := 8) c23 rfl; have := lv_neT (a := 9) c26 rfl; omega) (by decide) ?_
    refine lv_iconst (v := (-1)) hx hb dX3_fact_146 (by decide) ?_
    exact r_iretP hQ h hw dX3_fact_147
  · have h := itT c3 h
    refine lv_iconst (v := (-1)) hx hb dX3_fact_8 (by decide) ?_
    exact r_iretP hQ h hw dX3_fact_9
abbrev rmX7_method : Room := { frames := 4, cells := 0, slots := 0, locals := 89 }
theorem hiX7_method_X7 : ∀ w ∈ wsX70, w ∈ wsX7_method := by decide +kernel
set_option maxHeartbeats 4000000 in
set_option maxRecDepth 100000 in
theorem c_X7_method (l : Launch) (D : va_G) (cI cZ : ClassId) (z : Nat → Nat) (base : Nat) (a : Nat → Nat) (x1 : Int32) (x2 : Int32) (x3 : Int32) (u0 : St) (ro : Int32) (h : F_X7_method x1 x2 x3 u0 = some ro) : MI l D [(cI, .int), (cZ, .boolean)] z base yX7_method wsX7_method rmX7_method [.ref (a 0), .int x1, .int x2, .int x3] (XW cI cZ a u0) ro (XW cI cZ a u0) := by
  refine MI.ofI (own := RX7) (cc := cX7_method) (maxL := 4) (by decide) rfl rfl (Nat.le_of_ble_eq_true rfl) ?_
  intro p e s m args below meth c A Q ls C hl hw hQ
  have hx := C.1.1
  have hb := C.1.2.1
  have hl : lv_has ls 4 [(0, .ref (a 0)), (1, .int x1), (2, .int x2), (3, .int x3)] := hl
  rw [F_X7_method] at h
  refine lv_aload_n hx hb dX7_method_0 rfl (lv_at hl 0 rfl) ?_
  refine r_get C hw hiX7_method_X7 0 (XWa_0 cI cZ a u0) rfl 3 (by decide) (by decide +kernel) rfl dX7_method_1 ?_
  refine lv_aload_n hx hb dX7_method_4 rfl (lv_at hl 0 rfl) ?_
  refine r_get C hw hiX7_method_X7 0 (XWa_0 cI cZ a u0) rfl 1 (by decide) (by decide +kernel) rfl dX7_method_5 ?_
  refine lv_iload_n hx hb dX7_method_8 rfl (lv_at hl 1 rfl) ?_
  refine lv_iload_n hx hb dX7_method_9 rfl (lv_at hl 2 rfl) ?_
  refine lv_iload_n hx hb dX7_method_10 rfl (lv_at hl 3 rfl) ?_
  obtain ⟨r2, h1, h⟩ := b1E h
  refine r_callV (rest := []) C hw (c_X3_fact l D cI cZ z base a x1 x2 x3 u0 r2 h1) (cwV 4 C.1.2.2.2.2 gX7_method_X3_fact rfl rfl rfl (by decide +kernel) ⟨Nat.le_of_ble_eq_true rfl, Nat.le_of_ble_eq_true rfl⟩) (va_recv C.2.1 hw.1 (ci := 3) (q0 := 4) rfl (XWa_4 cI cZ a u0)) rfl hl.1 rfl (Nat.le_of_ble_eq_true rfl) dX7_method_11 ⟨Nat.zero_le _, Nat.zero_le _⟩ (fun H locs hw => ?_)
  exact r_iretP hQ h hw dX7_method_14
abbrev rmX2_fact : Room := { frames := 2, cells := 0, slots := 0, locals := 46 }
theorem hiX2_fact_X2 : ∀ w ∈ wsX20, w ∈ wsX2_fact := by decide +kernel
set_option maxHeartbeats 4000000 in
set_option maxRecDepth 100000 in
theorem c_X2_fact (l : Launch) (D : va_G) (cI cZ : ClassId) (z : Nat → Nat) (base : Nat) (a : Nat → Nat) (x2 : Int32) (x3 : Int32) (x4 : Int32) (u0 : St) (ro : Int32) (h : F_X2_fact x2 x3 x4 u0 = some ro) : MI l D [(cI, .int), (cZ, .boolean)] z base yX2_fact wsX2_fact rmX2_fact [.ref (a 6), .ref (a 2), .int x2, .int x3, .int x4] (XW cI cZ a u0) ro (XW cI cZ a u0) := by
  refine MI.ofI (own := RX2) (cc := cX2_fact) (maxL := 6) (by decide) rfl rfl (Nat.le_of_ble_eq_true rfl) ?_
  intro p e s m args below meth c A Q ls C hl hw hQ
  have hx := C.1.1
  have hb := C.1.2.1
  have hl : lv_has ls 6 [(0, .ref (a 6)), (1, .ref (a 2)), (2, .int x2), (3, .int x3), (4, .int x4)] := hl
  rw [F_X2_fact] at h
  refine lv_iload_n hx hb dX2_fact_0 rfl (lv_at hl 3 rfl) ?_
  refine lv_if_lt (tgt := 13) hx hb dX2_fact_1 (by decide) (fun c1 => ?_) (fun c1 => ?_)
  · have h := itT c1 h
    refine lv_iconst (v := (-1)) hx hb dX2_fact_13 (by decide) ?_
    exact r_iretP hQ h hw dX2_fact_14
  · have h := itF c1 h
    refine lv_iload_n hx hb dX2_fact_4 rfl (lv_at hl 3 rfl) ?_
    refine lv_aload_n hx hb dX2_fact_5 rfl (lv_at hl 0 rfl) ?_
    refine lv_iload_n hx hb dX2_fact_6 rfl (lv_at hl 2 rfl) ?_
    obtain ⟨r3, h2, h⟩ := b1E h
    refine r_callV (rest := [.int x3]) C hw (c_X2_size l D cI cZ z base a x2 u0 r3 h2) (cwV 1 C.1.2.2.2.2 gX2_fact_X2_size rfl rfl rfl (by decide +kernel) ⟨Nat.le_of_ble_eq_true rfl, Nat.le_of_ble_eq_true rfl⟩) (va_recv C.2.1 hw.1 (ci := 2) (q0 := 6) rfl (XWa_6 cI cZ a u0)) rfl hl.1 rfl (Nat.le_of_ble_eq_true rfl) dX2_fact_7 ⟨Nat.zero_le _, Nat.zero_le _⟩ (fun H locs hw => ?_)
    refine lv_icmp_lt (tgt := 15) hx hb dX2_fact_10 (by decide) (fun c4 => ?_) (fun c4 => ?_)
    · have h := itT c4 h
      refine lv_aload_n hx hb dX2_fact_15 rfl (lv_at hl 0 rfl) ?_
      refine r_get C hw hiX2_fact_X2 6 (XWa_6 cI cZ a u0) rfl 0 (by decide) (by decide +kernel) rfl dX2_fact_16 ?_
      refine lv_iload_n hx hb dX2_fact_19 rfl (lv_at hl 2 rfl) ?_
      obtain ⟨g5, h⟩ := ixE h
      refine r_ald C hw 25 0 (XWa_25 cI cZ a u0) rfl g5 dX2_fact_20 ?_
      refine lv_iload_n hx hb dX2_fact_21 rfl (lv_at hl 3 rfl) ?_
      refine lv_bipush (v := 7) hx hb dX2_fact_22 (by decide) ?_
      refine lv_imul hx hb dX2_fact_24 ?_
      refine lv_iadd hx hb dX2_fact_25 ?_
      refine lv_topi (fun v6 ev6 => ?_)
      have h := nmE ev6 h
      refine lv_istore (lv' := [(5, .int v6), (0, .ref (a 6)), (1, .ref (a 2)), (2, .int x2), (3, .int x3), (4, .int x4)]) hx hb dX2_fact_26 hl (by decide) rfl (fun ls hl => ?_)
      refine lv_iload hx hb dX2_fact_28 (lv_at hl 5 rfl) ?_
      by_cases c7 : x4 = 0
      · have h := itT c7 h
        refine r_tabIn (k := 0) (tgt := 60) C c7 dX2_fact_30 (by decide) (by decide) rfl (by decide) ?_
        refine lv_aload_n hx hb dX2_fact_60 rfl (lv_at hl 2 rfl) ?_
        refine lv_iload hx hb dX2_fact_61 (lv_at hl 0 rfl) ?_
        refine lv_iconst (v := 2) hx hb dX2_fact_63 (by decide) ?_
        obtain ⟨r9, h8, h⟩ := b1E h
        refine r_callV (rest := []) C hw (c_X5_valueAt l D cI cZ z base a v6 2 u0 r9 h8) (cwV 2 C.1.2.2.2.2 gX2_fact_X5_valueAt rfl rfl rfl (by decide +kernel) ⟨Nat.le_of_ble_eq_true rfl, Nat.le_of_ble_eq_true rfl⟩) (va_recv C.2.1 hw.1 (ci := 4) (q0 := 2) rfl (XWa_2 cI cZ a u0)) rfl hl.1 rfl (Nat.le_of_ble_eq_true rfl) dX2_fact_64 ⟨Nat.zero_le _, Nat.zero_le _⟩ (fun H locs hw => ?_)
        exact r_iretP hQ h hw dX2_fact_67
      have h := itF c7 h
      by_cases c10 : x4 = 1
      · have h := itT c10 h
        refine r_tabIn (k := 1) (tgt := 68) C c10 dX2_fact_30 (by decide) (by decide) rfl (by decide) ?_
        refine lv_aload_n hx hb dX2_fact_68 rfl (lv_at hl 2 rfl) ?_
        refine lv_iload hx hb dX2_fact_69 (lv_at hl 0 rfl) ?_
        refine lv_iconst (v := 2) hx hb dX2_fact_71 (by decide) ?_
        refine lv_iadd hx hb dX2_fact_72 ?_
        refine lv_iconst (v := 2) hx hb dX2_fact_73 (by decide) ?_
        obtain ⟨r12, h11, h⟩ := b1E h
        refine r_callV (rest := []) C hw (c_X5_valueAt l D cI cZ z base a (v6 + 2) 2 u0 r12 h11) (cwV 2 C.1.2.2.2.2 gX2_fact_X5_valueAt rfl rfl rfl (by decide +kernel) ⟨Nat.le_of_ble_eq_true rfl, Nat.le_of_ble_eq_true rfl⟩) (va_recv C.2.1 hw.1 (ci := 4) (q0 := 2) rfl (XWa_2 cI cZ a u0)) rfl hl.1 rfl (Nat.le_of_ble_eq_true rfl) dX2_fact_74 ⟨Nat.zero_le _, Nat.zero_le _⟩ (fun H locs hw => ?_)
        exact r_iretP hQ h hw dX2_fact_77
      have h := itF c10 h
      by_cases c13 : x4 = 2
      · have h := itT c13 h
        refine r_tabIn (k := 2) (tgt := 78) C c13 dX2_fact_30 (by decide) (by decide) rfl (by decide) ?_
        refine lv_aload_n hx hb dX2_fact_78 rfl (lv_at hl 2 rfl) ?_
        refine lv_iload hx hb dX2_fact_79 (lv_at hl 0 rfl) ?_
        refine lv_iconst (v := 4) hx hb dX2_fact_81 (by decide) ?_
        refine lv_iadd hx hb dX2_fact_82 ?_
        obtain ⟨r15, h14, h⟩ := b1E h
        refine r_callV (rest := []) C hw (c_X5_byteAt l D cI cZ z base a (v6 + 4) u0 r15 h14) (cwV 1 C.1.2.2.2.2 gX2_fact_X5_byteAt rfl rfl rfl (by decide +kernel) ⟨Nat.le_of_ble_eq_true rfl, Nat.le_of_ble_eq_true rfl⟩) (va_recv C.2.1 hw.1 (ci := 4) (q0 := 2) rfl (XWa_2 cI cZ a u0)) rfl hl.1 rfl (Nat.le_of_ble_eq_true rfl) dX2_fact_83 ⟨Nat.zero_le _, Nat.zero_le _⟩ (fun H locs hw => ?_)
        exact r_iretP hQ h hw dX2_fact_86
      have h := itF c13 h
      by_cases c16 : x4 = 3
      · have h := itT c16 h
        refine r_tabIn (k := 3) (tgt := 87) C c16 dX2_fact_30 (by decide) (by decide) rfl (by decide) ?_
        refine lv_aload_n hx hb dX2_fact_87 rfl (lv_at hl 2 rfl) ?_
        refine lv_iload hx hb dX2_fact_88 (lv_at hl 0 rfl) ?_
        refine lv_iconst (v := 5) hx hb dX2_fact_90 (by decide) ?_
        refine lv_iadd hx hb dX2_fact_91 ?_
        refine lv_iconst (v := 2) hx hb dX2_fact_92 (by decide) ?_
        obtain ⟨r18, h17, h⟩ := b1E h
        refine r_callV (rest := []) C hw (c_X5_valueAt l D cI cZ z base a (v6 + 5) 2 u0 r18 h17) (cwV 2 C.1.2.2.2.2 gX2_fact_X5_valueAt rfl rfl rfl (by decide +kernel) ⟨Nat.le_of_ble_eq_true rfl, Nat.le_of_ble_eq_true rfl⟩) (va_recv C.2.1 hw.1 (ci := 4) (q0 := 2) rfl (XWa_2 cI cZ a u0)) rfl hl.1 rfl (Nat.le_of_ble_eq_true rfl) dX2_fact_93 ⟨Nat.zero_le _, Nat.zero_le _⟩ (fun H locs hw => ?_)
        exact r_iretP hQ h hw dX2_fact_96
      have h := itF c16 h
      refine lv_tableOut (tgt := 97) hx hb dX2_fact_30 (by have := lv_neT (a := 0) c7 rfl; have := lv_neT (a := 1) c10 rfl; have := lv_neT (a := 2) c13 rfl; have := lv_neT (a := 3) c16 rfl; omega) (by decide) ?_
      refine lv_iconst (v := (-1)) hx hb dX2_fact_97 (by decide) ?_
      exact r_iretP hQ h hw dX2_fact_98
    · have h := itF c4 h
      refine lv_iconst (v := (-1)) hx hb dX2_fact_13 (by decide) ?_
      exact r_iretP hQ h hw dX2_fact_14
abbrev rmX3_handlerFact : Room := { frames := 3, cells := 0, slots := 0, locals := 71 }
theorem hiX3_handlerFact_X3 : ∀ w ∈ wsX30, w ∈ wsX3_handlerFact := by decide +kernel
set_option maxHeartbeats 4000000 in
set_option maxRecDepth 100000 in
theorem c_X3_handlerFact (l : Launch) (D : va_G) (cI cZ : ClassId) (z : Nat → Nat) (base : Nat) (a : Nat → Nat) (x2 : Int32) (x3 : Int32) (x4 : Int32) (u0 : St) (ro : Int32) (h : F_X3_handlerFact x2 x3 x4 u0 = some ro) : MI l D [(cI, .int), (cZ, .boolean)] z base yX3_handlerFact wsX3_handlerFact rmX3_handlerFact [.ref (a 4), .ref (a 2), .int x2, .int x3, .int x4] (XW cI cZ a u0) ro (XW cI cZ a u0) := by
  refine MI.ofI (own := RX3) (cc := cX3_handlerFact) (maxL := 5) (by decide) rfl rfl (Nat.le_of_ble_eq_true rfl) ?_
  intro p e s m args below meth c A Q ls C hl hw hQ
  have hx := C.1.1
  have hb := C.1.2.1
  have hl : lv_has ls 5 [(0, .ref (a 4)), (1, .ref (a 2)), (2, .int x2), (3, .int x3), (4, .int x4)] := hl
  rw [F_X3_handlerFact] at h
  refine lv_aload_n hx hb dX3_handlerFact_0 rfl (lv_at hl 0 rfl) ?_
  refine lv_iload_n hx hb dX3_handlerFact_1 rfl (lv_at hl 2 rfl) ?_
  obtain ⟨r2, h1, h⟩ := b1E h
  refine r_callV (rest := []) C hw (c_X3_has l D cI cZ z base a x2 u0 r2 h1) (cwV 1 C.1.2.2.2.2 gX3_handlerFact_X3_has rfl rfl rfl (by decide +kernel) ⟨Nat.le_of_ble_eq_true rfl, Nat.le_of_ble_eq_true rfl⟩) (va_recv C.2.1 hw.1 (ci := 3) (q0 := 4) rfl (XWa_4 cI cZ a u0)) rfl hl.1 rfl (Nat.le_of_ble_eq_true rfl) dX3_handlerFact_2 ⟨Nat.zero_le _, Nat.zero_le _⟩ (fun H locs hw => ?_)
  refine lv_if_eq (tgt := 23) hx hb dX3_handlerFact_5 (by decide) (fun c3 => ?_) (fun c3 => ?_)
  · have h := itT c3 h
    refine lv_iconst (v := (-1)) hx hb dX3_handlerFact_23 (by decide) ?_
    exact r_iretP hQ h hw dX3_handlerFact_24
  · have h := itF c3 h
    refine lv_aload_n hx hb dX3_handlerFact_8 rfl (lv_at hl 0 rfl) ?_
    refine r_get C hw hiX3_handlerFact_X3 4 (XWa_4 cI cZ a u0) rfl 9 (by decide) (by decide +kernel) rfl dX3_handlerFact_9 ?_
    refine lv_aload_n hx hb dX3_handlerFact_12 rfl (lv_at hl 1 rfl) ?_
    refine lv_iload_n hx hb dX3_handlerFact_13 rfl (lv_at hl 2 rfl) ?_
    refine lv_iload_n hx hb dX3_handlerFact_14 rfl (lv_at hl 3 rfl) ?_
    refine lv_iload hx hb dX3_handlerFact_15 (lv_at hl 4 rfl) ?_
    obtain ⟨r5, h4, h⟩ := b1E h
    refine r_callV (rest := []) C hw (c_X2_fact l D cI cZ z base a x2 x3 x4 u0 r5 h4) (cwV 4 C.1.2.2.2.2 gX3_handlerFact_X2_fact rfl rfl rfl (by decide +kernel) ⟨Nat.le_of_ble_eq_true rfl, Nat.le_of_ble_eq_true rfl⟩) (va_recv C.2.1 hw.1 (ci := 2) (q0 := 6) rfl (XWa_6 cI cZ a u0)) rfl hl.1 rfl (Nat.le_of_ble_eq_true rfl) dX3_handlerFact_17 ⟨Nat.zero_le _, Nat.zero_le _⟩ (fun H locs hw => ?_)
    refine lv_goto (tgt := 24) hx hb dX3_handlerFact_20 (by decide) ?_
    exact r_iretP hQ h hw dX3_handlerFact_24
abbrev rmX7_handler : Room := { frames := 4, cells := 0, slots := 0, locals := 95 }
theorem hiX7_handler_X7 : ∀ w ∈ wsX70, w ∈ wsX7_handler := by decide +kernel
set_option maxHeartbeats 4000000 in
set_option maxRecDepth 100000 in
theorem c_X7_handler (l : Launch) (D : va_G) (cI cZ : ClassId) (z : Nat → Nat) (base : Nat) (a : Nat → Nat) (x1 : Int32) (x2 : Int32) (x3 : Int32) (u0 : St) (ro : Int32) (h : F_X7_handler x1 x2 x3 u0 = some ro) : MI l D [(cI, .int), (cZ, .boolean)] z base yX7_handler wsX7_handler rmX7_handler [.ref (a 0), .int x1, .int x2, .int x3] (XW cI cZ a u0) ro (XW cI cZ a u0) := by
  refine MI.ofI (own := RX7) (cc := cX7_handler) (maxL := 4) (by decide) rfl rfl (Nat.le_of_ble_eq_true rfl) ?_
  intro p e s m args below meth c A Q ls C hl hw hQ
  have hx := C.1.1
  have hb := C.1.2.1
  have hl : lv_has ls 4 [(0, .ref (a 0)), (1, .int x1), (2, .int x2), (3, .int x3)] := hl
  rw [F_X7_handler] at h
  refine lv_aload_n hx hb dX7_handler_0 rfl (lv_at hl 0 rfl) ?_
  refine r_get C hw hiX7_handler_X7 0 (XWa_0 cI cZ a u0) rfl 3 (by decide) (by decide +kernel) rfl dX7_handler_1 ?_
  refine lv_aload_n hx hb dX7_handler_4 rfl (lv_at hl 0 rfl) ?_
  refine r_get C hw hiX7_handler_X7 0 (XWa_0 cI cZ a u0) rfl 1 (by decide) (by decide +kernel) rfl dX7_handler_5 ?_
  refine lv_iload_n hx hb dX7_handler_8 rfl (lv_at hl 1 rfl) ?_
  refine lv_iload_n hx hb dX7_handler_9 rfl (lv_at hl 2 rfl) ?_
  refine lv_iload_n hx hb dX7_handler_10 rfl (lv_at hl 3 rfl) ?_
  obtain ⟨r2, h1, h⟩ := b1E h
  refine r_callV (rest := []) C hw (c_X3_handlerFact l D cI cZ z base a x1 x2 x3 u0 r2 h1) (cwV 4 C.1.2.2.2.2 gX7_handler_X3_handlerFact rfl rfl rfl (by decide +kernel) ⟨Nat.le_of_ble_eq_true rfl, Nat.le_of_ble_eq_true rfl⟩) (va_recv C.2.1 hw.1 (ci := 3) (q0 := 4) rfl (XWa_4 cI cZ a u0)) rfl hl.1 rfl (Nat.le_of_ble_eq_true rfl) dX7_handler_11 ⟨Nat.zero_le _, Nat.zero_le _⟩ (fun H locs hw => ?_)
  exact r_iretP hQ h hw dX7_handler_14
abbrev rmX1_fact : Room := { frames := 2, cells := 0, slots := 0, locals := 46 }
theorem hiX1_fact_X1 : ∀ w ∈ wsX10, w ∈ wsX1_fact := by decide +kernel
set_option maxHeartbeats 4000000 in
set_option maxRecDepth 100000 in
theorem c_X1_fact (l : Launch) (D : va_G) (cI cZ : ClassId) (z : Nat → Nat) (base : Nat) (a : Nat → Nat) (x2 : Int32) (x3 : Int32) (x4 : Int32) (u0 : St) (ro : Int32) (h : F_X1_fact x2 x3 x4 u0 = some ro) : MI l D [(cI, .int), (cZ, .boolean)] z base yX1_fact wsX1_fact rmX1_fact [.ref (a 5), .ref (a 2), .int x2, .int x3, .int x4] (XW cI cZ a u0) ro (XW cI cZ a u0) := by
  refine MI.ofI (own := RX1) (cc := cX1_fact) (maxL := 8) (by decide) rfl rfl (Nat.le_of_ble_eq_true rfl) ?_
  intro p e s m args below meth c A Q ls C hl hw hQ
  have hx := C.1.1
  have hb := C.1.2.1
  have hl : lv_has ls 8 [(0, .ref (a 5)), (1, .ref (a 2)), (2, .int x2), (3, .int x3), (4, .int x4)] := hl
  rw [F_X1_fact] at h
  refine lv_aload_n hx hb dX1_fact_0 rfl (lv_at hl 0 rfl) ?_
  refine lv_iload_n hx hb dX1_fact_1 rfl (lv_at hl 2 rfl) ?_
  refine lv_iload_n hx hb dX1_fact_2 rfl (lv_at hl 3 rfl) ?_
  obtain ⟨r2, h1, h⟩ := b1E h
  refine r_callV (rest := []) C hw (c_X1_beginsAt l D cI cZ z base a x2 x3 u0 r2 h1) (cwV 2 C.1.2.2.2.2 gX1_fact_X1_beginsAt rfl rfl rfl (by decide +kernel) ⟨Nat.le_of_ble_eq_true rfl, Nat.le_of_ble_eq_true rfl⟩) (va_recv C.2.1 hw.1 (ci := 1) (q0 := 5) rfl (XWa_5 cI cZ a u0)) rfl hl.1 rfl (Nat.le_of_ble_eq_true rfl) dX1_fact_3 ⟨Nat.zero_le _, Nat.zero_le _⟩ (fun H locs hw => ?_)
  refine lv_if_ne (tgt := 11) hx hb dX1_fact_6 (by decide) (fun c3 => ?_) (fun c3 => ?_)
  · have h := itF c3 h
    refine lv_aload_n hx hb dX1_fact_11 rfl (lv_at hl 0 rfl) ?_
    refine r_get C hw hiX1_fact_X1 5 (XWa_5 cI cZ a u0) rfl 1 (by decide) (by decide +kernel) rfl dX1_fact_12 ?_
    refine lv_iload_n hx hb dX1_fact_15 rfl (lv_at hl 2 rfl) ?_
    obtain ⟨g4, h⟩ := ixE h
    refine r_ald C hw 21 0 (XWa_21 cI cZ a u0) rfl g4 dX1_fact_16 ?_
    refine lv_iload_n hx hb dX1_fact_17 rfl (lv_at hl 3 rfl) ?_
    refine lv_iadd hx hb dX1_fact_18 ?_
    refine lv_topi (fun v5 ev5 => ?_)
    have h := nmE ev5 h
    refine lv_istore (lv' := [(5, .int v5), (0, .ref (a 5)), (1, .ref (a 2)), (2, .int x2), (3, .int x3), (4, .int x4)]) hx hb dX1_fact_19 hl (by decide) rfl (fun ls hl => ?_)
    refine lv_aload_n hx hb dX1_fact_21 rfl (lv_at hl 2 rfl) ?_
    refine lv_iload hx hb dX1_fact_22 (lv_at hl 0 rfl) ?_
    obtain ⟨r7, h6, h⟩ := b1E h
    refine r_callV (rest := []) C hw (c_X5_byteAt l D cI cZ z base a v5 u0 r7 h6) (cwV 1 C.1.2.2.2.2 gX1_fact_X5_byteAt rfl rfl rfl (by decide +kernel) ⟨Nat.le_of_ble_eq_true rfl, Nat.le_of_ble_eq_true rfl⟩) (va_recv C.2.1 hw.1 (ci := 4) (q0 := 2) rfl (XWa_2 cI cZ a u0)) rfl hl.1 rfl (Nat.le_of_ble_eq_true rfl) dX1_fact_24 ⟨Nat.zero_le _, Nat.zero_le _⟩ (fun H locs hw => ?_)
    refine lv_istore (lv' := [(6, .int r7), (5, .int v5), (0, .ref (a 5)), (1, .ref (a 2)), (2, .int x2), (3, .int x3), (4, .int x4)]) hx hb dX1_fact_27 hl (by decide) rfl (fun ls hl => ?_)
    refine lv_iload hx hb dX1_fact_29 (lv_at hl 0 rfl) ?_
    obtain ⟨r9, h8, h⟩ := b1E h
    refine r_callS (rest := []) C hw (c_X4_first l D cI cZ z base a r7 u0 r9 h8) (va_cwS 1 C.1.2.2.2.2 gX1_fact_X4_first rfl rfl rfl (by decide +kernel) ⟨Nat.le_of_ble_eq_true rfl, Nat.le_of_ble_eq_true rfl⟩) rfl hl.1 rfl (Nat.le_of_ble_eq_true rfl) dX1_fact_31 ⟨Nat.zero_le _, Nat.zero_le _⟩ (fun H locs hw => ?_)
    obtain ⟨r11, h10, h⟩ := b1E h
    refine r_callS (rest := []) C hw (c_X4_width l D cI cZ z base a r9 u0 r11 h10) (va_cwS 1 C.1.2.2.2.2 gX1_fact_X4_width rfl rfl rfl (by decide +kernel) ⟨Nat.le_of_ble_eq_true rfl, Nat.le_of_ble_eq_true rfl⟩) rfl hl.1 rfl (Nat.le_of_ble_eq_true rfl) dX1_fact_34 ⟨Nat.zero_le _, Nat.zero_le _⟩ (fun H locs hw => ?_)
    refine lv_istore (lv' := [(7, .int r11), (6, .int r7), (5, .int v5), (0, .ref (a 5)), (1, .ref (a 2)), (2, .int x2), (3, .int x3), (4, .int x4)]) hx hb dX1_fact_37 hl (by decide) rfl (fun ls hl => ?_)
    refine lv_iload hx hb dX1_fact_39 (lv_at hl 7 rfl) ?_
    by_cases c12 : x4 = 0
    · have h := itT c12 h
      refine r_tabIn (k := 0) (tgt := 72) C c12 dX1_fact_41 (by decide) (by decide) rfl (by decide) ?_
      refine lv_iload hx hb dX1_fact_72 (lv_at hl 1 rfl) ?_
      exact r_iretP hQ h hw dX1_fact_74
    have h := itF c12 h
    by_cases c13 : x4 = 1
    · have h := itT c13 h
      refine r_tabIn (k := 1) (tgt := 75) C c13 dX1_fact_41 (by decide) (by decide) rfl (by decide) ?_
      refine lv_aload_n hx hb dX1_fact_75 rfl (lv_at hl 4 rfl) ?_
      refine lv_iload hx hb dX1_fact_76 (lv_at hl 2 rfl) ?_
      refine lv_iconst (v := 1) hx hb dX1_fact_78 (by decide) ?_
      refine lv_iadd hx hb dX1_fact_79 ?_
      refine lv_iload hx hb dX1_fact_80 (lv_at hl 0 rfl) ?_
      obtain ⟨r15, h14, h⟩ := b1E h
      refine r_callV (rest := []) C hw (c_X5_valueAt l D cI cZ z base a (v5 + 1) r11 u0 r15 h14) (cwV 2 C.1.2.2.2.2 gX1_fact_X5_valueAt rfl rfl rfl (by decide +kernel) ⟨Nat.le_of_ble_eq_true rfl, Nat.le_of_ble_eq_true rfl⟩) (va_recv C.2.1 hw.1 (ci := 4) (q0 := 2) rfl (XWa_2 cI cZ a u0)) rfl hl.1 rfl (Nat.le_of_ble_eq_true rfl) dX1_fact_82 ⟨Nat.zero_le _, Nat.zero_le _⟩ (fun H locs hw => ?_)
      exact r_iretP hQ h hw dX1_fact_85
    have h := itF c13 h
    by_cases c16 : x4 = 2
    · have h := itT c16 h
      refine r_tabIn (k := 2) (tgt := 86) C c16 dX1_fact_41 (by decide) (by decide) rfl (by decide) ?_
      refine lv_aload_n hx hb dX1_fact_86 rfl (lv_at hl 4 rfl) ?_
      refine lv_iload hx hb dX1_fact_87 (lv_at hl 2 rfl) ?_
      refine lv_iconst (v := 1) hx hb dX1_fact_89 (by decide) ?_
      refine lv_iadd hx hb dX1_fact_90 ?_
      refine lv_iload hx hb dX1_fact_91 (lv_at hl 0 rfl) ?_
      refine lv_iadd hx hb dX1_fact_93 ?_
      refine lv_iload hx hb dX1_fact_94 (lv_at hl 1 rfl) ?_
      obtain ⟨r18, h17, h⟩ := b1E h
      refine r_callS (rest := [.int ((v5 + 1) + r11), .ref (a 2)]) C hw (c_X4_second l D cI cZ z base a r7 u0 r18 h17) (va_cwS 1 C.1.2.2.2.2 gX1_fact_X4_second rfl rfl rfl (by decide +kernel) ⟨Nat.le_of_ble_eq_true rfl, Nat.le_of_ble_eq_true rfl⟩) rfl hl.1 rfl (Nat.le_of_ble_eq_true rfl) dX1_fact_96 ⟨Nat.zero_le _, Nat.zero_le _⟩ (fun H locs hw => ?_)
      obtain ⟨r20, h19, h⟩ := b1E h
      refine r_callS (rest := [.int ((v5 + 1) + r11), .ref (a 2)]) C hw (c_X4_width l D cI cZ z base a r18 u0 r20 h19) (va_cwS 1 C.1.2.2.2.2 gX1_fact_X4_width rfl rfl rfl (by decide +kernel) ⟨Nat.le_of_ble_eq_true rfl, Nat.le_of_ble_eq_true rfl⟩) rfl hl.1 rfl (Nat.le_of_ble_eq_true rfl) dX1_fact_99 ⟨Nat.zero_le _, Nat.zero_le _⟩ (fun H locs hw => ?_)
      obtain ⟨r22, h21, h⟩ := b1E h
      refine r_callV (rest := []) C hw (c_X5_valueAt l D cI cZ z base a ((v5 + 1) + r11) r20 u0 r22 h21) (cwV 2 C.1.2.2.2.2 gX1_fact_X5_valueAt rfl rfl rfl (by decide +kernel) ⟨Nat.le_of_ble_eq_true rfl, Nat.le_of_ble_eq_true rfl⟩) (va_recv C.2.1 hw.1 (ci := 4) (q0 := 2) rfl (XWa_2 cI cZ a u0)) rfl hl.1 rfl (Nat.le_of_ble_eq_true rfl) dX1_fact_102 ⟨Nat.zero_le _, Nat.zero_le _⟩ (fun H locs hw => ?_)
      exact r_iretP hQ h hw dX1_fact_105
    have h := itF c16 h
    by_cases c23 : x4 = 3
    · have h := itT c23 h
      refine r_tabIn (k := 3) (tgt := 106) C c23 dX1_fact_41 (by decide) (by decide) rfl (by decide) ?_
      refine lv_iload_n hx hb dX1_fact_106 rfl (lv_at hl 6 rfl) ?_
      refine lv_iload hx hb dX1_fact_107 (lv_at hl 1 rfl) ?_
      obtain ⟨r25, h24, h⟩ := b1E h
      refine r_callS (rest := [.int x3]) C hw (c_X4_length l D cI cZ z base a r7 u0 r25 h24) (va_cwS 1 C.1.2.2.2.2 gX1_fact_X4_length rfl rfl rfl (by decide +kernel) ⟨Nat.le_of_ble_eq_true rfl, Nat.le_of_ble_eq_true rfl⟩) rfl hl.1 rfl (Nat.le_of_ble_eq_true rfl) dX1_fact_109 ⟨Nat.zero_le _, Nat.zero_le _⟩ (fun H locs hw => ?_)
      refine lv_iadd hx hb dX1_fact_112 ?_
      exact r_iretP hQ h hw dX1_fact_113
    have h := itF c23 h
    refine lv_tableOut (tgt := 114) hx hb dX1_fact_41 (by have := lv_neT (a := 0) c12 rfl; have := lv_neT (a := 1) c13 rfl; have := lv_neT (a := 2) c16 rfl; have := lv_neT (a := 3) c23 rfl; omega) (by decide) ?_
    refine lv_iconst (v := (-1)) hx hb dX1_fact_114 (by decide) ?_
    exact r_iretP hQ h hw dX1_fact_115
  · have h := itT c3 h
    refine lv_iconst (v := (-1)) hx hb dX1_fact_9 (by decide) ?_
    exact r_iretP hQ h hw dX1_fact_10
