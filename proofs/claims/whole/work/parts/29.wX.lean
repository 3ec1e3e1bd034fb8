abbrev rmX3_instructionFact : Room := { frames := 3, cells := 0, slots := 0, locals := 73 }
theorem hiX3_instructionFact_X3 : ∀ w ∈ wsX30, w ∈ wsX3_instructionFact := by decide +kernel
set_option maxHeartbeats 4000000 in
set_option maxRecDepth 100000 in
theorem c_X3_instructionFact (l : Launch) (D : va_G) (cI cZ : ClassId) (z : Nat → Nat) (base : Nat) (a : Nat → Nat) (x2 : Int32) (x3 : Int32) (x4 : Int32) (u0 : St) (ro : Int32) (h : F_X3_instructionFact x2 x3 x4 u0 = some ro) : MI l D [(cI, .int), (cZ, .boolean)] z base yX3_instructionFact wsX3_instructionFact rmX3_instructionFact [.ref (a 4), .ref (a 2), .int x2, .int x3, .int x4] (XW cI cZ a u0) ro (XW cI cZ a u0) := by
  refine MI.ofI (own := RX3) (cc := cX3_instructionFact) (maxL := 5) (by decide) rfl rfl (Nat.le_of_ble_eq_true rfl) ?_
  intro p e s m args below meth c A Q ls C hl hw hQ
  have hx := C.1.1
  have hb := C.1.2.1
  have hl : lv_has ls 5 [(0, .ref (a 4)), (1, .ref (a 2)), (2, .int x2), (3, .int x3), (4, .int x4)] := hl
  rw [F_X3_instructionFact] at h
  refine lv_aload_n hx hb dX3_instructionFact_0 rfl (lv_at hl 0 rfl) ?_
  refine lv_iload_n hx hb dX3_instructionFact_1 rfl (lv_at hl 2 rfl) ?_
  obtain ⟨r2, h1, h⟩ := b1E h
  refine r_callV (rest := []) C hw (c_X3_has l D cI cZ z base a x2 u0 r2 h1) (cwV 1 C.1.2.2.2.2 gX3_instructionFact_X3_has rfl rfl rfl (by decide +kernel) ⟨Nat.le_of_ble_eq_true rfl, Nat.le_of_ble_eq_true rfl⟩) (va_recv C.2.1 hw.1 (ci := 3) (q0 := 4) rfl (XWa_4 cI cZ a u0)) rfl hl.1 rfl (Nat.le_of_ble_eq_true rfl) dX3_instructionFact_2 ⟨Nat.zero_le _, Nat.zero_le _⟩ (fun H locs hw => ?_)
  refine lv_if_eq (tgt := 23) hx hb dX3_instructionFact_5 (by decide) (fun c3 => ?_) (fun c3 => ?_)
  · have h := itT c3 h
    refine lv_iconst (v := (-1)) hx hb dX3_instructionFact_23 (by decide) ?_
    exact r_iretP hQ h hw dX3_instructionFact_24
  · have h := itF c3 h
    refine lv_aload_n hx hb dX3_instructionFact_8 rfl (lv_at hl 0 rfl) ?_
    refine r_get C hw hiX3_instructionFact_X3 4 (XWa_4 cI cZ a u0) rfl 8 (by decide) (by decide +kernel) rfl dX3_instructionFact_9 ?_
    refine lv_aload_n hx hb dX3_instructionFact_12 rfl (lv_at hl 1 rfl) ?_
    refine lv_iload_n hx hb dX3_instructionFact_13 rfl (lv_at hl 2 rfl) ?_
    refine lv_iload_n hx hb dX3_instructionFact_14 rfl (lv_at hl 3 rfl) ?_
    refine lv_iload hx hb dX3_instructionFact_15 (lv_at hl 4 rfl) ?_
    obtain ⟨r5, h4, h⟩ := b1E h
    refine r_callV (rest := []) C hw (c_X1_fact l D cI cZ z base a x2 x3 x4 u0 r5 h4) (cwV 4 C.1.2.2.2.2 gX3_instructionFact_X1_fact rfl rfl rfl (by decide +kernel) ⟨Nat.le_of_ble_eq_true rfl, Nat.le_of_ble_eq_true rfl⟩) (va_recv C.2.1 hw.1 (ci := 1) (q0 := 5) rfl (XWa_5 cI cZ a u0)) rfl hl.1 rfl (Nat.le_of_ble_eq_true rfl) dX3_instructionFact_17 ⟨Nat.zero_le _, Nat.zero_le _⟩ (fun H locs hw => ?_)
    refine lv_goto (tgt := 24) hx hb dX3_instructionFact_20 (by decide) ?_
    exact r_iretP hQ h hw dX3_instructionFact_24
abbrev rmX7_instruction : Room := { frames := 4, cells := 0, slots := 0, locals := 97 }
theorem hiX7_instruction_X7 : ∀ w ∈ wsX70, w ∈ wsX7_instruction := by decide +kernel
set_option maxHeartbeats 4000000 in
set_option maxRecDepth 100000 in
theorem c_X7_instruction (l : Launch) (D : va_G) (cI cZ : ClassId) (z : Nat → Nat) (base : Nat) (a : Nat → Nat) (x1 : Int32) (x2 : Int32) (x3 : Int32) (u0 : St) (ro : Int32) (h : F_X7_instruction x1 x2 x3 u0 = some ro) : MI l D [(cI, .int), (cZ, .boolean)] z base yX7_instruction wsX7_instruction rmX7_instruction [.ref (a 0), .int x1, .int x2, .int x3] (XW cI cZ a u0) ro (XW cI cZ a u0) := by
  refine MI.ofI (own := RX7) (cc := cX7_instruction) (maxL := 4) (by decide) rfl rfl (Nat.le_of_ble_eq_true rfl) ?_
  intro p e s m args below meth c A Q ls C hl hw hQ
  have hx := C.1.1
  have hb := C.1.2.1
  have hl : lv_has ls 4 [(0, .ref (a 0)), (1, .int x1), (2, .int x2), (3, .int x3)] := hl
  rw [F_X7_instruction] at h
  refine lv_aload_n hx hb dX7_instruction_0 rfl (lv_at hl 0 rfl) ?_
  refine r_get C hw hiX7_instruction_X7 0 (XWa_0 cI cZ a u0) rfl 3 (by decide) (by decide +kernel) rfl dX7_instruction_1 ?_
  refine lv_aload_n hx hb dX7_instruction_4 rfl (lv_at hl 0 rfl) ?_
  refine r_get C hw hiX7_instruction_X7 0 (XWa_0 cI cZ a u0) rfl 1 (by decide) (by decide +kernel) rfl dX7_instruction_5 ?_
  refine lv_iload_n hx hb dX7_instruction_8 rfl (lv_at hl 1 rfl) ?_
  refine lv_iload_n hx hb dX7_instruction_9 rfl (lv_at hl 2 rfl) ?_
  refine lv_iload_n hx hb dX7_instruction_10 rfl (lv_at hl 3 rfl) ?_
  obtain ⟨r2, h1, h⟩ := b1E h
  refine r_callV (rest := []) C hw (c_X3_instructionFact l D cI cZ z base a x1 x2 x3 u0 r2 h1) (cwV 4 C.1.2.2.2.2 gX7_instruction_X3_instructionFact rfl rfl rfl (by decide +kernel) ⟨Nat.le_of_ble_eq_true rfl, Nat.le_of_ble_eq_true rfl⟩) (va_recv C.2.1 hw.1 (ci := 3) (q0 := 4) rfl (XWa_4 cI cZ a u0)) rfl hl.1 rfl (Nat.le_of_ble_eq_true rfl) dX7_instruction_11 ⟨Nat.zero_le _, Nat.zero_le _⟩ (fun H locs hw => ?_)
  exact r_iretP hQ h hw dX7_instruction_14
abbrev rmX0_fault : Room := { frames := 0, cells := 0, slots := 0, locals := 0 }
theorem hiX0_fault_X0 : ∀ w ∈ wsX00, w ∈ wsX0_fault := by decide +kernel
set_option maxHeartbeats 4000000 in
set_option maxRecDepth 100000 in
theorem c_X0_fault (l : Launch) (D : va_G) (cI cZ : ClassId) (z : Nat → Nat) (base : Nat) (a : Nat → Nat) (x1 : Int32) (u0 : St) (ro : Int32) (h : F_X0_fault x1 u0 = some ro) : MI l D [(cI, .int), (cZ, .boolean)] z base yX0_fault wsX0_fault rmX0_fault [.ref (a 3), .int x1] (XW cI cZ a u0) ro (XW cI cZ a u0) := by
  refine MI.ofI (own := RX0) (cc := cX0_fault) (maxL := 2) (by decide) rfl rfl (Nat.le_of_ble_eq_true rfl) ?_
  intro p e s m args below meth c A Q ls C hl hw hQ
  have hx := C.1.1
  have hb := C.1.2.1
  have hl : lv_has ls 2 [(0, .ref (a 3)), (1, .int x1)] := hl
  rw [F_X0_fault] at h
  refine lv_aload_n hx hb dX0_fault_0 rfl (lv_at hl 0 rfl) ?_
  refine r_get C hw hiX0_fault_X0 3 (XWa_3 cI cZ a u0) rfl 0 (by decide) (by decide +kernel) rfl dX0_fault_1 ?_
  refine lv_if_le (tgt := 25) hx hb dX0_fault_4 (by decide) (fun c1 => ?_) (fun c1 => ?_)
  · have h := itT c1 h
    refine lv_iconst (v := (-1)) hx hb dX0_fault_25 (by decide) ?_
    exact r_iretP hQ h hw dX0_fault_26
  · have h := itF c1 h
    refine lv_iload_n hx hb dX0_fault_7 rfl (lv_at hl 1 rfl) ?_
    refine lv_if_lt (tgt := 25) hx hb dX0_fault_8 (by decide) (fun c2 => ?_) (fun c2 => ?_)
    · have h := itT c2 h
      refine lv_iconst (v := (-1)) hx hb dX0_fault_25 (by decide) ?_
      exact r_iretP hQ h hw dX0_fault_26
    · have h := itF c2 h
      refine lv_iload_n hx hb dX0_fault_11 rfl (lv_at hl 1 rfl) ?_
      refine lv_iconst (v := 5) hx hb dX0_fault_12 (by decide) ?_
      refine lv_icmp_ge (tgt := 25) hx hb dX0_fault_13 (by decide) (fun c3 => ?_) (fun c3 => ?_)
      · have h := itT c3 h
        refine lv_iconst (v := (-1)) hx hb dX0_fault_25 (by decide) ?_
        exact r_iretP hQ h hw dX0_fault_26
      · have h := itF c3 h
        refine lv_aload_n hx hb dX0_fault_16 rfl (lv_at hl 0 rfl) ?_
        refine r_get C hw hiX0_fault_X0 3 (XWa_3 cI cZ a u0) rfl 6 (by decide) (by decide +kernel) rfl dX0_fault_17 ?_
        refine lv_iload_n hx hb dX0_fault_20 rfl (lv_at hl 1 rfl) ?_
        obtain ⟨g4, h⟩ := ixE h
        refine r_ald C hw 14 0 (XWa_14 cI cZ a u0) rfl g4 dX0_fault_21 ?_
        refine lv_goto (tgt := 26) hx hb dX0_fault_22 (by decide) ?_
        exact r_iretP hQ h hw dX0_fault_26
abbrev rmX7_thrown : Room := { frames := 1, cells := 0, slots := 0, locals := 21 }
theorem hiX7_thrown_X7 : ∀ w ∈ wsX70, w ∈ wsX7_thrown := by decide +kernel
set_option maxHeartbeats 4000000 in
set_option maxRecDepth 100000 in
theorem c_X7_thrown (l : Launch) (D : va_G) (cI cZ : ClassId) (z : Nat → Nat) (base : Nat) (a : Nat → Nat) (x1 : Int32) (u0 : St) (ro : Int32) (h : F_X7_thrown x1 u0 = some ro) : MI l D [(cI, .int), (cZ, .boolean)] z base yX7_thrown wsX7_thrown rmX7_thrown [.ref (a 0), .int x1] (XW cI cZ a u0) ro (XW cI cZ a u0) := by
  refine MI.ofI (own := RX7) (cc := cX7_thrown) (maxL := 2) (by decide) rfl rfl (Nat.le_of_ble_eq_true rfl) ?_
  intro p e s m args below meth c A Q ls C hl hw hQ
  have hx := C.1.1
  have hb := C.1.2.1
  have hl : lv_has ls 2 [(0, .ref (a 0)), (1, .int x1)] := hl
  rw [F_X7_thrown] at h
  refine lv_aload_n hx hb dX7_thrown_0 rfl (lv_at hl 0 rfl) ?_
  refine r_get C hw hiX7_thrown_X7 0 (XWa_0 cI cZ a u0) rfl 2 (by decide) (by decide +kernel) rfl dX7_thrown_1 ?_
  refine lv_iload_n hx hb dX7_thrown_4 rfl (lv_at hl 1 rfl) ?_
  obtain ⟨r2, h1, h⟩ := b1E h
  refine r_callV (rest := []) C hw (c_X0_fault l D cI cZ z base a x1 u0 r2 h1) (cwV 1 C.1.2.2.2.2 gX7_thrown_X0_fault rfl rfl rfl (by decide +kernel) ⟨Nat.le_of_ble_eq_true rfl, Nat.le_of_ble_eq_true rfl⟩) (va_recv C.2.1 hw.1 (ci := 0) (q0 := 3) rfl (XWa_3 cI cZ a u0)) rfl hl.1 rfl (Nat.le_of_ble_eq_true rfl) dX7_thrown_5 ⟨Nat.zero_le _, Nat.zero_le _⟩ (fun H locs hw => ?_)
  exact r_iretP hQ h hw dX7_thrown_8
