abbrev rmX0_read : Room := { frames := 5, cells := 0, slots := 0, locals := 114 }
theorem hiX0_read_X0 : ∀ w ∈ wsX00, w ∈ wsX0_read := by decide +kernel
set_option maxHeartbeats 4000000 in
set_option maxRecDepth 100000 in
theorem c_X0_read (l : Launch) (D : va_G) (cI cZ : ClassId) (z : Nat → Nat) (base : Nat) (a : Nat → Nat) (u0 : St) (uo : St) (h : F_X0_read u0 = some uo) : MV l D [(cI, .int), (cZ, .boolean)] z base yX0_read wsX0_read rmX0_read [.ref (a 3), .ref (a 2)] (XW cI cZ a u0) (XW cI cZ a uo) := by
  refine MV.of (own := RX0) (cc := cX0_read) (maxL := 3) (by decide) rfl rfl (Nat.le_of_ble_eq_true rfl) ?_
  intro p e s m args below meth c A Q ls C hl hw hQ
  have hx := C.1.1
  have hb := C.1.2.1
  have J46 : ∀ n46 : Nat, ∀ (x2 : Int32) (u0 : St) (H : Heap) (locs : List Loc) (ls : Array Slot), F_X0_read_46 n46 x2 u0 = some uo → Wd D A s.heap H locs (XW cI cZ a u0) → lv_has ls 3 [(0, .ref (a 3)), (1, .ref (a 2)), (2, .int x2)] → W p l e rmX0_read s m args below meth c H locs 0 0 Q (F0 m 46 ls []) := by
    intro n46
    induction n46 with
    | zero => intro x2 u0 H locs ls h; rw [F_X0_read_46] at h; cases h
    | succ n46 ih46 =>
      intro x2 u0 H locs ls h hw hl
      rw [F_X0_read_46] at h
      refine lv_iload_n hx hb dX0_read_46 rfl (lv_at hl 2 rfl) ?_
      refine lv_iconst (v := 5) hx hb dX0_read_47 (by decide) ?_
      refine lv_icmp_ge (tgt := 74) hx hb dX0_read_48 (by decide) (fun c1 => ?_) (fun c1 => ?_)
      · have h := itT c1 h
        exact r_vret (f := XW cI cZ a) hQ h hw dX0_read_74
      · have h := itF c1 h
        refine lv_aload_n hx hb dX0_read_51 rfl (lv_at hl 0 rfl) ?_
        refine r_get C hw hiX0_read_X0 3 (XWa_3 cI cZ a u0) rfl 6 (by decide) (by decide +kernel) rfl dX0_read_52 ?_
        refine lv_iload_n hx hb dX0_read_55 rfl (lv_at hl 2 rfl) ?_
        refine lv_aload_n hx hb dX0_read_56 rfl (lv_at hl 1 rfl) ?_
        refine lv_iconst (v := 0) hx hb dX0_read_57 (by decide) ?_
        refine lv_aload_n hx hb dX0_read_58 rfl (lv_at hl 0 rfl) ?_
        refine r_get C hw hiX0_read_X0 3 (XWa_3 cI cZ a u0) rfl 0 (by decide) (by decide +kernel) rfl dX0_read_59 ?_
        refine lv_iconst (v := 1) hx hb dX0_read_62 (by decide) ?_
        refine lv_isub hx hb dX0_read_63 ?_
        obtain ⟨r3, u4, h2, h⟩ := b2E h
        refine r_callV (rest := [.int x2, .ref (a 14)]) C hw (c_X5_number l D cI cZ z base a 0 ((u0 3 0) - 1) u0 r3 u4 h2) (cwV 2 C.1.2.2.2.2 gX0_read_X5_number rfl rfl rfl (by decide +kernel) ⟨Nat.le_of_ble_eq_true rfl, Nat.le_of_ble_eq_true rfl⟩) (va_recv C.2.1 hw.1 (ci := 4) (q0 := 2) rfl (XWa_2 cI cZ a u0)) rfl hl.1 rfl (Nat.le_of_ble_eq_true rfl) dX0_read_64 ⟨Nat.zero_le _, Nat.zero_le _⟩ (fun H locs hw => ?_)
        obtain ⟨g5, h⟩ := ixE h
        obtain ⟨u6, eu6⟩ : ∃ y : St, y = st u4 14 (x2).toNatClampNeg r3 := ⟨_, rfl⟩
        have h := nmE eu6 h
        refine r_ast (ws' := (XW cI cZ a u6)) C hw 14 0 (XWa_14 cI cZ a u4) rfl g5 (by rw [eu6]; exact XWs_14 cI cZ a u4 _ r3) dX0_read_67 (fun H locs hw => ?_)
        obtain ⟨v7, ev7⟩ : ∃ y : Int32, y = x2 + 1 := ⟨_, rfl⟩
        have h := nmE ev7 h
        refine lv_iinc (v := v7) (lv' := [(2, .int v7), (0, .ref (a 3)), (1, .ref (a 2))]) hx hb dX0_read_68 hl (k := 2) rfl (by rw [ev7]; rfl) (by decide) rfl (fun ls hl => ?_)
        refine lv_goto (tgt := 46) hx hb dX0_read_71 (by decide) ?_
        exact ih46 v7 u6 _ _ _ h hw (lv_sub hl [1, 2, 0] rfl)
  have J44 : ∀ (u0 : St) (H : Heap) (locs : List Loc) (ls : Array Slot), F_X0_read_44 u0 = some uo → Wd D A s.heap H locs (XW cI cZ a u0) → lv_has ls 3 [(0, .ref (a 3)), (1, .ref (a 2))] → W p l e rmX0_read s m args below meth c H locs 0 0 Q (F0 m 44 ls []) := by
    intro u0 H locs ls h hw hl
    rw [F_X0_read_44] at h
    refine lv_iconst (v := 0) hx hb dX0_read_44 (by decide) ?_
    refine lv_istore_n (lv' := [(2, .int 0), (0, .ref (a 3)), (1, .ref (a 2))]) hx hb dX0_read_45 rfl hl (by decide) rfl (fun ls hl => ?_)
    exact J46 fu 0 u0 _ _ _ h hw (lv_sub hl [1, 2, 0] rfl)
  have J17 : ∀ n17 : Nat, ∀ (x2 : Int32) (u0 : St) (H : Heap) (locs : List Loc) (ls : Array Slot), F_X0_read_17 n17 x2 u0 = some uo → Wd D A s.heap H locs (XW cI cZ a u0) → lv_has ls 3 [(0, .ref (a 3)), (1, .ref (a 2)), (2, .int x2)] → W p l e rmX0_read s m args below meth c H locs 0 0 Q (F0 m 17 ls []) := by
    intro n17
    induction n17 with
    | zero => intro x2 u0 H locs ls h; rw [F_X0_read_17] at h; cases h
    | succ n17 ih17 =>
      intro x2 u0 H locs ls h hw hl
      rw [F_X0_read_17] at h
      refine lv_iload_n hx hb dX0_read_17 rfl (lv_at hl 2 rfl) ?_
      refine lv_aload_n hx hb dX0_read_18 rfl (lv_at hl 0 rfl) ?_
      refine r_get C hw hiX0_read_X0 3 (XWa_3 cI cZ a u0) rfl 0 (by decide) (by decide +kernel) rfl dX0_read_19 ?_
      refine lv_icmp_ge (tgt := 44) hx hb dX0_read_22 (by decide) (fun c1 => ?_) (fun c1 => ?_)
      · have h := itT c1 h
        exact J44 u0 _ _ _ h hw (lv_sub hl [0, 1] rfl)
      · have h := itF c1 h
        refine lv_aload_n hx hb dX0_read_25 rfl (lv_at hl 1 rfl) ?_
        obtain ⟨r3, h2, h⟩ := b1E h
        refine r_callV (rest := []) C hw (c_X5_stopped l D cI cZ z base a u0 r3 h2) (cwV 0 C.1.2.2.2.2 gX0_read_X5_stopped rfl rfl rfl (by decide +kernel) ⟨Nat.le_of_ble_eq_true rfl, Nat.le_of_ble_eq_true rfl⟩) (va_recv C.2.1 hw.1 (ci := 4) (q0 := 2) rfl (XWa_2 cI cZ a u0)) rfl hl.1 rfl (Nat.le_of_ble_eq_true rfl) dX0_read_26 ⟨Nat.zero_le _, Nat.zero_le _⟩ (fun H locs hw => ?_)
        refine lv_if_ne (tgt := 44) hx hb dX0_read_29 (by decide) (fun c4 => ?_) (fun c4 => ?_)
        · have h := itF c4 h
          exact J44 u0 _ _ _ h hw (lv_sub hl [0, 1] rfl)
        · have h := itT c4 h
          refine lv_aload_n hx hb dX0_read_32 rfl (lv_at hl 0 rfl) ?_
          refine lv_aload_n hx hb dX0_read_33 rfl (lv_at hl 1 rfl) ?_
          refine lv_iload_n hx hb dX0_read_34 rfl (lv_at hl 2 rfl) ?_
          obtain ⟨u6, h5, h⟩ := b1E h
          refine r_callVv (rest := []) C hw (c_X0_readClass l D cI cZ z base a x2 u0 u6 h5) (cwV 2 C.1.2.2.2.2 gX0_read_X0_readClass rfl rfl rfl (by decide +kernel) ⟨Nat.le_of_ble_eq_true rfl, Nat.le_of_ble_eq_true rfl⟩) (va_recv C.2.1 hw.1 (ci := 0) (q0 := 3) rfl (XWa_3 cI cZ a u0)) rfl hl.1 rfl (Nat.le_of_ble_eq_true rfl) dX0_read_35 ⟨Nat.zero_le _, Nat.zero_le _⟩ (fun H locs hw => ?_)
          obtain ⟨v7, ev7⟩ : ∃ y : Int32, y = x2 + 1 := ⟨_, rfl⟩
          have h := nmE ev7 h
          refine lv_iinc (v := v7) (lv' := [(2, .int v7), (0, .ref (a 3)), (1, .ref (a 2))]) hx hb dX0_read_38 hl (k := 2) rfl (by rw [ev7]; rfl) (by decide) rfl (fun ls hl => ?_)
          refine lv_goto (tgt := 17) hx hb dX0_read_41 (by decide) ?_
          exact ih17 v7 u6 _ _ _ h hw (lv_sub hl [1, 2, 0] rfl)
  have hl : lv_has ls 3 [(0, .ref (a 3)), (1, .ref (a 2))] := hl
  rw [F_X0_read] at h
  refine lv_aload_n hx hb dX0_read_0 rfl (lv_at hl 0 rfl) ?_
  refine lv_aload_n hx hb dX0_read_1 rfl (lv_at hl 1 rfl) ?_
  refine lv_iconst (v := 1) hx hb dX0_read_2 (by decide) ?_
  refine lv_bipush (v := 32) hx hb dX0_read_3 (by decide) ?_
  obtain ⟨r2, u3, h1, h⟩ := b2E h
  refine r_callV (rest := [.ref (a 3)]) C hw (c_X5_number l D cI cZ z base a 1 32 u0 r2 u3 h1) (cwV 2 C.1.2.2.2.2 gX0_read_X5_number rfl rfl rfl (by decide +kernel) ⟨Nat.le_of_ble_eq_true rfl, Nat.le_of_ble_eq_true rfl⟩) (va_recv C.2.1 hw.1 (ci := 4) (q0 := 2) rfl (XWa_2 cI cZ a u0)) rfl hl.1 rfl (Nat.le_of_ble_eq_true rfl) dX0_read_5 ⟨Nat.zero_le _, Nat.zero_le _⟩ (fun H locs hw => ?_)
  refine lv_iconst (v := 0) hx hb dX0_read_8 (by decide) ?_
  refine r_max C hl.1 (by decide +kernel) (by decide +kernel) (by decide +kernel) (by decide +kernel) (Nat.le_of_ble_eq_true rfl) (Nat.le_of_ble_eq_true rfl) (Nat.zero_le _) (Nat.zero_le _) dX0_read_9 ?_
  obtain ⟨u4, eu4⟩ : ∃ y : St, y = st u3 3 0 (if r2 < 0 then 0 else r2) := ⟨_, rfl⟩
  have h := nmE eu4 h
  refine r_put (ws' := (XW cI cZ a u4)) C hw hiX0_read_X0 tyX0 tyX0_ok nmX0 3 (XWa_3 cI cZ a u3) rfl 0 (by decide) (by decide +kernel) rfl (ty := .int) (by decide +kernel) rfl rfl (Nat.le_of_ble_eq_true rfl) (by rw [eu4]; exact XWs_3_0 cI cZ a u3 (if r2 < 0 then 0 else r2)) dX0_read_12 (fun H locs hw => ?_)
  refine lv_iconst (v := 0) hx hb dX0_read_15 (by decide) ?_
  refine lv_istore_n (lv' := [(2, .int 0), (0, .ref (a 3)), (1, .ref (a 2))]) hx hb dX0_read_16 rfl hl (by decide) rfl (fun ls hl => ?_)
  exact J17 fu 0 u4 _ _ _ h hw (lv_sub hl [1, 2, 0] rfl)
abbrev rmJ7_fill_53178 : Room := { frames := 0, cells := 0, slots := 0, locals := 0 }
set_option maxHeartbeats 4000000 in
set_option maxRecDepth 100000 in
theorem c_J7_fill_53178 (l : Launch) (D : va_G) (cI cZ : ClassId) (z : Nat → Nat) (base : Nat) (a : Nat → Nat) (x1 : Int32) (u0 : St) (uo : St) (h : F_J7_fill_53178 x1 u0 = some uo) : MV l D [(cI, .int), (cZ, .boolean)] z base yJ7_fill_53178 wsJ7_fill_53178 rmJ7_fill_53178 [.ref (a 24), .int x1] (XW cI cZ a u0) (XW cI cZ a uo) := by
  refine MV.of (own := RJ7) (cc := cJ7_fill_53178) (maxL := 4) (by decide) rfl rfl (Nat.le_of_ble_eq_true rfl) ?_
  intro p e s m args below meth c A Q ls C hl hw hQ
  have hx := C.1.1
  have hb := C.1.2.1
  have J5 : ∀ n5 : Nat, ∀ (x1 x2 x3 : Int32) (u0 : St) (H : Heap) (locs : List Loc) (ls : Array Slot), F_J7_fill_53178_5 n5 x1 x2 x3 u0 = some uo → Wd D A s.heap H locs (XW cI cZ a u0) → lv_has ls 4 [(0, .ref (a 24)), (1, .int x1), (2, .int x2), (3, .int x3)] → W p l e rmJ7_fill_53178 s m args below meth c H locs 0 0 Q (F0 m 5 ls []) := by
    intro n5
    induction n5 with
    | zero => intro x1 x2 x3 u0 H locs ls h; rw [F_J7_fill_53178_5] at h; cases h
    | succ n5 ih5 =>
      intro x1 x2 x3 u0 H locs ls h hw hl
      rw [F_J7_fill_53178_5] at h
      refine lv_iload_n hx hb dJ7_fill_53178_5 rfl (lv_at hl 2 rfl) ?_
      refine lv_iload_n hx hb dJ7_fill_53178_6 rfl (lv_at hl 3 rfl) ?_
      refine lv_icmp_ge (tgt := 20) hx hb dJ7_fill_53178_7 (by decide) (fun c1 => ?_) (fun c1 => ?_)
      · have h := itT c1 h
        exact r_vret (f := XW cI cZ a) hQ h hw dJ7_fill_53178_20
      · have h := itF c1 h
        refine lv_aload_n hx hb dJ7_fill_53178_10 rfl (lv_at hl 0 rfl) ?_
        refine lv_iload_n hx hb dJ7_fill_53178_11 rfl (lv_at hl 2 rfl) ?_
        refine lv_iload_n hx hb dJ7_fill_53178_12 rfl (lv_at hl 1 rfl) ?_
        obtain ⟨g2, h⟩ := ixE h
        obtain ⟨u3, eu3⟩ : ∃ y : St, y = st u0 24 (x2).toNatClampNeg x1 := ⟨_, rfl⟩
        have h := nmE eu3 h
        refine r_ast (ws' := (XW cI cZ a u3)) C hw 24 0 (XWa_24 cI cZ a u0) rfl g2 (by rw [eu3]; exact XWs_24 cI cZ a u0 _ x1) dJ7_fill_53178_13 (fun H locs hw => ?_)
        obtain ⟨v4, ev4⟩ : ∃ y : Int32, y = x2 + 1 := ⟨_, rfl⟩
        have h := nmE ev4 h
        refine lv_iinc (v := v4) (lv' := [(2, .int v4), (0, .ref (a 24)), (1, .int x1), (3, .int x3)]) hx hb dJ7_fill_53178_14 hl (k := 2) rfl (by rw [ev4]; rfl) (by decide) rfl (fun ls hl => ?_)
        refine lv_goto (tgt := 5) hx hb dJ7_fill_53178_17 (by decide) ?_
        exact ih5 x1 v4 x3 u3 _ _ _ h hw (lv_sub hl [1, 2, 0, 3] rfl)
  have hl : lv_has ls 4 [(0, .ref (a 24)), (1, .int x1)] := hl
  rw [F_J7_fill_53178] at h
  refine lv_iconst (v := 0) hx hb dJ7_fill_53178_0 (by decide) ?_
  refine lv_istore_n (lv' := [(2, .int 0), (0, .ref (a 24)), (1, .int x1)]) hx hb dJ7_fill_53178_1 rfl hl (by decide) rfl (fun ls hl => ?_)
  refine lv_aload_n hx hb dJ7_fill_53178_2 rfl (lv_at hl 1 rfl) ?_
  refine r_alen (v := 250) C hw 24 0 (XWa_24 cI cZ a u0) rfl rfl dJ7_fill_53178_3 ?_
  refine lv_istore_n (lv' := [(3, .int 250), (2, .int 0), (0, .ref (a 24)), (1, .int x1)]) hx hb dJ7_fill_53178_4 rfl hl (by decide) rfl (fun ls hl => ?_)
  exact J5 fu x1 0 250 u0 _ _ _ h hw (lv_sub hl [2, 3, 1, 0] rfl)
abbrev rmX1_clear : Room := { frames := 1, cells := 0, slots := 0, locals := 23 }
theorem hiX1_clear_X1 : ∀ w ∈ wsX10, w ∈ wsX1_clear := by decide +kernel
set_option maxHeartbeats 4000000 in
set_option maxRecDepth 100000 in
theorem c_X1_clear (l : Launch) (D : va_G) (cI cZ : ClassId) (z : Nat → Nat) (base : Nat) (a : Nat → Nat) (u0 : St) (uo : St) (h : F_X1_clear u0 = some uo) : MV l D [(cI, .int), (cZ, .boolean)] z base yX1_clear wsX1_clear rmX1_clear [.ref (a 5)] (XW cI cZ a u0) (XW cI cZ a uo) := by
  refine MV.of (own := RX1) (cc := cX1_clear) (maxL := 1) (by decide) rfl rfl (Nat.le_of_ble_eq_true rfl) ?_
  intro p e s m args below meth c A Q ls C hl hw hQ
  have hx := C.1.1
  have hb := C.1.2.1
  have hl : lv_has ls 1 [(0, .ref (a 5))] := hl
  rw [F_X1_clear] at h
  refine lv_aload_n hx hb dX1_clear_0 rfl (lv_at hl 0 rfl) ?_
  refine lv_iconst (v := 0) hx hb dX1_clear_1 (by decide) ?_
  obtain ⟨u1, eu1⟩ : ∃ y : St, y = st u0 5 0 0 := ⟨_, rfl⟩
  have h := nmE eu1 h
  refine r_put (ws' := (XW cI cZ a u1)) C hw hiX1_clear_X1 tyX1 tyX1_ok nmX1 5 (XWa_5 cI cZ a u0) rfl 0 (by decide) (by decide +kernel) rfl (ty := .int) (by decide +kernel) rfl rfl (Nat.le_of_ble_eq_true rfl) (by rw [eu1]; exact XWs_5_0 cI cZ a u0 0) dX1_clear_2 (fun H locs hw => ?_)
  refine lv_aload_n hx hb dX1_clear_5 rfl (lv_at hl 0 rfl) ?_
  refine r_get C hw hiX1_clear_X1 5 (XWa_5 cI cZ a u1) rfl 4 (by decide) (by decide +kernel) rfl dX1_clear_6 ?_
  refine lv_iconst (v := 0) hx hb dX1_clear_9 (by decide) ?_
  obtain ⟨u3, h2, h⟩ := b1E h
  refine r_callSv (rest := []) C hw (c_J7_fill_53178 l D cI cZ z base a 0 u1 u3 h2) (va_cwS 2 C.1.2.2.2.2 gX1_clear_J7_fill_53178 rfl rfl rfl (by decide +kernel) ⟨Nat.le_of_ble_eq_true rfl, Nat.le_of_ble_eq_true rfl⟩) rfl hl.1 rfl (Nat.le_of_ble_eq_true rfl) dX1_clear_10 ⟨Nat.zero_le _, Nat.zero_le _⟩ (fun H locs hw => ?_)
  exact r_vret (f := XW cI cZ a) hQ h hw dX1_clear_13
abbrev rmX3_clear : Room := { frames := 2, cells := 0, slots := 0, locals := 43 }
theorem hiX3_clear_X3 : ∀ w ∈ wsX30, w ∈ wsX3_clear := by decide +kernel
set_option maxHeartbeats 4000000 in
set_option maxRecDepth 100000 in
theorem c_X3_clear (l : Launch) (D : va_G) (cI cZ : ClassId) (z : Nat → Nat) (base : Nat) (a : Nat → Nat) (u0 : St) (uo : St) (h : F_X3_clear u0 = some uo) : MV l D [(cI, .int), (cZ, .boolean)] z base yX3_clear wsX3_clear rmX3_clear [.ref (a 4)] (XW cI cZ a u0) (XW cI cZ a uo) := by
  refine MV.of (own := RX3) (cc := cX3_clear) (maxL := 1) (by decide) rfl rfl (Nat.le_of_ble_eq_true rfl) ?_
  intro p e s m args below meth c A Q ls C hl hw hQ
  have hx := C.1.1
  have hb := C.1.2.1
  have hl : lv_has ls 1 [(0, .ref (a 4))] := hl
  rw [F_X3_clear] at h
  refine lv_aload_n hx hb dX3_clear_0 rfl (lv_at hl 0 rfl) ?_
  refine lv_iconst (v := 0) hx hb dX3_clear_1 (by decide) ?_
  obtain ⟨u1, eu1⟩ : ∃ y : St, y = st u0 4 0 0 := ⟨_, rfl⟩
  have h := nmE eu1 h
  refine r_put (ws' := (XW cI cZ a u1)) C hw hiX3_clear_X3 tyX3 tyX3_ok nmX3 4 (XWa_4 cI cZ a u0) rfl 0 (by decide) (by decide +kernel) rfl (ty := .int) (by decide +kernel) rfl rfl (Nat.le_of_ble_eq_true rfl) (by rw [eu1]; exact XWs_4_0 cI cZ a u0 0) dX3_clear_2 (fun H locs hw => ?_)
  refine lv_aload_n hx hb dX3_clear_5 rfl (lv_at hl 0 rfl) ?_
  refine lv_iconst (v := (-1)) hx hb dX3_clear_6 (by decide) ?_
  obtain ⟨u2, eu2⟩ : ∃ y : St, y = st u1 4 1 (-1) := ⟨_, rfl⟩
  have h := nmE eu2 h
  refine r_put (ws' := (XW cI cZ a u2)) C hw hiX3_clear_X3 tyX3 tyX3_ok nmX3 4 (XWa_4 cI cZ a u1) rfl 1 (by decide) (by decide +kernel) rfl (ty := .int) (by decide +kernel) rfl rfl (Nat.le_of_ble_eq_true rfl) (by rw [eu2]; exact XWs_4_1 cI cZ a u1 (-1)) dX3_clear_7 (fun H locs hw => ?_)
  refine lv_aload_n hx hb dX3_clear_10 rfl (lv_at hl 0 rfl) ?_
  refine r_get C hw hiX3_clear_X3 4 (XWa_4 cI cZ a u2) rfl 8 (by decide) (by decide +kernel) rfl dX3_clear_11 ?_
  obtain ⟨u4, h3, h⟩ := b1E h
  refine r_callVv (rest := []) C hw (c_X1_clear l D cI cZ z base a u2 u4 h3) (cwV 0 C.1.2.2.2.2 gX3_clear_X1_clear rfl rfl rfl (by decide +kernel) ⟨Nat.le_of_ble_eq_true rfl, Nat.le_of_ble_eq_true rfl⟩) (va_recv C.2.1 hw.1 (ci := 1) (q0 := 5) rfl (XWa_5 cI cZ a u2)) rfl hl.1 rfl (Nat.le_of_ble_eq_true rfl) dX3_clear_14 ⟨Nat.zero_le _, Nat.zero_le _⟩ (fun H locs hw => ?_)
  exact r_vret (f := XW cI cZ a) hQ h hw dX3_clear_17
abbrev rmX0_size : Room := { frames := 0, cells := 0, slots := 0, locals := 0 }
theorem hiX0_size_X0 : ∀ w ∈ wsX00, w ∈ wsX0_size := by decide +kernel
set_option maxHeartbeats 4000000 in
set_option maxRecDepth 100000 in
theorem c_X0_size (l : Launch) (D : va_G) (cI cZ : ClassId) (z : Nat → Nat) (base : Nat) (a : Nat → Nat) (u0 : St) (ro : Int32) (h : F_X0_size u0 = some ro) : MI l D [(cI, .int), (cZ, .boolean)] z base yX0_size wsX0_size rmX0_size [.ref (a 3)] (XW cI cZ a u0) ro (XW cI cZ a u0) := by
  refine MI.ofI (own := RX0) (cc := cX0_size) (maxL := 1) (by decide) rfl rfl (Nat.le_of_ble_eq_true rfl) ?_
  intro p e s m args below meth c A Q ls C hl hw hQ
  have hx := C.1.1
  have hb := C.1.2.1
  have hl : lv_has ls 1 [(0, .ref (a 3))] := hl
  rw [F_X0_size] at h
  refine lv_aload_n hx hb dX0_size_0 rfl (lv_at hl 0 rfl) ?_
  refine r_get C hw hiX0_size_X0 3 (XWa_3 cI cZ a u0) rfl 0 (by decide) (by decide +kernel) rfl dX0_size_1 ?_
  exact r_iretP hQ h hw dX0_size_4
abbrev rmX3_readParameters : Room := { frames := 3, cells := 0, slots := 0, locals := 66 }
theorem hiX3_readParameters_X3 : ∀ w ∈ wsX30, w ∈ wsX3_readParameters := by decide +kernel
set_option maxHeartbeats 4000000 in
set_option maxRecDepth 100000 in
theorem c_X3_readParameters (l : Launch) (D : va_G) (cI cZ : ClassId) (z : Nat → Nat) (base : Nat) (a : Nat → Nat) (x2 : Int32) (x3 : Int32) (u0 : St) (uo : St) (h : F_X3_readParameters x2 x3 u0 = some uo) : MV l D [(cI, .int), (cZ, .boolean)] z base yX3_readParameters wsX3_readParameters rmX3_readParameters [.ref (a 4), .ref (a 2), .int x2, .int x3] (XW cI cZ a u0) (XW cI cZ a uo) := by
  refine MV.of (own := RX3) (cc := cX3_readParameters) (maxL := 7) (by decide) rfl rfl (Nat.le_of_ble_eq_true rfl) ?_
  intro p e s m args below meth c A Q ls C hl hw hQ
  have hx := C.1.1
  have hb := C.1.2.1
  have J56 : ∀ n56 : Nat, ∀ (x2 x3 x4 x5 x6 : Int32) (u0 : St) (H : Heap) (locs : List Loc) (ls : Array Slot), F_X3_readParameters_56 n56 x2 x3 x4 x5 x6 u0 = some uo → Wd D A s.heap H locs (XW cI cZ a u0) → lv_has ls 7 [(0, .ref (a 4)), (1, .ref (a 2)), (2, .int x2), (3, .int x3), (4, .int x4), (5, .int x5), (6, .int x6)] → W p l e rmX3_readParameters s m args below meth c H locs 0 0 Q (F0 m 56 ls []) := by
    intro n56
    induction n56 with
    | zero => intro x2 x3 x4 x5 x6 u0 H locs ls h; rw [F_X3_readParameters_56] at h; cases h
    | succ n56 ih56 =>
      intro x2 x3 x4 x5 x6 u0 H locs ls h hw hl
      rw [F_X3_readParameters_56] at h
      refine lv_iload hx hb dX3_readParameters_56 (lv_at hl 6 rfl) ?_
      refine lv_iload hx hb dX3_readParameters_58 (lv_at hl 5 rfl) ?_
      refine lv_icmp_ge (tgt := 89) hx hb dX3_readParameters_60 (by decide) (fun c1 => ?_) (fun c1 => ?_)
      · have h := itT c1 h
        refine lv_aload_n hx hb dX3_readParameters_89 rfl (lv_at hl 0 rfl) ?_
        refine r_get C hw hiX3_readParameters_X3 4 (XWa_4 cI cZ a u0) rfl 3 (by decide) (by decide +kernel) rfl dX3_readParameters_90 ?_
        refine lv_iload_n hx hb dX3_readParameters_93 rfl (lv_at hl 3 rfl) ?_
        refine lv_iload hx hb dX3_readParameters_94 (lv_at hl 4 rfl) ?_
        refine lv_iload hx hb dX3_readParameters_96 (lv_at hl 5 rfl) ?_
        refine lv_iadd hx hb dX3_readParameters_98 ?_
        obtain ⟨g2, h⟩ := ixE h
        obtain ⟨u3, eu3⟩ : ∃ y : St, y = st u0 16 (x3).toNatClampNeg (x4 + x5) := ⟨_, rfl⟩
        have h := nmE eu3 h
        refine r_ast (ws' := (XW cI cZ a u3)) C hw 16 0 (XWa_16 cI cZ a u0) rfl g2 (by rw [eu3]; exact XWs_16 cI cZ a u0 _ (x4 + x5)) dX3_readParameters_99 (fun H locs hw => ?_)
        exact r_vret (f := XW cI cZ a) hQ h hw dX3_readParameters_100
      · have h := itF c1 h
        refine lv_aload_n hx hb dX3_readParameters_63 rfl (lv_at hl 0 rfl) ?_
        refine r_get C hw hiX3_readParameters_X3 4 (XWa_4 cI cZ a u0) rfl 4 (by decide) (by decide +kernel) rfl dX3_readParameters_64 ?_
        refine lv_iload_n hx hb dX3_readParameters_67 rfl (lv_at hl 3 rfl) ?_
        refine lv_bipush (v := 8) hx hb dX3_readParameters_68 (by decide) ?_
        refine lv_imul hx hb dX3_readParameters_70 ?_
        refine lv_iload hx hb dX3_readParameters_71 (lv_at hl 4 rfl) ?_
        refine lv_iadd hx hb dX3_readParameters_73 ?_
        refine lv_iload hx hb dX3_readParameters_74 (lv_at hl 6 rfl) ?_
        refine lv_iadd hx hb dX3_readParameters_76 ?_
        refine lv_aload_n hx hb dX3_readParameters_77 rfl (lv_at hl 1 rfl) ?_
        refine lv_iload_n hx hb dX3_readParameters_78 rfl (lv_at hl 2 rfl) ?_
        obtain ⟨r5, u6, h4, h⟩ := b2E h
        refine r_callV (rest := [.int (((x3 * 8) + x4) + x6), .ref (a 17)]) C hw (c_X5_type l D cI cZ z base a x2 u0 r5 u6 h4) (cwV 1 C.1.2.2.2.2 gX3_readParameters_X5_type rfl rfl rfl (by decide +kernel) ⟨Nat.le_of_ble_eq_true rfl, Nat.le_of_ble_eq_true rfl⟩) (va_recv C.2.1 hw.1 (ci := 4) (q0 := 2) rfl (XWa_2 cI cZ a u0)) rfl hl.1 rfl (Nat.le_of_ble_eq_true rfl) dX3_readParameters_79 ⟨Nat.zero_le _, Nat.zero_le _⟩ (fun H locs hw => ?_)
        obtain ⟨g7, h⟩ := ixE h
        obtain ⟨u8, eu8⟩ : ∃ y : St, y = st u6 17 ((((x3 * 8) + x4) + x6)).toNatClampNeg r5 := ⟨_, rfl⟩
        have h := nmE eu8 h
        refine r_ast (ws' := (XW cI cZ a u8)) C hw 17 0 (XWa_17 cI cZ a u6) rfl g7 (by rw [eu8]; exact XWs_17 cI cZ a u6 _ r5) dX3_readParameters_82 (fun H locs hw => ?_)
        obtain ⟨v9, ev9⟩ : ∃ y : Int32, y = x6 + 1 := ⟨_, rfl⟩
        have h := nmE ev9 h
        refine lv_iinc (v := v9) (lv' := [(6, .int v9), (0, .ref (a 4)), (1, .ref (a 2)), (2, .int x2), (3, .int x3), (4, .int x4), (5, .int x5)]) hx hb dX3_readParameters_83 hl (k := 6) rfl (by rw [ev9]; rfl) (by decide) rfl (fun ls hl => ?_)
        refine lv_goto (tgt := 56) hx hb dX3_readParameters_86 (by decide) ?_
        exact ih56 x2 x3 x4 x5 v9 u8 _ _ _ h hw (lv_sub hl [1, 2, 3, 4, 5, 6, 0] rfl)
  have J40 : ∀ (x2 x3 x4 : Int32) (u0 : St) (H : Heap) (locs : List Loc) (ls : Array Slot), F_X3_readParameters_40 x2 x3 x4 u0 = some uo → Wd D A s.heap H locs (XW cI cZ a u0) → lv_has ls 7 [(0, .ref (a 4)), (1, .ref (a 2)), (2, .int x2), (3, .int x3), (4, .int x4)] → W p l e rmX3_readParameters s m args below meth c H locs 0 0 Q (F0 m 40 ls []) := by
    intro x2 x3 x4 u0 H locs ls h hw hl
    rw [F_X3_readParameters_40] at h
    refine lv_aload_n hx hb dX3_readParameters_40 rfl (lv_at hl 1 rfl) ?_
    refine lv_iconst (v := 0) hx hb dX3_readParameters_41 (by decide) ?_
    refine lv_bipush (v := 7) hx hb dX3_readParameters_42 (by decide) ?_
    obtain ⟨r2, u3, h1, h⟩ := b2E h
    refine r_callV (rest := []) C hw (c_X5_number l D cI cZ z base a 0 7 u0 r2 u3 h1) (cwV 2 C.1.2.2.2.2 gX3_readParameters_X5_number rfl rfl rfl (by decide +kernel) ⟨Nat.le_of_ble_eq_true rfl, Nat.le_of_ble_eq_true rfl⟩) (va_recv C.2.1 hw.1 (ci := 4) (q0 := 2) rfl (XWa_2 cI cZ a u0)) rfl hl.1 rfl (Nat.le_of_ble_eq_true rfl) dX3_readParameters_44 ⟨Nat.zero_le _, Nat.zero_le _⟩ (fun H locs hw => ?_)
    refine lv_iconst (v := 0) hx hb dX3_readParameters_47 (by decide) ?_
    refine r_max C hl.1 (by decide +kernel) (by decide +kernel) (by decide +kernel) (by decide +kernel) (Nat.le_of_ble_eq_true rfl) (Nat.le_of_ble_eq_true rfl) (Nat.zero_le _) (Nat.zero_le _) dX3_readParameters_48 ?_
    refine lv_topi (fun v4 ev4 => ?_)
    have h := nmE ev4 h
    refine lv_istore (lv' := [(5, .int v4), (0, .ref (a 4)), (1, .ref (a 2)), (2, .int x2), (3, .int x3), (4, .int x4)]) hx hb dX3_readParameters_51 hl (by decide) rfl (fun ls hl => ?_)
    refine lv_iconst (v := 0) hx hb dX3_readParameters_53 (by decide) ?_
    refine lv_istore (lv' := [(6, .int 0), (5, .int v4), (0, .ref (a 4)), (1, .ref (a 2)), (2, .int x2), (3, .int x3), (4, .int x4)]) hx hb dX3_readParameters_54 hl (by decide) rfl (fun ls hl => ?_)
    exact J56 fu x2 x3 x4 v4 0 u3 _ _ _ h hw (lv_sub hl [2, 3, 4, 5, 6, 1, 0] rfl)
  have J15 : ∀ (x2 x3 t0 : Int32) (u0 : St) (H : Heap) (locs : List Loc) (ls : Array Slot), F_X3_readParameters_15 x2 x3 t0 u0 = some uo → Wd D A s.heap H locs (XW cI cZ a u0) → lv_has ls 7 [(0, .ref (a 4)), (1, .ref (a 2)), (2, .int x2), (3, .int x3)] → W p l e rmX3_readParameters s m args below meth c H locs 0 0 Q (F0 m 15 ls [.int t0]) := by
    intro x2 x3 t0 u0 H locs ls h hw hl
    rw [F_X3_readParameters_15] at h
    refine lv_istore (lv' := [(4, .int t0), (0, .ref (a 4)), (1, .ref (a 2)), (2, .int x2), (3, .int x3)]) hx hb dX3_readParameters_15 hl (by decide) rfl (fun ls hl => ?_)
    refine lv_iload hx hb dX3_readParameters_17 (lv_at hl 0 rfl) ?_
    refine lv_iconst (v := 1) hx hb dX3_readParameters_19 (by decide) ?_
    refine lv_icmp_ne (tgt := 40) hx hb dX3_readParameters_20 (by decide) (fun c1 => ?_) (fun c1 => ?_)
    · have h := itF c1 h
      exact J40 x2 x3 t0 u0 _ _ _ h hw (lv_sub hl [1, 2, 3, 4, 0] rfl)
    · have h := itT c1 h
      refine lv_aload_n hx hb dX3_readParameters_23 rfl (lv_at hl 1 rfl) ?_
      refine r_get C hw hiX3_readParameters_X3 4 (XWa_4 cI cZ a u0) rfl 4 (by decide) (by decide +kernel) rfl dX3_readParameters_24 ?_
      refine lv_iload_n hx hb dX3_readParameters_27 rfl (lv_at hl 4 rfl) ?_
      refine lv_bipush (v := 8) hx hb dX3_readParameters_28 (by decide) ?_
      refine lv_imul hx hb dX3_readParameters_30 ?_
      refine lv_aload_n hx hb dX3_readParameters_31 rfl (lv_at hl 1 rfl) ?_
      refine r_get C hw hiX3_readParameters_X3 4 (XWa_4 cI cZ a u0) rfl 2 (by decide) (by decide +kernel) rfl dX3_readParameters_32 ?_
      refine lv_iload_n hx hb dX3_readParameters_35 rfl (lv_at hl 4 rfl) ?_
      obtain ⟨g2, h⟩ := ixE h
      refine r_ald C hw 15 0 (XWa_15 cI cZ a u0) rfl g2 dX3_readParameters_36 ?_
      refine lv_iconst (v := 1) hx hb dX3_readParameters_37 (by decide) ?_
      refine lv_iadd hx hb dX3_readParameters_38 ?_
      obtain ⟨g3, h⟩ := ixE h
      obtain ⟨u4, eu4⟩ : ∃ y : St, y = st u0 17 ((x3 * 8)).toNatClampNeg ((u0 15 (x3).toNatClampNeg) + 1) := ⟨_, rfl⟩
      have h := nmE eu4 h
      refine r_ast (ws' := (XW cI cZ a u4)) C hw 17 0 (XWa_17 cI cZ a u0) rfl g3 (by rw [eu4]; exact XWs_17 cI cZ a u0 _ ((u0 15 (x3).toNatClampNeg) + 1)) dX3_readParameters_39 (fun H locs hw => ?_)
      exact J40 x2 x3 t0 u4 _ _ _ h hw (lv_sub hl [1, 2, 3, 4, 0] rfl)
  have hl : lv_has ls 7 [(0, .ref (a 4)), (1, .ref (a 2)), (2, .int x2), (3, .int x3)] := hl
  rw [F_X3_readParameters] at h
  refine lv_aload_n hx hb dX3_readParameters_0 rfl (lv_at hl 0 rfl) ?_
  refine r_get C hw hiX3_readParameters_X3 4 (XWa_4 cI cZ a u0) rfl 2 (by decide) (by decide +kernel) rfl dX3_readParameters_1 ?_
  refine lv_iload_n hx hb dX3_readParameters_4 rfl (lv_at hl 3 rfl) ?_
  obtain ⟨g1, h⟩ := ixE h
  refine r_ald C hw 15 0 (XWa_15 cI cZ a u0) rfl g1 dX3_readParameters_5 ?_
  refine lv_iconst (v := (-1)) hx hb dX3_readParameters_6 (by decide) ?_
  refine lv_icmp_ne (tgt := 14) hx hb dX3_readParameters_7 (by decide) (fun c2 => ?_) (fun c2 => ?_)
  · have h := itF c2 h
    refine lv_iconst (v := 1) hx hb dX3_readParameters_14 (by decide) ?_
    exact J15 x2 x3 1 u0 _ _ _ h hw hl
  · have h := itT c2 h
    refine lv_iconst (v := 0) hx hb dX3_readParameters_10 (by decide) ?_
    refine lv_goto (tgt := 15) hx hb dX3_readParameters_11 (by decide) ?_
    exact J15 x2 x3 0 u0 _ _ _ h hw hl
abbrev rmX5_typeOrNothing : Room := { frames := 3, cells := 0, slots := 0, locals := 66 }
set_option maxHeartbeats 4000000 in
set_option maxRecDepth 100000 in
theorem c_X5_typeOrNothing (l : Launch) (D : va_G) (cI cZ : ClassId) (z : Nat → Nat) (base : Nat) (a : Nat → Nat) (x1 : Int32) (u0 : St) (ro : Int32) (uo : St) (h : F_X5_typeOrNothing x1 u0 = some (ro, uo)) : MI l D [(cI, .int), (cZ, .boolean)] z base yX5_typeOrNothing wsX5_typeOrNothing rmX5_typeOrNothing [.ref (a 2), .int x1] (XW cI cZ a u0) ro (XW cI cZ a uo) := by
  refine MI.ofI (own := RX5) (cc := cX5_typeOrNothing) (maxL := 2) (by decide) rfl rfl (Nat.le_of_ble_eq_true rfl) ?_
  intro p e s m args below meth c A Q ls C hl hw hQ
  have hx := C.1.1
  have hb := C.1.2.1
  have hl : lv_has ls 2 [(0, .ref (a 2)), (1, .int x1)] := hl
  rw [F_X5_typeOrNothing] at h
  refine lv_aload_n hx hb dX5_typeOrNothing_0 rfl (lv_at hl 0 rfl) ?_
  obtain ⟨r2, h1, h⟩ := b1E h
  refine r_callV (rest := []) C hw (c_X5_next l D cI cZ z base a u0 r2 h1) (cwV 0 C.1.2.2.2.2 gX5_typeOrNothing_X5_next rfl rfl rfl (by decide +kernel) ⟨Nat.le_of_ble_eq_true rfl, Nat.le_of_ble_eq_true rfl⟩) (va_recv C.2.1 hw.1 (ci := 4) (q0 := 2) rfl (XWa_2 cI cZ a u0)) rfl hl.1 rfl (Nat.le_of_ble_eq_true rfl) dX5_typeOrNothing_1 ⟨Nat.zero_le _, Nat.zero_le _⟩ (fun H locs hw => ?_)
  refine lv_sipush (v := 255) hx hb dX5_typeOrNothing_4 (by decide) ?_
  refine lv_icmp_ne (tgt := 23) hx hb dX5_typeOrNothing_7 (by decide) (fun c3 => ?_) (fun c3 => ?_)
  · have h := itF c3 h
    refine lv_aload_n hx hb dX5_typeOrNothing_23 rfl (lv_at hl 0 rfl) ?_
    refine lv_iload_n hx hb dX5_typeOrNothing_24 rfl (lv_at hl 1 rfl) ?_
    obtain ⟨r5, u6, h4, h⟩ := b2E h
    refine r_callV (rest := []) C hw (c_X5_type l D cI cZ z base a x1 u0 r5 u6 h4) (cwV 1 C.1.2.2.2.2 gX5_typeOrNothing_X5_type rfl rfl rfl (by decide +kernel) ⟨Nat.le_of_ble_eq_true rfl, Nat.le_of_ble_eq_true rfl⟩) (va_recv C.2.1 hw.1 (ci := 4) (q0 := 2) rfl (XWa_2 cI cZ a u0)) rfl hl.1 rfl (Nat.le_of_ble_eq_true rfl) dX5_typeOrNothing_25 ⟨Nat.zero_le _, Nat.zero_le _⟩ (fun H locs hw => ?_)
    exact r_iret (f := XW cI cZ a) hQ h hw dX5_typeOrNothing_28
  · have h := itT c3 h
    refine lv_aload_n hx hb dX5_typeOrNothing_10 rfl (lv_at hl 0 rfl) ?_
    refine lv_sipush (v := 255) hx hb dX5_typeOrNothing_11 (by decide) ?_
    refine lv_sipush (v := 255) hx hb dX5_typeOrNothing_14 (by decide) ?_
    obtain ⟨r8, u9, h7, h⟩ := b2E h
    refine r_callV (rest := []) C hw (c_X5_number l D cI cZ z base a 255 255 u0 r8 u9 h7) (cwV 2 C.1.2.2.2.2 gX5_typeOrNothing_X5_number rfl rfl rfl (by decide +kernel) ⟨Nat.le_of_ble_eq_true rfl, Nat.le_of_ble_eq_true rfl⟩) (va_recv C.2.1 hw.1 (ci := 4) (q0 := 2) rfl (XWa_2 cI cZ a u0)) rfl hl.1 rfl (Nat.le_of_ble_eq_true rfl) dX5_typeOrNothing_17 ⟨Nat.zero_le _, Nat.zero_le _⟩ (fun H locs hw => ?_)
    refine lv_goto (tgt := 28) hx hb dX5_typeOrNothing_20 (by decide) ?_
    exact r_iret (f := XW cI cZ a) hQ h hw dX5_typeOrNothing_28
abbrev rmX3_readHead : Room := { frames := 4, cells := 0, slots := 0, locals := 92 }
theorem hiX3_readHead_X3 : ∀ w ∈ wsX30, w ∈ wsX3_readHead := by decide +kernel
set_option maxHeartbeats 4000000 in
set_option maxRecDepth 100000 in
theorem c_X3_readHead (l : Launch) (D : va_G) (cI cZ : ClassId) (z : Nat → Nat) (base : Nat) (a : Nat → Nat) (x2 : Int32) (x3 : Int32) (u0 : St) (uo : St) (h : F_X3_readHead x2 x3 u0 = some uo) : MV l D [(cI, .int), (cZ, .boolean)] z base yX3_readHead wsX3_readHead rmX3_readHead [.ref (a 4), .ref (a 2), .int x2, .int x3] (XW cI cZ a u0) (XW cI cZ a uo) := by
  refine MV.of (own := RX3) (cc := cX3_readHead) (maxL := 6) (by decide) rfl rfl (Nat.le_of_ble_eq_true rfl) ?_
  intro p e s m args below meth c A Q ls C hl hw hQ
  have hx := C.1.1
  have hb := C.1.2.1
  have J62 : ∀ (x3 t0 t1 : Int32) (u0 : St) (H : Heap) (locs : List Loc) (ls : Array Slot), F_X3_readHead_62 x3 t0 t1 u0 = some uo → Wd D A s.heap H locs (XW cI cZ a u0) → lv_has ls 6 [(0, .ref (a 4)), (1, .ref (a 2)), (3, .int x3)] → W p l e rmX3_readHead s m args below meth c H locs 0 0 Q (F0 m 62 ls [.int t0, .int t1, .ref (a 18)]) := by
    intro x3 t0 t1 u0 H locs ls h hw hl
    rw [F_X3_readHead_62] at h
    obtain ⟨g1, h⟩ := ixE h
    obtain ⟨u2, eu2⟩ : ∃ y : St, y = st u0 18 (t1).toNatClampNeg t0 := ⟨_, rfl⟩
    have h := nmE eu2 h
    refine r_ast (ws' := (XW cI cZ a u2)) C hw 18 0 (XWa_18 cI cZ a u0) rfl g1 (by rw [eu2]; exact XWs_18 cI cZ a u0 _ t0) dX3_readHead_62 (fun H locs hw => ?_)
    refine lv_aload_n hx hb dX3_readHead_63 rfl (lv_at hl 0 rfl) ?_
    refine r_get C hw hiX3_readHead_X3 4 (XWa_4 cI cZ a u2) rfl 6 (by decide) (by decide +kernel) rfl dX3_readHead_64 ?_
    refine lv_iload_n hx hb dX3_readHead_67 rfl (lv_at hl 2 rfl) ?_
    refine lv_aload_n hx hb dX3_readHead_68 rfl (lv_at hl 1 rfl) ?_
    refine lv_aload_n hx hb dX3_readHead_69 rfl (lv_at hl 0 rfl) ?_
    refine r_get C hw hiX3_readHead_X3 4 (XWa_4 cI cZ a u2) rfl 3 (by decide) (by decide +kernel) rfl dX3_readHead_70 ?_
    refine lv_iload_n hx hb dX3_readHead_73 rfl (lv_at hl 2 rfl) ?_
    obtain ⟨g3, h⟩ := ixE h
    refine r_ald C hw 16 0 (XWa_16 cI cZ a u2) rfl g3 dX3_readHead_74 ?_
    refine lv_bipush (v := 12) hx hb dX3_readHead_75 (by decide) ?_
    obtain ⟨r5, u6, h4, h⟩ := b2E h
    refine r_callV (rest := [.int x3, .ref (a 19)]) C hw (c_X5_number l D cI cZ z base a (u2 16 (x3).toNatClampNeg) 12 u2 r5 u6 h4) (cwV 2 C.1.2.2.2.2 gX3_readHead_X5_number rfl rfl rfl (by decide +kernel) ⟨Nat.le_of_ble_eq_true rfl, Nat.le_of_ble_eq_true rfl⟩) (va_recv C.2.1 hw.1 (ci := 4) (q0 := 2) rfl (XWa_2 cI cZ a u2)) rfl hl.1 rfl (Nat.le_of_ble_eq_true rfl) dX3_readHead_77 ⟨Nat.zero_le _, Nat.zero_le _⟩ (fun H locs hw => ?_)
    obtain ⟨g7, h⟩ := ixE h
    obtain ⟨u8, eu8⟩ : ∃ y : St, y = st u6 19 (x3).toNatClampNeg r5 := ⟨_, rfl⟩
    have h := nmE eu8 h
    refine r_ast (ws' := (XW cI cZ a u8)) C hw 19 0 (XWa_19 cI cZ a u6) rfl g7 (by rw [eu8]; exact XWs_19 cI cZ a u6 _ r5) dX3_readHead_80 (fun H locs hw => ?_)
    refine lv_aload_n hx hb dX3_readHead_81 rfl (lv_at hl 0 rfl) ?_
    refine r_get C hw hiX3_readHead_X3 4 (XWa_4 cI cZ a u8) rfl 7 (by decide) (by decide +kernel) rfl dX3_readHead_82 ?_
    refine lv_iload_n hx hb dX3_readHead_85 rfl (lv_at hl 2 rfl) ?_
    refine lv_aload_n hx hb dX3_readHead_86 rfl (lv_at hl 1 rfl) ?_
    refine lv_iconst (v := 0) hx hb dX3_readHead_87 (by decide) ?_
    refine lv_bipush (v := 12) hx hb dX3_readHead_88 (by decide) ?_
    refine lv_aload_n hx hb dX3_readHead_90 rfl (lv_at hl 0 rfl) ?_
    refine r_get C hw hiX3_readHead_X3 4 (XWa_4 cI cZ a u8) rfl 6 (by decide) (by decide +kernel) rfl dX3_readHead_91 ?_
    refine lv_iload_n hx hb dX3_readHead_94 rfl (lv_at hl 2 rfl) ?_
    obtain ⟨g9, h⟩ := ixE h
    refine r_ald C hw 19 0 (XWa_19 cI cZ a u8) rfl g9 dX3_readHead_95 ?_
    refine lv_isub hx hb dX3_readHead_96 ?_
    obtain ⟨r11, u12, h10, h⟩ := b2E h
    refine r_callV (rest := [.int x3, .ref (a 20)]) C hw (c_X5_number l D cI cZ z base a 0 (12 - (u8 19 (x3).toNatClampNeg)) u8 r11 u12 h10) (cwV 2 C.1.2.2.2.2 gX3_readHead_X5_number rfl rfl rfl (by decide +kernel) ⟨Nat.le_of_ble_eq_true rfl, Nat.le_of_ble_eq_true rfl⟩) (va_recv C.2.1 hw.1 (ci := 4) (q0 := 2) rfl (XWa_2 cI cZ a u8)) rfl hl.1 rfl (Nat.le_of_ble_eq_true rfl) dX3_readHead_97 ⟨Nat.zero_le _, Nat.zero_le _⟩ (fun H locs hw => ?_)
    obtain ⟨g13, h⟩ := ixE h
    obtain ⟨u14, eu14⟩ : ∃ y : St, y = st u12 20 (x3).toNatClampNeg r11 := ⟨_, rfl⟩
    have h := nmE eu14 h
    refine r_ast (ws' := (XW cI cZ a u14)) C hw 20 0 (XWa_20 cI cZ a u12) rfl g13 (by rw [eu14]; exact XWs_20 cI cZ a u12 _ r11) dX3_readHead_100 (fun H locs hw => ?_)
    exact r_vret (f := XW cI cZ a) hQ h hw dX3_readHead_101
  have J28 : ∀ (x2 x3 t0 t1 : Int32) (u0 : St) (H : Heap) (locs : List Loc) (ls : Array Slot), F_X3_readHead_28 x2 x3 t0 t1 u0 = some uo → Wd D A s.heap H locs (XW cI cZ a u0) → lv_has ls 6 [(0, .ref (a 4)), (1, .ref (a 2)), (2, .int x2), (3, .int x3)] → W p l e rmX3_readHead s m args below meth c H locs 0 0 Q (F0 m 28 ls [.int t0, .int t1, .ref (a 15)]) := by
    intro x2 x3 t0 t1 u0 H locs ls h hw hl
    rw [F_X3_readHead_28] at h
    obtain ⟨g1, h⟩ := ixE h
    obtain ⟨u2, eu2⟩ : ∃ y : St, y = st u0 15 (t1).toNatClampNeg t0 := ⟨_, rfl⟩
    have h := nmE eu2 h
    refine r_ast (ws' := (XW cI cZ a u2)) C hw 15 0 (XWa_15 cI cZ a u0) rfl g1 (by rw [eu2]; exact XWs_15 cI cZ a u0 _ t0) dX3_readHead_28 (fun H locs hw => ?_)
    refine lv_aload_n hx hb dX3_readHead_29 rfl (lv_at hl 0 rfl) ?_
    refine lv_aload_n hx hb dX3_readHead_30 rfl (lv_at hl 1 rfl) ?_
    refine lv_iload_n hx hb dX3_readHead_31 rfl (lv_at hl 2 rfl) ?_
    refine lv_iload_n hx hb dX3_readHead_32 rfl (lv_at hl 3 rfl) ?_
    obtain ⟨u4, h3, h⟩ := b1E h
    refine r_callVv (rest := []) C hw (c_X3_readParameters l D cI cZ z base a x2 x3 u2 u4 h3) (cwV 3 C.1.2.2.2.2 gX3_readHead_X3_readParameters rfl rfl rfl (by decide +kernel) ⟨Nat.le_of_ble_eq_true rfl, Nat.le_of_ble_eq_true rfl⟩) (va_recv C.2.1 hw.1 (ci := 3) (q0 := 4) rfl (XWa_4 cI cZ a u2)) rfl hl.1 rfl (Nat.le_of_ble_eq_true rfl) dX3_readHead_33 ⟨Nat.zero_le _, Nat.zero_le _⟩ (fun H locs hw => ?_)
    refine lv_aload_n hx hb dX3_readHead_36 rfl (lv_at hl 1 rfl) ?_
    refine lv_iload_n hx hb dX3_readHead_37 rfl (lv_at hl 2 rfl) ?_
    obtain ⟨r6, u7, h5, h⟩ := b2E h
    refine r_callV (rest := []) C hw (c_X5_typeOrNothing l D cI cZ z base a x2 u4 r6 u7 h5) (cwV 1 C.1.2.2.2.2 gX3_readHead_X5_typeOrNothing rfl rfl rfl (by decide +kernel) ⟨Nat.le_of_ble_eq_true rfl, Nat.le_of_ble_eq_true rfl⟩) (va_recv C.2.1 hw.1 (ci := 4) (q0 := 2) rfl (XWa_2 cI cZ a u4)) rfl hl.1 rfl (Nat.le_of_ble_eq_true rfl) dX3_readHead_38 ⟨Nat.zero_le _, Nat.zero_le _⟩ (fun H locs hw => ?_)
    refine lv_istore (lv' := [(5, .int r6), (0, .ref (a 4)), (1, .ref (a 2)), (2, .int x2), (3, .int x3)]) hx hb dX3_readHead_41 hl (by decide) rfl (fun ls hl => ?_)
    refine lv_aload_n hx hb dX3_readHead_43 rfl (lv_at hl 1 rfl) ?_
    refine r_get C hw hiX3_readHead_X3 4 (XWa_4 cI cZ a u7) rfl 5 (by decide) (by decide +kernel) rfl dX3_readHead_44 ?_
    refine lv_iload_n hx hb dX3_readHead_47 rfl (lv_at hl 4 rfl) ?_
    refine lv_iload hx hb dX3_readHead_48 (lv_at hl 0 rfl) ?_
    refine lv_sipush (v := 255) hx hb dX3_readHead_50 (by decide) ?_
    refine lv_icmp_ne (tgt := 60) hx hb dX3_readHead_53 (by decide) (fun c8 => ?_) (fun c8 => ?_)
    · have h := itF c8 h
      refine lv_iload hx hb dX3_readHead_60 (lv_at hl 0 rfl) ?_
      exact J62 x3 r6 x3 u7 _ _ _ h hw (lv_sub hl [1, 2, 4] rfl)
    · have h := itT c8 h
      refine lv_iconst (v := (-1)) hx hb dX3_readHead_56 (by decide) ?_
      refine lv_goto (tgt := 62) hx hb dX3_readHead_57 (by decide) ?_
      exact J62 x3 (-1) x3 u7 _ _ _ h hw (lv_sub hl [1, 2, 4] rfl)
  have hl : lv_has ls 6 [(0, .ref (a 4)), (1, .ref (a 2)), (2, .int x2), (3, .int x3)] := hl
  rw [F_X3_readHead] at h
  refine lv_aload_n hx hb dX3_readHead_0 rfl (lv_at hl 1 rfl) ?_
  refine lv_iload_n hx hb dX3_readHead_1 rfl (lv_at hl 2 rfl) ?_
  refine lv_iconst (v := 1) hx hb dX3_readHead_2 (by decide) ?_
  refine lv_isub hx hb dX3_readHead_3 ?_
  obtain ⟨r2, u3, h1, h⟩ := b2E h
  refine r_callV (rest := []) C hw (c_X5_numberOrNothing l D cI cZ z base a (x2 - 1) u0 r2 u3 h1) (cwV 1 C.1.2.2.2.2 gX3_readHead_X5_numberOrNothing rfl rfl rfl (by decide +kernel) ⟨Nat.le_of_ble_eq_true rfl, Nat.le_of_ble_eq_true rfl⟩) (va_recv C.2.1 hw.1 (ci := 4) (q0 := 2) rfl (XWa_2 cI cZ a u0)) rfl hl.1 rfl (Nat.le_of_ble_eq_true rfl) dX3_readHead_4 ⟨Nat.zero_le _, Nat.zero_le _⟩ (fun H locs hw => ?_)
  refine lv_istore (lv' := [(4, .int r2), (0, .ref (a 4)), (1, .ref (a 2)), (2, .int x2), (3, .int x3)]) hx hb dX3_readHead_7 hl (by decide) rfl (fun ls hl => ?_)
  refine lv_aload_n hx hb dX3_readHead_9 rfl (lv_at hl 1 rfl) ?_
  refine r_get C hw hiX3_readHead_X3 4 (XWa_4 cI cZ a u3) rfl 2 (by decide) (by decide +kernel) rfl dX3_readHead_10 ?_
  refine lv_iload_n hx hb dX3_readHead_13 rfl (lv_at hl 4 rfl) ?_
  refine lv_iload hx hb dX3_readHead_14 (lv_at hl 0 rfl) ?_
  refine lv_sipush (v := 255) hx hb dX3_readHead_16 (by decide) ?_
  refine lv_icmp_ne (tgt := 26) hx hb dX3_readHead_19 (by decide) (fun c4 => ?_) (fun c4 => ?_)
  · have h := itF c4 h
    refine lv_iload hx hb dX3_readHead_26 (lv_at hl 0 rfl) ?_
    exact J28 x2 x3 r2 x3 u3 _ _ _ h hw (lv_sub hl [1, 2, 3, 4] rfl)
  · have h := itT c4 h
    refine lv_iconst (v := (-1)) hx hb dX3_readHead_22 (by decide) ?_
    refine lv_goto (tgt := 28) hx hb dX3_readHead_23 (by decide) ?_
    exact J28 x2 x3 (-1) x3 u3 _ _ _ h hw (lv_sub hl [1, 2, 3, 4] rfl)
