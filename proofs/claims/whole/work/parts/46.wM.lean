abbrev rmX8_end : Room := { frames := 6, cells := 0, slots := 0, locals := 137 }
theorem hiX8_end_X8 : ∀ w ∈ wsX80, w ∈ wsX8_end := by decide +kernel
set_option maxHeartbeats 4000000 in
set_option maxRecDepth 100000 in
theorem c_X8_end (l : Launch) (D : va_G) (cI cZ : ClassId) (z : Nat → Nat) (base : Nat) (a : Nat → Nat) (x1 : Int32) (u0 : St) (ro : Int32) (uo : St) (h : F_X8_end x1 u0 = some (ro, uo)) : MI l D [(cI, .int), (cZ, .boolean)] z base yX8_end wsX8_end rmX8_end [.ref (a 0), .int x1] (MW cI cZ a u0) ro (MW cI cZ a uo) := by
  refine MI.ofI (own := RX8) (cc := cX8_end) (maxL := 3) (by decide) rfl rfl (Nat.le_of_ble_eq_true rfl) ?_
  intro p e s m args below meth c A Q ls C hl hw hQ
  have hx := C.1.1
  have hb := C.1.2.1
  have J12 : ∀ (u0 : St) (H : Heap) (locs : List Loc) (ls : Array Slot), F_X8_end_12 u0 = some (ro, uo) → Wd D A s.heap H locs (MW cI cZ a u0) → lv_has ls 3 [(0, .ref (a 0))] → W p l e rmX8_end s m args below meth c H locs 0 0 Q (F0 m 12 ls []) := by
    intro u0 H locs ls h hw hl
    rw [F_X8_end_12] at h
    refine lv_aload_n hx hb dX8_end_12 rfl (lv_at hl 0 rfl) ?_
    refine lv_iconst (v := 0) hx hb dX8_end_13 (by decide) ?_
    obtain ⟨u1, eu1⟩ : ∃ y : St, y = st u0 0 1 0 := ⟨_, rfl⟩
    have h := nmE eu1 h
    refine r_put (ws' := (MW cI cZ a u1)) C hw hiX8_end_X8 tyX8 tyX8_ok nmX8 0 (MWa_0 cI cZ a u0) rfl 1 (by decide) (by decide +kernel) rfl (ty := .int) (by decide +kernel) rfl rfl (Nat.le_of_ble_eq_true rfl) (by rw [eu1]; exact MWs_0_1 cI cZ a u0 0) dX8_end_14 (fun H locs hw => ?_)
    refine lv_iconst (v := (-1)) hx hb dX8_end_17 (by decide) ?_
    exact r_iret (f := MW cI cZ a) hQ h hw dX8_end_18
  have J126 : ∀ (t0 : Int32) (u0 : St) (H : Heap) (locs : List Loc) (ls : Array Slot), F_X8_end_126 t0 u0 = some (ro, uo) → Wd D A s.heap H locs (MW cI cZ a u0) → lv_has ls 3 [(0, .ref (a 0))] → W p l e rmX8_end s m args below meth c H locs 0 0 Q (F0 m 126 ls [.int t0, .ref (a 0)]) := by
    intro t0 u0 H locs ls h hw hl
    rw [F_X8_end_126] at h
    obtain ⟨g1, h⟩ := boE h
    obtain ⟨u2, eu2⟩ : ∃ y : St, y = st u0 0 7 t0 := ⟨_, rfl⟩
    have h := nmE eu2 h
    refine r_put (ws' := (MW cI cZ a u2)) C hw hiX8_end_X8 tyX8 tyX8_ok nmX8 0 (MWa_0 cI cZ a u0) rfl 7 (by decide) (by decide +kernel) rfl (ty := .boolean) (by decide +kernel) (nar01 g1) (fit01 g1) (Nat.le_of_ble_eq_true rfl) (by rw [eu2]; exact MWs_0_7 cI cZ a u0 t0) dX8_end_126 (fun H locs hw => ?_)
    refine lv_aload_n hx hb dX8_end_129 rfl (lv_at hl 0 rfl) ?_
    refine r_get C hw hiX8_end_X8 0 (MWa_0 cI cZ a u2) rfl 7 (by decide) (by decide +kernel) rfl dX8_end_130 ?_
    refine lv_if_eq (tgt := 143) hx hb dX8_end_133 (by decide) (fun c3 => ?_) (fun c3 => ?_)
    · have h := itT c3 h
      refine lv_bipush (v := (-3)) hx hb dX8_end_143 (by decide) ?_
      refine lv_aload_n hx hb dX8_end_145 rfl (lv_at hl 0 rfl) ?_
      refine r_get C hw hiX8_end_X8 0 (MWa_0 cI cZ a u2) rfl 6 (by decide) (by decide +kernel) rfl dX8_end_146 ?_
      refine lv_isub hx hb dX8_end_149 ?_
      exact r_iret (f := MW cI cZ a) hQ h hw dX8_end_150
    · have h := itF c3 h
      refine lv_aload_n hx hb dX8_end_136 rfl (lv_at hl 0 rfl) ?_
      refine r_get C hw hiX8_end_X8 0 (MWa_0 cI cZ a u2) rfl 26 (by decide) (by decide +kernel) rfl dX8_end_137 ?_
      refine lv_goto (tgt := 150) hx hb dX8_end_140 (by decide) ?_
      exact r_iret (f := MW cI cZ a) hQ h hw dX8_end_150
  have J113 : ∀ (u0 : St) (H : Heap) (locs : List Loc) (ls : Array Slot), F_X8_end_113 u0 = some (ro, uo) → Wd D A s.heap H locs (MW cI cZ a u0) → lv_has ls 3 [(0, .ref (a 0))] → W p l e rmX8_end s m args below meth c H locs 0 0 Q (F0 m 113 ls []) := by
    intro u0 H locs ls h hw hl
    rw [F_X8_end_113] at h
    refine lv_aload_n hx hb dX8_end_113 rfl (lv_at hl 0 rfl) ?_
    refine lv_aload_n hx hb dX8_end_114 rfl (lv_at hl 0 rfl) ?_
    refine r_get C hw hiX8_end_X8 0 (MWa_0 cI cZ a u0) rfl 6 (by decide) (by decide +kernel) rfl dX8_end_115 ?_
    refine lv_if_ge (tgt := 125) hx hb dX8_end_118 (by decide) (fun c1 => ?_) (fun c1 => ?_)
    · have h := itT c1 h
      refine lv_iconst (v := 0) hx hb dX8_end_125 (by decide) ?_
      exact J126 0 u0 _ _ _ h hw hl
    · have h := itF c1 h
      refine lv_iconst (v := 1) hx hb dX8_end_121 (by decide) ?_
      refine lv_goto (tgt := 126) hx hb dX8_end_122 (by decide) ?_
      exact J126 1 u0 _ _ _ h hw hl
  have J94 : ∀ n94 : Nat, ∀ (x2 : Int32) (u0 : St) (H : Heap) (locs : List Loc) (ls : Array Slot), F_X8_end_94 n94 x2 u0 = some (ro, uo) → Wd D A s.heap H locs (MW cI cZ a u0) → lv_has ls 3 [(0, .ref (a 0)), (2, .int x2)] → W p l e rmX8_end s m args below meth c H locs 0 0 Q (F0 m 94 ls []) := by
    intro n94
    induction n94 with
    | zero => intro x2 u0 H locs ls h; rw [F_X8_end_94] at h; cases h
    | succ n94 ih94 =>
      intro x2 u0 H locs ls h hw hl
      rw [F_X8_end_94] at h
      refine lv_iload_n hx hb dX8_end_94 rfl (lv_at hl 1 rfl) ?_
      refine lv_aload_n hx hb dX8_end_95 rfl (lv_at hl 0 rfl) ?_
      refine r_get C hw hiX8_end_X8 0 (MWa_0 cI cZ a u0) rfl 15 (by decide) (by decide +kernel) rfl dX8_end_96 ?_
      refine lv_icmp_ge (tgt := 113) hx hb dX8_end_99 (by decide) (fun c1 => ?_) (fun c1 => ?_)
      · have h := itT c1 h
        exact J113 u0 _ _ _ h hw (lv_sub hl [0] rfl)
      · have h := itF c1 h
        refine lv_aload_n hx hb dX8_end_102 rfl (lv_at hl 0 rfl) ?_
        refine lv_iload_n hx hb dX8_end_103 rfl (lv_at hl 1 rfl) ?_
        obtain ⟨u3, h2, h⟩ := b1E h
        refine r_callVv (rest := []) C hw (c_X8_checkCode l D cI cZ z base a x2 u0 u3 h2) (cwV 1 C.1.2.2.2.2 gX8_end_X8_checkCode rfl rfl rfl (by decide +kernel) ⟨Nat.le_of_ble_eq_true rfl, Nat.le_of_ble_eq_true rfl⟩) (va_recv C.2.1 hw.1 (ci := 7) (q0 := 0) rfl (MWa_0 cI cZ a u0)) rfl hl.1 rfl (Nat.le_of_ble_eq_true rfl) dX8_end_104 ⟨Nat.zero_le _, Nat.zero_le _⟩ (fun H locs hw => ?_)
        obtain ⟨v4, ev4⟩ : ∃ y : Int32, y = x2 + 1 := ⟨_, rfl⟩
        have h := nmE ev4 h
        refine lv_iinc (v := v4) (lv' := [(2, .int v4), (0, .ref (a 0))]) hx hb dX8_end_107 hl (k := 1) rfl (by rw [ev4]; rfl) (by decide) rfl (fun ls hl => ?_)
        refine lv_goto (tgt := 94) hx hb dX8_end_110 (by decide) ?_
        exact ih94 v4 u3 _ _ _ h hw (lv_sub hl [1, 0] rfl)
  have J26 : ∀ n26 : Nat, ∀ (x1 x2 : Int32) (u0 : St) (H : Heap) (locs : List Loc) (ls : Array Slot), F_X8_end_26 n26 x1 x2 u0 = some (ro, uo) → Wd D A s.heap H locs (MW cI cZ a u0) → lv_has ls 3 [(0, .ref (a 0)), (1, .int x1), (2, .int x2)] → W p l e rmX8_end s m args below meth c H locs 0 0 Q (F0 m 26 ls []) := by
    intro n26
    induction n26 with
    | zero => intro x1 x2 u0 H locs ls h; rw [F_X8_end_26] at h; cases h
    | succ n26 ih26 =>
      intro x1 x2 u0 H locs ls h hw hl
      rw [F_X8_end_26] at h
      refine lv_iload_n hx hb dX8_end_26 rfl (lv_at hl 2 rfl) ?_
      refine lv_iload_n hx hb dX8_end_27 rfl (lv_at hl 1 rfl) ?_
      refine lv_icmp_ge (tgt := 56) hx hb dX8_end_28 (by decide) (fun c1 => ?_) (fun c1 => ?_)
      · have h := itT c1 h
        refine lv_aload_n hx hb dX8_end_56 rfl (lv_at hl 0 rfl) ?_
        refine lv_iconst (v := 0) hx hb dX8_end_57 (by decide) ?_
        obtain ⟨u2, eu2⟩ : ∃ y : St, y = st u0 0 1 0 := ⟨_, rfl⟩
        have h := nmE eu2 h
        refine r_put (ws' := (MW cI cZ a u2)) C hw hiX8_end_X8 tyX8 tyX8_ok nmX8 0 (MWa_0 cI cZ a u0) rfl 1 (by decide) (by decide +kernel) rfl (ty := .int) (by decide +kernel) rfl rfl (Nat.le_of_ble_eq_true rfl) (by rw [eu2]; exact MWs_0_1 cI cZ a u0 0) dX8_end_58 (fun H locs hw => ?_)
        refine lv_aload_n hx hb dX8_end_61 rfl (lv_at hl 0 rfl) ?_
        refine lv_iconst (v := 0) hx hb dX8_end_62 (by decide) ?_
        obtain ⟨u3, eu3⟩ : ∃ y : St, y = st u2 0 5 0 := ⟨_, rfl⟩
        have h := nmE eu3 h
        refine r_put (ws' := (MW cI cZ a u3)) C hw hiX8_end_X8 tyX8 tyX8_ok nmX8 0 (MWa_0 cI cZ a u2) rfl 5 (by decide) (by decide +kernel) rfl (ty := .int) (by decide +kernel) rfl rfl (Nat.le_of_ble_eq_true rfl) (by rw [eu3]; exact MWs_0_5 cI cZ a u2 0) dX8_end_63 (fun H locs hw => ?_)
        refine lv_aload_n hx hb dX8_end_66 rfl (lv_at hl 0 rfl) ?_
        refine lv_iconst (v := (-1)) hx hb dX8_end_67 (by decide) ?_
        obtain ⟨u4, eu4⟩ : ∃ y : St, y = st u3 0 6 (-1) := ⟨_, rfl⟩
        have h := nmE eu4 h
        refine r_put (ws' := (MW cI cZ a u4)) C hw hiX8_end_X8 tyX8 tyX8_ok nmX8 0 (MWa_0 cI cZ a u3) rfl 6 (by decide) (by decide +kernel) rfl (ty := .int) (by decide +kernel) rfl rfl (Nat.le_of_ble_eq_true rfl) (by rw [eu4]; exact MWs_0_6 cI cZ a u3 (-1)) dX8_end_68 (fun H locs hw => ?_)
        refine lv_aload_n hx hb dX8_end_71 rfl (lv_at hl 0 rfl) ?_
        refine lv_iconst (v := 0) hx hb dX8_end_72 (by decide) ?_
        obtain ⟨u5, eu5⟩ : ∃ y : St, y = st u4 0 26 0 := ⟨_, rfl⟩
        have h := nmE eu5 h
        refine r_put (ws' := (MW cI cZ a u5)) C hw hiX8_end_X8 tyX8 tyX8_ok nmX8 0 (MWa_0 cI cZ a u4) rfl 26 (by decide) (by decide +kernel) rfl (ty := .int) (by decide +kernel) rfl rfl (Nat.le_of_ble_eq_true rfl) (by rw [eu5]; exact MWs_0_26 cI cZ a u4 0) dX8_end_73 (fun H locs hw => ?_)
        refine lv_aload_n hx hb dX8_end_76 rfl (lv_at hl 0 rfl) ?_
        refine lv_iconst (v := 0) hx hb dX8_end_77 (by decide) ?_
        obtain ⟨u6, eu6⟩ : ∃ y : St, y = st u5 0 7 0 := ⟨_, rfl⟩
        have h := nmE eu6 h
        refine r_put (ws' := (MW cI cZ a u6)) C hw hiX8_end_X8 tyX8 tyX8_ok nmX8 0 (MWa_0 cI cZ a u5) rfl 7 (by decide) (by decide +kernel) rfl (ty := .boolean) (by decide +kernel) rfl rfl (Nat.le_of_ble_eq_true rfl) (by rw [eu6]; exact MWs_0_7 cI cZ a u5 0) dX8_end_78 (fun H locs hw => ?_)
        refine lv_aload_n hx hb dX8_end_81 rfl (lv_at hl 0 rfl) ?_
        obtain ⟨r8, u9, h7, h⟩ := b2E h
        refine r_callV (rest := []) C hw (c_X8_readAll l D cI cZ z base a u6 r8 u9 h7) (cwV 0 C.1.2.2.2.2 gX8_end_X8_readAll rfl rfl rfl (by decide +kernel) ⟨Nat.le_of_ble_eq_true rfl, Nat.le_of_ble_eq_true rfl⟩) (va_recv C.2.1 hw.1 (ci := 7) (q0 := 0) rfl (MWa_0 cI cZ a u6)) rfl hl.1 rfl (Nat.le_of_ble_eq_true rfl) dX8_end_82 ⟨Nat.zero_le _, Nat.zero_le _⟩ (fun H locs hw => ?_)
        refine lv_if_eq (tgt := 113) hx hb dX8_end_85 (by decide) (fun c10 => ?_) (fun c10 => ?_)
        · have h := itT c10 h
          exact J113 u9 _ _ _ h hw (lv_sub hl [0] rfl)
        · have h := itF c10 h
          refine lv_aload_n hx hb dX8_end_88 rfl (lv_at hl 0 rfl) ?_
          obtain ⟨u12, h11, h⟩ := b1E h
          refine r_callVv (rest := []) C hw (c_X8_checkSlots l D cI cZ z base a u9 u12 h11) (cwV 0 C.1.2.2.2.2 gX8_end_X8_checkSlots rfl rfl rfl (by decide +kernel) ⟨Nat.le_of_ble_eq_true rfl, Nat.le_of_ble_eq_true rfl⟩) (va_recv C.2.1 hw.1 (ci := 7) (q0 := 0) rfl (MWa_0 cI cZ a u9)) rfl hl.1 rfl (Nat.le_of_ble_eq_true rfl) dX8_end_89 ⟨Nat.zero_le _, Nat.zero_le _⟩ (fun H locs hw => ?_)
          refine lv_iconst (v := 0) hx hb dX8_end_92 (by decide) ?_
          refine lv_istore_n (lv' := [(2, .int 0), (0, .ref (a 0)), (1, .int x1)]) hx hb dX8_end_93 rfl hl (by decide) rfl (fun ls hl => ?_)
          exact J94 fu 0 u12 _ _ _ h hw (lv_sub hl [1, 0] rfl)
      · have h := itF c1 h
        refine lv_aload_n hx hb dX8_end_31 rfl (lv_at hl 0 rfl) ?_
        refine r_get C hw hiX8_end_X8 0 (MWa_0 cI cZ a u0) rfl 2 (by decide) (by decide +kernel) rfl dX8_end_32 ?_
        refine lv_iload_n hx hb dX8_end_35 rfl (lv_at hl 2 rfl) ?_
        refine lv_aload_n hx hb dX8_end_36 rfl (lv_at hl 0 rfl) ?_
        refine r_get C hw hiX8_end_X8 0 (MWa_0 cI cZ a u0) rfl 0 (by decide) (by decide +kernel) rfl dX8_end_37 ?_
        refine lv_iload_n hx hb dX8_end_40 rfl (lv_at hl 2 rfl) ?_
        obtain ⟨g13, h⟩ := ixE h
        refine r_ald C hw 1 0 (MWa_1 cI cZ a u0) rfl g13 dX8_end_41 ?_
        obtain ⟨g14, h⟩ := ixE h
        obtain ⟨u15, eu15⟩ : ∃ y : St, y = st u0 2 (x2).toNatClampNeg (u0 1 (x2).toNatClampNeg) := ⟨_, rfl⟩
        have h := nmE eu15 h
        refine r_ast (ws' := (MW cI cZ a u15)) C hw 2 0 (MWa_2 cI cZ a u0) rfl g14 (by rw [eu15]; exact MWs_2 cI cZ a u0 _ (u0 1 (x2).toNatClampNeg)) dX8_end_42 (fun H locs hw => ?_)
        refine lv_aload_n hx hb dX8_end_43 rfl (lv_at hl 0 rfl) ?_
        refine r_get C hw hiX8_end_X8 0 (MWa_0 cI cZ a u15) rfl 3 (by decide) (by decide +kernel) rfl dX8_end_44 ?_
        refine lv_iload_n hx hb dX8_end_47 rfl (lv_at hl 2 rfl) ?_
        refine lv_iconst (v := 0) hx hb dX8_end_48 (by decide) ?_
        obtain ⟨g16, h⟩ := ixE h
        obtain ⟨u17, eu17⟩ : ∃ y : St, y = st u15 3 (x2).toNatClampNeg 0 := ⟨_, rfl⟩
        have h := nmE eu17 h
        refine r_zst (ws' := (MW cI cZ a u17)) C hw 3 1 (MWa_3 cI cZ a u15) rfl g16 rfl (by rw [eu17]; exact MWs_3 cI cZ a u15 _ 0) dX8_end_49 (fun H locs hw => ?_)
        obtain ⟨v18, ev18⟩ : ∃ y : Int32, y = x2 + 1 := ⟨_, rfl⟩
        have h := nmE ev18 h
        refine lv_iinc (v := v18) (lv' := [(2, .int v18), (0, .ref (a 0)), (1, .int x1)]) hx hb dX8_end_50 hl (k := 2) rfl (by rw [ev18]; rfl) (by decide) rfl (fun ls hl => ?_)
        refine lv_goto (tgt := 26) hx hb dX8_end_53 (by decide) ?_
        exact ih26 x1 v18 u17 _ _ _ h hw (lv_sub hl [1, 2, 0] rfl)
  have hl : lv_has ls 3 [(0, .ref (a 0)), (1, .int x1)] := hl
  rw [F_X8_end] at h
  refine lv_iload_n hx hb dX8_end_0 rfl (lv_at hl 1 rfl) ?_
  refine lv_if_lt (tgt := 12) hx hb dX8_end_1 (by decide) (fun c1 => ?_) (fun c1 => ?_)
  · have h := itT c1 h
    exact J12 u0 _ _ _ h hw (lv_sub hl [0] rfl)
  · have h := itF c1 h
    refine lv_iload_n hx hb dX8_end_4 rfl (lv_at hl 1 rfl) ?_
    refine lv_aload_n hx hb dX8_end_5 rfl (lv_at hl 0 rfl) ?_
    refine r_get C hw hiX8_end_X8 0 (MWa_0 cI cZ a u0) rfl 1 (by decide) (by decide +kernel) rfl dX8_end_6 ?_
    refine lv_icmp_le (tgt := 19) hx hb dX8_end_9 (by decide) (fun c2 => ?_) (fun c2 => ?_)
    · have h := itT c2 h
      refine lv_aload_n hx hb dX8_end_19 rfl (lv_at hl 0 rfl) ?_
      refine lv_iload_n hx hb dX8_end_20 rfl (lv_at hl 1 rfl) ?_
      obtain ⟨u3, eu3⟩ : ∃ y : St, y = st u0 0 4 x1 := ⟨_, rfl⟩
      have h := nmE eu3 h
      refine r_put (ws' := (MW cI cZ a u3)) C hw hiX8_end_X8 tyX8 tyX8_ok nmX8 0 (MWa_0 cI cZ a u0) rfl 4 (by decide) (by decide +kernel) rfl (ty := .int) (by decide +kernel) rfl rfl (Nat.le_of_ble_eq_true rfl) (by rw [eu3]; exact MWs_0_4 cI cZ a u0 x1) dX8_end_21 (fun H locs hw => ?_)
      refine lv_iconst (v := 0) hx hb dX8_end_24 (by decide) ?_
      refine lv_istore_n (lv' := [(2, .int 0), (0, .ref (a 0)), (1, .int x1)]) hx hb dX8_end_25 rfl hl (by decide) rfl (fun ls hl => ?_)
      exact J26 fu x1 0 u3 _ _ _ h hw (lv_sub hl [1, 2, 0] rfl)
    · have h := itF c2 h
      exact J12 u0 _ _ _ h hw (lv_sub hl [0] rfl)
abbrev rmX8_count : Room := { frames := 0, cells := 0, slots := 0, locals := 0 }
theorem hiX8_count_X8 : ∀ w ∈ wsX80, w ∈ wsX8_count := by decide +kernel
set_option maxHeartbeats 4000000 in
set_option maxRecDepth 100000 in
theorem c_X8_count (l : Launch) (D : va_G) (cI cZ : ClassId) (z : Nat → Nat) (base : Nat) (a : Nat → Nat) (x1 : Int32) (u0 : St) (ro : Int32) (h : F_X8_count x1 u0 = some ro) : MI l D [(cI, .int), (cZ, .boolean)] z base yX8_count wsX8_count rmX8_count [.ref (a 0), .int x1] (MW cI cZ a u0) ro (MW cI cZ a u0) := by
  refine MI.ofI (own := RX8) (cc := cX8_count) (maxL := 2) (by decide) rfl rfl (Nat.le_of_ble_eq_true rfl) ?_
  intro p e s m args below meth c A Q ls C hl hw hQ
  have hx := C.1.1
  have hb := C.1.2.1
  have hl : lv_has ls 2 [(0, .ref (a 0)), (1, .int x1)] := hl
  rw [F_X8_count] at h
  refine lv_iload_n hx hb dX8_count_0 rfl (lv_at hl 1 rfl) ?_
  refine lv_if_lt (tgt := 9) hx hb dX8_count_1 (by decide) (fun c1 => ?_) (fun c1 => ?_)
  · have h := itT c1 h
    refine lv_iconst (v := (-1)) hx hb dX8_count_9 (by decide) ?_
    exact r_iretP hQ h hw dX8_count_10
  · have h := itF c1 h
    refine lv_iload_n hx hb dX8_count_4 rfl (lv_at hl 1 rfl) ?_
    refine lv_iconst (v := 3) hx hb dX8_count_5 (by decide) ?_
    refine lv_icmp_le (tgt := 11) hx hb dX8_count_6 (by decide) (fun c2 => ?_) (fun c2 => ?_)
    · have h := itT c2 h
      refine lv_aload_n hx hb dX8_count_11 rfl (lv_at hl 0 rfl) ?_
      refine r_get C hw hiX8_count_X8 0 (MWa_0 cI cZ a u0) rfl 7 (by decide) (by decide +kernel) rfl dX8_count_12 ?_
      refine lv_if_ne (tgt := 29) hx hb dX8_count_15 (by decide) (fun c3 => ?_) (fun c3 => ?_)
      · have h := itF c3 h
        refine lv_iload_n hx hb dX8_count_29 rfl (lv_at hl 1 rfl) ?_
        refine lv_if_ne (tgt := 40) hx hb dX8_count_30 (by decide) (fun c4 => ?_) (fun c4 => ?_)
        · have h := itF c4 h
          refine lv_iload_n hx hb dX8_count_40 rfl (lv_at hl 1 rfl) ?_
          refine lv_iconst (v := 1) hx hb dX8_count_41 (by decide) ?_
          refine lv_icmp_ne (tgt := 52) hx hb dX8_count_42 (by decide) (fun c5 => ?_) (fun c5 => ?_)
          · have h := itF c5 h
            refine lv_iload_n hx hb dX8_count_52 rfl (lv_at hl 1 rfl) ?_
            refine lv_iconst (v := 2) hx hb dX8_count_53 (by decide) ?_
            refine lv_icmp_ne (tgt := 64) hx hb dX8_count_54 (by decide) (fun c6 => ?_) (fun c6 => ?_)
            · have h := itF c6 h
              refine lv_aload_n hx hb dX8_count_64 rfl (lv_at hl 0 rfl) ?_
              refine r_get C hw hiX8_count_X8 0 (MWa_0 cI cZ a u0) rfl 27 (by decide) (by decide +kernel) rfl dX8_count_65 ?_
              exact r_iretP hQ h hw dX8_count_68
            · have h := itT c6 h
              refine lv_aload_n hx hb dX8_count_57 rfl (lv_at hl 0 rfl) ?_
              refine r_get C hw hiX8_count_X8 0 (MWa_0 cI cZ a u0) rfl 26 (by decide) (by decide +kernel) rfl dX8_count_58 ?_
              refine lv_goto (tgt := 68) hx hb dX8_count_61 (by decide) ?_
              exact r_iretP hQ h hw dX8_count_68
          · have h := itT c5 h
            refine lv_aload_n hx hb dX8_count_45 rfl (lv_at hl 0 rfl) ?_
            refine r_get C hw hiX8_count_X8 0 (MWa_0 cI cZ a u0) rfl 15 (by decide) (by decide +kernel) rfl dX8_count_46 ?_
            refine lv_goto (tgt := 68) hx hb dX8_count_49 (by decide) ?_
            exact r_iretP hQ h hw dX8_count_68
        · have h := itT c4 h
          refine lv_aload_n hx hb dX8_count_33 rfl (lv_at hl 0 rfl) ?_
          refine r_get C hw hiX8_count_X8 0 (MWa_0 cI cZ a u0) rfl 8 (by decide) (by decide +kernel) rfl dX8_count_34 ?_
          refine lv_goto (tgt := 68) hx hb dX8_count_37 (by decide) ?_
          exact r_iretP hQ h hw dX8_count_68
      · have h := itT c3 h
        refine lv_iload_n hx hb dX8_count_18 rfl (lv_at hl 1 rfl) ?_
        refine lv_iconst (v := 3) hx hb dX8_count_19 (by decide) ?_
        refine lv_icmp_ne (tgt := 27) hx hb dX8_count_20 (by decide) (fun c7 => ?_) (fun c7 => ?_)
        · have h := itF c7 h
          refine lv_iconst (v := 0) hx hb dX8_count_27 (by decide) ?_
          exact r_iretP hQ h hw dX8_count_28
        · have h := itT c7 h
          refine lv_iconst (v := (-1)) hx hb dX8_count_23 (by decide) ?_
          refine lv_goto (tgt := 28) hx hb dX8_count_24 (by decide) ?_
          exact r_iretP hQ h hw dX8_count_28
    · have h := itF c2 h
      refine lv_iconst (v := (-1)) hx hb dX8_count_9 (by decide) ?_
      exact r_iretP hQ h hw dX8_count_10
abbrev rmX8_isClass : Room := { frames := 0, cells := 0, slots := 0, locals := 0 }
theorem hiX8_isClass_X8 : ∀ w ∈ wsX80, w ∈ wsX8_isClass := by decide +kernel
set_option maxHeartbeats 4000000 in
set_option maxRecDepth 100000 in
theorem c_X8_isClass (l : Launch) (D : va_G) (cI cZ : ClassId) (z : Nat → Nat) (base : Nat) (a : Nat → Nat) (x1 : Int32) (u0 : St) (ro : Int32) (h : F_X8_isClass x1 u0 = some ro) : MI l D [(cI, .int), (cZ, .boolean)] z base yX8_isClass wsX8_isClass rmX8_isClass [.ref (a 0), .int x1] (MW cI cZ a u0) ro (MW cI cZ a u0) := by
  refine MI.ofZ (own := RX8) (cc := cX8_isClass) (maxL := 2) (by decide) rfl rfl (Nat.le_of_ble_eq_true rfl) ?_
  intro p e s m args below meth c A Q ls C hl hw hQ
  have hx := C.1.1
  have hb := C.1.2.1
  have hl : lv_has ls 2 [(0, .ref (a 0)), (1, .int x1)] := hl
  rw [F_X8_isClass] at h
  refine lv_aload_n hx hb dX8_isClass_0 rfl (lv_at hl 0 rfl) ?_
  refine r_get C hw hiX8_isClass_X8 0 (MWa_0 cI cZ a u0) rfl 7 (by decide) (by decide +kernel) rfl dX8_isClass_1 ?_
  refine lv_if_eq (tgt := 23) hx hb dX8_isClass_4 (by decide) (fun c1 => ?_) (fun c1 => ?_)
  · have h := itT c1 h
    refine lv_iconst (v := 0) hx hb dX8_isClass_23 (by decide) ?_
    exact r_zretP hQ (by decide) h hw dX8_isClass_24
  · have h := itF c1 h
    refine lv_iload_n hx hb dX8_isClass_7 rfl (lv_at hl 1 rfl) ?_
    refine lv_if_lt (tgt := 23) hx hb dX8_isClass_8 (by decide) (fun c2 => ?_) (fun c2 => ?_)
    · have h := itT c2 h
      refine lv_iconst (v := 0) hx hb dX8_isClass_23 (by decide) ?_
      exact r_zretP hQ (by decide) h hw dX8_isClass_24
    · have h := itF c2 h
      refine lv_iload_n hx hb dX8_isClass_11 rfl (lv_at hl 1 rfl) ?_
      refine lv_aload_n hx hb dX8_isClass_12 rfl (lv_at hl 0 rfl) ?_
      refine r_get C hw hiX8_isClass_X8 0 (MWa_0 cI cZ a u0) rfl 8 (by decide) (by decide +kernel) rfl dX8_isClass_13 ?_
      refine lv_icmp_ge (tgt := 23) hx hb dX8_isClass_16 (by decide) (fun c3 => ?_) (fun c3 => ?_)
      · have h := itT c3 h
        refine lv_iconst (v := 0) hx hb dX8_isClass_23 (by decide) ?_
        exact r_zretP hQ (by decide) h hw dX8_isClass_24
      · have h := itF c3 h
        refine lv_iconst (v := 1) hx hb dX8_isClass_19 (by decide) ?_
        refine lv_goto (tgt := 24) hx hb dX8_isClass_20 (by decide) ?_
        exact r_zretP hQ (by decide) h hw dX8_isClass_24
abbrev rmX8_isMethod : Room := { frames := 0, cells := 0, slots := 0, locals := 0 }
theorem hiX8_isMethod_X8 : ∀ w ∈ wsX80, w ∈ wsX8_isMethod := by decide +kernel
set_option maxHeartbeats 4000000 in
set_option maxRecDepth 100000 in
theorem c_X8_isMethod (l : Launch) (D : va_G) (cI cZ : ClassId) (z : Nat → Nat) (base : Nat) (a : Nat → Nat) (x1 : Int32) (u0 : St) (ro : Int32) (h : F_X8_isMethod x1 u0 = some ro) : MI l D [(cI, .int), (cZ, .boolean)] z base yX8_isMethod wsX8_isMethod rmX8_isMethod [.ref (a 0), .int x1] (MW cI cZ a u0) ro (MW cI cZ a u0) := by
  refine MI.ofZ (own := RX8) (cc := cX8_isMethod) (maxL := 2) (by decide) rfl rfl (Nat.le_of_ble_eq_true rfl) ?_
  intro p e s m args below meth c A Q ls C hl hw hQ
  have hx := C.1.1
  have hb := C.1.2.1
  have hl : lv_has ls 2 [(0, .ref (a 0)), (1, .int x1)] := hl
  rw [F_X8_isMethod] at h
  refine lv_aload_n hx hb dX8_isMethod_0 rfl (lv_at hl 0 rfl) ?_
  refine r_get C hw hiX8_isMethod_X8 0 (MWa_0 cI cZ a u0) rfl 7 (by decide) (by decide +kernel) rfl dX8_isMethod_1 ?_
  refine lv_if_eq (tgt := 23) hx hb dX8_isMethod_4 (by decide) (fun c1 => ?_) (fun c1 => ?_)
  · have h := itT c1 h
    refine lv_iconst (v := 0) hx hb dX8_isMethod_23 (by decide) ?_
    exact r_zretP hQ (by decide) h hw dX8_isMethod_24
  · have h := itF c1 h
    refine lv_iload_n hx hb dX8_isMethod_7 rfl (lv_at hl 1 rfl) ?_
    refine lv_if_lt (tgt := 23) hx hb dX8_isMethod_8 (by decide) (fun c2 => ?_) (fun c2 => ?_)
    · have h := itT c2 h
      refine lv_iconst (v := 0) hx hb dX8_isMethod_23 (by decide) ?_
      exact r_zretP hQ (by decide) h hw dX8_isMethod_24
    · have h := itF c2 h
      refine lv_iload_n hx hb dX8_isMethod_11 rfl (lv_at hl 1 rfl) ?_
      refine lv_aload_n hx hb dX8_isMethod_12 rfl (lv_at hl 0 rfl) ?_
      refine r_get C hw hiX8_isMethod_X8 0 (MWa_0 cI cZ a u0) rfl 15 (by decide) (by decide +kernel) rfl dX8_isMethod_13 ?_
      refine lv_icmp_ge (tgt := 23) hx hb dX8_isMethod_16 (by decide) (fun c3 => ?_) (fun c3 => ?_)
      · have h := itT c3 h
        refine lv_iconst (v := 0) hx hb dX8_isMethod_23 (by decide) ?_
        exact r_zretP hQ (by decide) h hw dX8_isMethod_24
      · have h := itF c3 h
        refine lv_iconst (v := 1) hx hb dX8_isMethod_19 (by decide) ?_
        refine lv_goto (tgt := 24) hx hb dX8_isMethod_20 (by decide) ?_
        exact r_zretP hQ (by decide) h hw dX8_isMethod_24
abbrev rmX8_classOf : Room := { frames := 1, cells := 0, slots := 0, locals := 21 }
theorem hiX8_classOf_X8 : ∀ w ∈ wsX80, w ∈ wsX8_classOf := by decide +kernel
set_option maxHeartbeats 4000000 in
set_option maxRecDepth 100000 in
theorem c_X8_classOf (l : Launch) (D : va_G) (cI cZ : ClassId) (z : Nat → Nat) (base : Nat) (a : Nat → Nat) (x1 : Int32) (x2 : Int32) (x3 : Int32) (u0 : St) (ro : Int32) (h : F_X8_classOf x1 x2 x3 u0 = some ro) : MI l D [(cI, .int), (cZ, .boolean)] z base yX8_classOf wsX8_classOf rmX8_classOf [.ref (a 0), .int x1, .int x2, .int x3] (MW cI cZ a u0) ro (MW cI cZ a u0) := by
  refine MI.ofI (own := RX8) (cc := cX8_classOf) (maxL := 4) (by decide) rfl rfl (Nat.le_of_ble_eq_true rfl) ?_
  intro p e s m args below meth c A Q ls C hl hw hQ
  have hx := C.1.1
  have hb := C.1.2.1
  have hl : lv_has ls 4 [(0, .ref (a 0)), (1, .int x1), (2, .int x2), (3, .int x3)] := hl
  rw [F_X8_classOf] at h
  refine lv_aload_n hx hb dX8_classOf_0 rfl (lv_at hl 0 rfl) ?_
  refine lv_iload_n hx hb dX8_classOf_1 rfl (lv_at hl 1 rfl) ?_
  obtain ⟨r2, h1, h⟩ := b1E h
  refine r_callV (rest := []) C hw (c_X8_isClass l D cI cZ z base a x1 u0 r2 h1) (cwV 1 C.1.2.2.2.2 gX8_classOf_X8_isClass rfl rfl rfl (by decide +kernel) ⟨Nat.le_of_ble_eq_true rfl, Nat.le_of_ble_eq_true rfl⟩) (va_recv C.2.1 hw.1 (ci := 7) (q0 := 0) rfl (MWa_0 cI cZ a u0)) rfl hl.1 rfl (Nat.le_of_ble_eq_true rfl) dX8_classOf_2 ⟨Nat.zero_le _, Nat.zero_le _⟩ (fun H locs hw => ?_)
  refine lv_if_ne (tgt := 10) hx hb dX8_classOf_5 (by decide) (fun c3 => ?_) (fun c3 => ?_)
  · have h := itF c3 h
    refine lv_iload_n hx hb dX8_classOf_10 rfl (lv_at hl 2 rfl) ?_
    by_cases c4 : x2 = 0
    · have h := itT c4 h
      refine r_tabIn (k := 0) (tgt := 40) C c4 dX8_classOf_11 (by decide) (by decide) rfl (by decide) ?_
      refine lv_aload_n hx hb dX8_classOf_40 rfl (lv_at hl 0 rfl) ?_
      refine r_get C hw hiX8_classOf_X8 0 (MWa_0 cI cZ a u0) rfl 9 (by decide) (by decide +kernel) rfl dX8_classOf_41 ?_
      refine lv_iload_n hx hb dX8_classOf_44 rfl (lv_at hl 1 rfl) ?_
      obtain ⟨g5, h⟩ := ixE h
      refine r_ald C hw 4 0 (MWa_4 cI cZ a u0) rfl g5 dX8_classOf_45 ?_
      exact r_iretP hQ h hw dX8_classOf_46
    have h := itF c4 h
    by_cases c6 : x2 = 1
    · have h := itT c6 h
      refine r_tabIn (k := 1) (tgt := 47) C c6 dX8_classOf_11 (by decide) (by decide) rfl (by decide) ?_
      refine lv_aload_n hx hb dX8_classOf_47 rfl (lv_at hl 0 rfl) ?_
      refine r_get C hw hiX8_classOf_X8 0 (MWa_0 cI cZ a u0) rfl 10 (by decide) (by decide +kernel) rfl dX8_classOf_48 ?_
      refine lv_iload_n hx hb dX8_classOf_51 rfl (lv_at hl 1 rfl) ?_
      obtain ⟨g7, h⟩ := ixE h
      refine r_ald C hw 5 0 (MWa_5 cI cZ a u0) rfl g7 dX8_classOf_52 ?_
      exact r_iretP hQ h hw dX8_classOf_53
    have h := itF c6 h
    by_cases c8 : x2 = 2
    · have h := itT c8 h
      refine r_tabIn (k := 2) (tgt := 54) C c8 dX8_classOf_11 (by decide) (by decide) rfl (by decide) ?_
      refine lv_iload_n hx hb dX8_classOf_54 rfl (lv_at hl 3 rfl) ?_
      refine lv_if_lt (tgt := 82) hx hb dX8_classOf_55 (by decide) (fun c9 => ?_) (fun c9 => ?_)
      · have h := itT c9 h
        refine lv_iconst (v := (-1)) hx hb dX8_classOf_82 (by decide) ?_
        exact r_iretP hQ h hw dX8_classOf_83
      · have h := itF c9 h
        refine lv_iload_n hx hb dX8_classOf_58 rfl (lv_at hl 3 rfl) ?_
        refine lv_aload_n hx hb dX8_classOf_59 rfl (lv_at hl 0 rfl) ?_
        refine r_get C hw hiX8_classOf_X8 0 (MWa_0 cI cZ a u0) rfl 10 (by decide) (by decide +kernel) rfl dX8_classOf_60 ?_
        refine lv_iload_n hx hb dX8_classOf_63 rfl (lv_at hl 1 rfl) ?_
        obtain ⟨g10, h⟩ := ixE h
        refine r_ald C hw 5 0 (MWa_5 cI cZ a u0) rfl g10 dX8_classOf_64 ?_
        refine lv_icmp_ge (tgt := 82) hx hb dX8_classOf_65 (by decide) (fun c11 => ?_) (fun c11 => ?_)
        · have h := itT c11 h
          refine lv_iconst (v := (-1)) hx hb dX8_classOf_82 (by decide) ?_
          exact r_iretP hQ h hw dX8_classOf_83
        · have h := itF c11 h
          refine lv_aload_n hx hb dX8_classOf_68 rfl (lv_at hl 0 rfl) ?_
          refine r_get C hw hiX8_classOf_X8 0 (MWa_0 cI cZ a u0) rfl 11 (by decide) (by decide +kernel) rfl dX8_classOf_69 ?_
          refine lv_bipush (v := 15) hx hb dX8_classOf_72 (by decide) ?_
          refine lv_iload_n hx hb dX8_classOf_74 rfl (lv_at hl 1 rfl) ?_
          refine lv_imul hx hb dX8_classOf_75 ?_
          refine lv_iload_n hx hb dX8_classOf_76 rfl (lv_at hl 3 rfl) ?_
          refine lv_iadd hx hb dX8_classOf_77 ?_
          obtain ⟨g12, h⟩ := ixE h
          refine r_ald C hw 6 0 (MWa_6 cI cZ a u0) rfl g12 dX8_classOf_78 ?_
          refine lv_goto (tgt := 83) hx hb dX8_classOf_79 (by decide) ?_
          exact r_iretP hQ h hw dX8_classOf_83
    have h := itF c8 h
    by_cases c13 : x2 = 3
    · have h := itT c13 h
      refine r_tabIn (k := 3) (tgt := 84) C c13 dX8_classOf_11 (by decide) (by decide) rfl (by decide) ?_
      refine lv_iload_n hx hb dX8_classOf_84 rfl (lv_at hl 3 rfl) ?_
      refine lv_if_lt (tgt := 108) hx hb dX8_classOf_85 (by decide) (fun c14 => ?_) (fun c14 => ?_)
      · have h := itT c14 h
        refine lv_iconst (v := (-1)) hx hb dX8_classOf_108 (by decide) ?_
        exact r_iretP hQ h hw dX8_classOf_109
      · have h := itF c14 h
        refine lv_iload_n hx hb dX8_classOf_88 rfl (lv_at hl 3 rfl) ?_
        refine lv_bipush (v := 16) hx hb dX8_classOf_89 (by decide) ?_
        refine lv_icmp_ge (tgt := 108) hx hb dX8_classOf_91 (by decide) (fun c15 => ?_) (fun c15 => ?_)
        · have h := itT c15 h
          refine lv_iconst (v := (-1)) hx hb dX8_classOf_108 (by decide) ?_
          exact r_iretP hQ h hw dX8_classOf_109
        · have h := itF c15 h
          refine lv_aload_n hx hb dX8_classOf_94 rfl (lv_at hl 0 rfl) ?_
          refine r_get C hw hiX8_classOf_X8 0 (MWa_0 cI cZ a u0) rfl 12 (by decide) (by decide +kernel) rfl dX8_classOf_95 ?_
          refine lv_bipush (v := 16) hx hb dX8_classOf_98 (by decide) ?_
          refine lv_iload_n hx hb dX8_classOf_100 rfl (lv_at hl 1 rfl) ?_
          refine lv_imul hx hb dX8_classOf_101 ?_
          refine lv_iload_n hx hb dX8_classOf_102 rfl (lv_at hl 3 rfl) ?_
          refine lv_iadd hx hb dX8_classOf_103 ?_
          obtain ⟨g16, h⟩ := ixE h
          refine r_ald C hw 7 0 (MWa_7 cI cZ a u0) rfl g16 dX8_classOf_104 ?_
          refine lv_goto (tgt := 109) hx hb dX8_classOf_105 (by decide) ?_
          exact r_iretP hQ h hw dX8_classOf_109
    have h := itF c13 h
    refine lv_tableOut (tgt := 110) hx hb dX8_classOf_11 (by have := lv_neT (a := 0) c4 rfl; have := lv_neT (a := 1) c6 rfl; have := lv_neT (a := 2) c8 rfl; have := lv_neT (a := 3) c13 rfl; omega) (by decide) ?_
    refine lv_iconst (v := (-1)) hx hb dX8_classOf_110 (by decide) ?_
    exact r_iretP hQ h hw dX8_classOf_111
  · have h := itT c3 h
    refine lv_iconst (v := (-1)) hx hb dX8_classOf_8 (by decide) ?_
    exact r_iretP hQ h hw dX8_classOf_9
abbrev rmX8_isA : Room := { frames := 1, cells := 0, slots := 0, locals := 21 }
theorem hiX8_isA_X8 : ∀ w ∈ wsX80, w ∈ wsX8_isA := by decide +kernel
set_option maxHeartbeats 4000000 in
set_option maxRecDepth 100000 in
theorem c_X8_isA (l : Launch) (D : va_G) (cI cZ : ClassId) (z : Nat → Nat) (base : Nat) (a : Nat → Nat) (x1 : Int32) (x2 : Int32) (u0 : St) (ro : Int32) (h : F_X8_isA x1 x2 u0 = some ro) : MI l D [(cI, .int), (cZ, .boolean)] z base yX8_isA wsX8_isA rmX8_isA [.ref (a 0), .int x1, .int x2] (MW cI cZ a u0) ro (MW cI cZ a u0) := by
  refine MI.ofZ (own := RX8) (cc := cX8_isA) (maxL := 4) (by decide) rfl rfl (Nat.le_of_ble_eq_true rfl) ?_
  intro p e s m args below meth c A Q ls C hl hw hQ
  have hx := C.1.1
  have hb := C.1.2.1
  have J39 : ∀ (x2 x3 : Int32) (H : Heap) (locs : List Loc) (ls : Array Slot), F_X8_isA_39 x2 x3 u0 = some ro → Wd D A s.heap H locs (MW cI cZ a u0) → lv_has ls 4 [(2, .int x2), (3, .int x3)] → W p l e rmX8_isA s m args below meth c H locs 0 0 Q (F0 m 39 ls []) := by
    intro x2 x3 H locs ls h hw hl
    rw [F_X8_isA_39] at h
    refine lv_iload_n hx hb dX8_isA_39 rfl (lv_at hl 1 rfl) ?_
    refine lv_iload_n hx hb dX8_isA_40 rfl (lv_at hl 0 rfl) ?_
    refine lv_icmp_ne (tgt := 48) hx hb dX8_isA_41 (by decide) (fun c1 => ?_) (fun c1 => ?_)
    · have h := itF c1 h
      refine lv_iconst (v := 0) hx hb dX8_isA_48 (by decide) ?_
      exact r_zretP hQ (by decide) h hw dX8_isA_49
    · have h := itT c1 h
      refine lv_iconst (v := 1) hx hb dX8_isA_44 (by decide) ?_
      refine lv_goto (tgt := 49) hx hb dX8_isA_45 (by decide) ?_
      exact r_zretP hQ (by decide) h hw dX8_isA_49
  have J20 : ∀ n20 : Nat, ∀ (x2 x3 : Int32) (H : Heap) (locs : List Loc) (ls : Array Slot), F_X8_isA_20 n20 x2 x3 u0 = some ro → Wd D A s.heap H locs (MW cI cZ a u0) → lv_has ls 4 [(0, .ref (a 0)), (2, .int x2), (3, .int x3)] → W p l e rmX8_isA s m args below meth c H locs 0 0 Q (F0 m 20 ls []) := by
    intro n20
    induction n20 with
    | zero => intro x2 x3 H locs ls h; rw [F_X8_isA_20] at h; cases h
    | succ n20 ih20 =>
      intro x2 x3 H locs ls h hw hl
      rw [F_X8_isA_20] at h
      refine lv_iload_n hx hb dX8_isA_20 rfl (lv_at hl 2 rfl) ?_
      refine lv_if_lt (tgt := 39) hx hb dX8_isA_21 (by decide) (fun c1 => ?_) (fun c1 => ?_)
      · have h := itT c1 h
        exact J39 x2 x3 _ _ _ h hw (lv_sub hl [1, 2] rfl)
      · have h := itF c1 h
        refine lv_iload_n hx hb dX8_isA_24 rfl (lv_at hl 2 rfl) ?_
        refine lv_iload_n hx hb dX8_isA_25 rfl (lv_at hl 1 rfl) ?_
        refine lv_icmp_eq (tgt := 39) hx hb dX8_isA_26 (by decide) (fun c2 => ?_) (fun c2 => ?_)
        · have h := itT c2 h
          exact J39 x2 x3 _ _ _ h hw (lv_sub hl [1, 2] rfl)
        · have h := itF c2 h
          refine lv_aload_n hx hb dX8_isA_29 rfl (lv_at hl 0 rfl) ?_
          refine r_get C hw hiX8_isA_X8 0 (MWa_0 cI cZ a u0) rfl 9 (by decide) (by decide +kernel) rfl dX8_isA_30 ?_
          refine lv_iload_n hx hb dX8_isA_33 rfl (lv_at hl 2 rfl) ?_
          obtain ⟨g3, h⟩ := ixE h
          refine r_ald C hw 4 0 (MWa_4 cI cZ a u0) rfl g3 dX8_isA_34 ?_
          refine lv_topi (fun v4 ev4 => ?_)
          have h := nmE ev4 h
          refine lv_istore_n (lv' := [(3, .int v4), (0, .ref (a 0)), (2, .int x2)]) hx hb dX8_isA_35 rfl hl (by decide) rfl (fun ls hl => ?_)
          refine lv_goto (tgt := 20) hx hb dX8_isA_36 (by decide) ?_
          exact ih20 x2 v4 _ _ _ h hw (lv_sub hl [1, 2, 0] rfl)
  have hl : lv_has ls 4 [(0, .ref (a 0)), (1, .int x1), (2, .int x2)] := hl
  rw [F_X8_isA] at h
  refine lv_aload_n hx hb dX8_isA_0 rfl (lv_at hl 0 rfl) ?_
  refine lv_iload_n hx hb dX8_isA_1 rfl (lv_at hl 1 rfl) ?_
  obtain ⟨r2, h1, h⟩ := b1E h
  refine r_callV (rest := []) C hw (c_X8_isClass l D cI cZ z base a x1 u0 r2 h1) (cwV 1 C.1.2.2.2.2 gX8_isA_X8_isClass rfl rfl rfl (by decide +kernel) ⟨Nat.le_of_ble_eq_true rfl, Nat.le_of_ble_eq_true rfl⟩) (va_recv C.2.1 hw.1 (ci := 7) (q0 := 0) rfl (MWa_0 cI cZ a u0)) rfl hl.1 rfl (Nat.le_of_ble_eq_true rfl) dX8_isA_2 ⟨Nat.zero_le _, Nat.zero_le _⟩ (fun H locs hw => ?_)
  refine lv_if_eq (tgt := 16) hx hb dX8_isA_5 (by decide) (fun c3 => ?_) (fun c3 => ?_)
  · have h := itT c3 h
    refine lv_iconst (v := 0) hx hb dX8_isA_16 (by decide) ?_
    exact r_zretP hQ (by decide) h hw dX8_isA_17
  · have h := itF c3 h
    refine lv_aload_n hx hb dX8_isA_8 rfl (lv_at hl 0 rfl) ?_
    refine lv_iload_n hx hb dX8_isA_9 rfl (lv_at hl 2 rfl) ?_
    obtain ⟨r5, h4, h⟩ := b1E h
    refine r_callV (rest := []) C hw (c_X8_isClass l D cI cZ z base a x2 u0 r5 h4) (cwV 1 C.1.2.2.2.2 gX8_isA_X8_isClass rfl rfl rfl (by decide +kernel) ⟨Nat.le_of_ble_eq_true rfl, Nat.le_of_ble_eq_true rfl⟩) (va_recv C.2.1 hw.1 (ci := 7) (q0 := 0) rfl (MWa_0 cI cZ a u0)) rfl hl.1 rfl (Nat.le_of_ble_eq_true rfl) dX8_isA_10 ⟨Nat.zero_le _, Nat.zero_le _⟩ (fun H locs hw => ?_)
    refine lv_if_ne (tgt := 18) hx hb dX8_isA_13 (by decide) (fun c6 => ?_) (fun c6 => ?_)
    · have h := itF c6 h
      refine lv_iload_n hx hb dX8_isA_18 rfl (lv_at hl 1 rfl) ?_
      refine lv_istore_n (lv' := [(3, .int x1), (0, .ref (a 0)), (1, .int x1), (2, .int x2)]) hx hb dX8_isA_19 rfl hl (by decide) rfl (fun ls hl => ?_)
      exact J20 fu x2 x1 _ _ _ h hw (lv_sub hl [1, 3, 0] rfl)
    · have h := itT c6 h
      refine lv_iconst (v := 0) hx hb dX8_isA_16 (by decide) ?_
      exact r_zretP hQ (by decide) h hw dX8_isA_17
abbrev rmX8_counted : Room := { frames := 0, cells := 0, slots := 0, locals := 0 }
theorem hiX8_counted_X8 : ∀ w ∈ wsX80, w ∈ wsX8_counted := by decide +kernel
set_option maxHeartbeats 4000000 in
set_option maxRecDepth 100000 in
theorem c_X8_counted (l : Launch) (D : va_G) (cI cZ : ClassId) (z : Nat → Nat) (base : Nat) (a : Nat → Nat) (x1 : Int32) (x2 : Int32) (u0 : St) (ro : Int32) (h : F_X8_counted x1 x2 u0 = some ro) : MI l D [(cI, .int), (cZ, .boolean)] z base yX8_counted wsX8_counted rmX8_counted [.ref (a 0), .int x1, .int x2] (MW cI cZ a u0) ro (MW cI cZ a u0) := by
  refine MI.ofI (own := RX8) (cc := cX8_counted) (maxL := 5) (by decide) rfl rfl (Nat.le_of_ble_eq_true rfl) ?_
  intro p e s m args below meth c A Q ls C hl hw hQ
  have hx := C.1.1
  have hb := C.1.2.1
  have J5 : ∀ n5 : Nat, ∀ (x1 x2 x3 x4 : Int32) (H : Heap) (locs : List Loc) (ls : Array Slot), F_X8_counted_5 n5 x1 x2 x3 x4 u0 = some ro → Wd D A s.heap H locs (MW cI cZ a u0) → lv_has ls 5 [(0, .ref (a 0)), (1, .int x1), (2, .int x2), (3, .int x3), (4, .int x4)] → W p l e rmX8_counted s m args below meth c H locs 0 0 Q (F0 m 5 ls []) := by
    intro n5
    induction n5 with
    | zero => intro x1 x2 x3 x4 H locs ls h; rw [F_X8_counted_5] at h; cases h
    | succ n5 ih5 =>
      have J44 : ∀ (x1 x2 x3 x4 : Int32) (H : Heap) (locs : List Loc) (ls : Array Slot), F_X8_counted_44 (F_X8_counted_5 n5) x1 x2 x3 x4 u0 = some ro → Wd D A s.heap H locs (MW cI cZ a u0) → lv_has ls 5 [(0, .ref (a 0)), (1, .int x1), (2, .int x2), (3, .int x3), (4, .int x4)] → W p l e rmX8_counted s m args below meth c H locs 0 0 Q (F0 m 44 ls []) := by
        intro x1 x2 x3 x4 H locs ls h hw hl
        rw [F_X8_counted_44] at h
        obtain ⟨v1, ev1⟩ : ∃ y : Int32, y = x4 + 1 := ⟨_, rfl⟩
        have h := nmE ev1 h
        refine lv_iinc (v := v1) (lv' := [(4, .int v1), (0, .ref (a 0)), (1, .int x1), (2, .int x2), (3, .int x3)]) hx hb dX8_counted_44 hl (k := 4) rfl (by rw [ev1]; rfl) (by decide) rfl (fun ls hl => ?_)
        refine lv_goto (tgt := 5) hx hb dX8_counted_47 (by decide) ?_
        exact ih5 x1 x2 x3 v1 _ _ _ h hw (lv_sub hl [1, 2, 3, 4, 0] rfl)
      intro x1 x2 x3 x4 H locs ls h hw hl
      rw [F_X8_counted_5] at h
      refine lv_iload hx hb dX8_counted_5 (lv_at hl 4 rfl) ?_
      refine lv_aload_n hx hb dX8_counted_7 rfl (lv_at hl 0 rfl) ?_
      refine r_get C hw hiX8_counted_X8 0 (MWa_0 cI cZ a u0) rfl 23 (by decide) (by decide +kernel) rfl dX8_counted_8 ?_
      refine lv_iload_n hx hb dX8_counted_11 rfl (lv_at hl 1 rfl) ?_
      obtain ⟨g1, h⟩ := ixE h
      refine r_ald C hw 17 0 (MWa_17 cI cZ a u0) rfl g1 dX8_counted_12 ?_
      refine lv_icmp_ge (tgt := 50) hx hb dX8_counted_13 (by decide) (fun c2 => ?_) (fun c2 => ?_)
      · have h := itT c2 h
        refine lv_iload_n hx hb dX8_counted_50 rfl (lv_at hl 2 rfl) ?_
        refine lv_iconst (v := (-1)) hx hb dX8_counted_51 (by decide) ?_
        refine lv_icmp_ne (tgt := 59) hx hb dX8_counted_52 (by decide) (fun c3 => ?_) (fun c3 => ?_)
        · have h := itF c3 h
          refine lv_iconst (v := (-1)) hx hb dX8_counted_59 (by decide) ?_
          exact r_iretP hQ h hw dX8_counted_60
        · have h := itT c3 h
          refine lv_iload_n hx hb dX8_counted_55 rfl (lv_at hl 3 rfl) ?_
          refine lv_goto (tgt := 60) hx hb dX8_counted_56 (by decide) ?_
          exact r_iretP hQ h hw dX8_counted_60
      · have h := itF c2 h
        refine lv_aload_n hx hb dX8_counted_16 rfl (lv_at hl 0 rfl) ?_
        refine r_get C hw hiX8_counted_X8 0 (MWa_0 cI cZ a u0) rfl 3 (by decide) (by decide +kernel) rfl dX8_counted_17 ?_
        refine lv_aload_n hx hb dX8_counted_20 rfl (lv_at hl 0 rfl) ?_
        refine r_get C hw hiX8_counted_X8 0 (MWa_0 cI cZ a u0) rfl 22 (by decide) (by decide +kernel) rfl dX8_counted_21 ?_
        refine lv_iload_n hx hb dX8_counted_24 rfl (lv_at hl 1 rfl) ?_
        obtain ⟨g4, h⟩ := ixE h
        refine r_ald C hw 16 0 (MWa_16 cI cZ a u0) rfl g4 dX8_counted_25 ?_
        refine lv_iload hx hb dX8_counted_26 (lv_at hl 4 rfl) ?_
        refine lv_iadd hx hb dX8_counted_28 ?_
        obtain ⟨g5, h⟩ := ixE h
        refine r_zld C hw 3 1 (MWa_3 cI cZ a u0) rfl g5 dX8_counted_29 ?_
        refine lv_if_eq (tgt := 44) hx hb dX8_counted_30 (by decide) (fun c6 => ?_) (fun c6 => ?_)
        · have h := itT c6 h
          exact J44 x1 x2 x3 x4 _ _ _ h hw hl
        · have h := itF c6 h
          refine lv_iload_n hx hb dX8_counted_33 rfl (lv_at hl 3 rfl) ?_
          refine lv_iload_n hx hb dX8_counted_34 rfl (lv_at hl 2 rfl) ?_
          refine lv_icmp_ne (tgt := 41) hx hb dX8_counted_35 (by decide) (fun c7 => ?_) (fun c7 => ?_)
          · have h := itF c7 h
            obtain ⟨v8, ev8⟩ : ∃ y : Int32, y = x3 + 1 := ⟨_, rfl⟩
            have h := nmE ev8 h
            refine lv_iinc (v := v8) (lv' := [(3, .int v8), (0, .ref (a 0)), (1, .int x1), (2, .int x2), (4, .int x4)]) hx hb dX8_counted_41 hl (k := 3) rfl (by rw [ev8]; rfl) (by decide) rfl (fun ls hl => ?_)
            exact J44 x1 x2 v8 x4 _ _ _ h hw (lv_sub hl [1, 2, 3, 0, 4] rfl)
          · have h := itT c7 h
            refine lv_iload hx hb dX8_counted_38 (lv_at hl 4 rfl) ?_
            exact r_iretP hQ h hw dX8_counted_40
  have hl : lv_has ls 5 [(0, .ref (a 0)), (1, .int x1), (2, .int x2)] := hl
  rw [F_X8_counted] at h
  refine lv_iconst (v := 0) hx hb dX8_counted_0 (by decide) ?_
  refine lv_istore_n (lv' := [(3, .int 0), (0, .ref (a 0)), (1, .int x1), (2, .int x2)]) hx hb dX8_counted_1 rfl hl (by decide) rfl (fun ls hl => ?_)
  refine lv_iconst (v := 0) hx hb dX8_counted_2 (by decide) ?_
  refine lv_istore (lv' := [(4, .int 0), (3, .int 0), (0, .ref (a 0)), (1, .int x1), (2, .int x2)]) hx hb dX8_counted_3 hl (by decide) rfl (fun ls hl => ?_)
  exact J5 fu x1 x2 0 0 _ _ _ h hw (lv_sub hl [2, 3, 4, 1, 0] rfl)
