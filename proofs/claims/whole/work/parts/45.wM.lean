abbrev rmX8_checkSlots : Room := { frames := 1, cells := 0, slots := 0, locals := 24 }
theorem hiX8_checkSlots_X8 : ∀ w ∈ wsX80, w ∈ wsX8_checkSlots := by decide +kernel
set_option maxHeartbeats 4000000 in
set_option maxRecDepth 100000 in
theorem c_X8_checkSlots (l : Launch) (D : va_G) (cI cZ : ClassId) (z : Nat → Nat) (base : Nat) (a : Nat → Nat) (u0 : St) (uo : St) (h : F_X8_checkSlots u0 = some uo) : MV l D [(cI, .int), (cZ, .boolean)] z base yX8_checkSlots wsX8_checkSlots rmX8_checkSlots [.ref (a 0)] (MW cI cZ a u0) (MW cI cZ a uo) := by
  refine MV.of (own := RX8) (cc := cX8_checkSlots) (maxL := 6) (by decide) rfl rfl (Nat.le_of_ble_eq_true rfl) ?_
  intro p e s m args below meth c A Q ls C hl hw hQ
  have hx := C.1.1
  have hb := C.1.2.1
  have J2 : ∀ n2 : Nat, ∀ (x1 : Int32) (u0 : St) (H : Heap) (locs : List Loc) (ls : Array Slot), F_X8_checkSlots_2 n2 x1 u0 = some uo → Wd D A s.heap H locs (MW cI cZ a u0) → lv_has ls 6 [(0, .ref (a 0)), (1, .int x1)] → W p l e rmX8_checkSlots s m args below meth c H locs 0 0 Q (F0 m 2 ls []) := by
    intro n2
    induction n2 with
    | zero => intro x1 u0 H locs ls h; rw [F_X8_checkSlots_2] at h; cases h
    | succ n2 ih2 =>
      have J131 : ∀ (x1 : Int32) (u0 : St) (H : Heap) (locs : List Loc) (ls : Array Slot), F_X8_checkSlots_131 (F_X8_checkSlots_2 n2) x1 u0 = some uo → Wd D A s.heap H locs (MW cI cZ a u0) → lv_has ls 6 [(0, .ref (a 0)), (1, .int x1)] → W p l e rmX8_checkSlots s m args below meth c H locs 0 0 Q (F0 m 131 ls []) := by
        intro x1 u0 H locs ls h hw hl
        rw [F_X8_checkSlots_131] at h
        obtain ⟨v1, ev1⟩ : ∃ y : Int32, y = x1 + 1 := ⟨_, rfl⟩
        have h := nmE ev1 h
        refine lv_iinc (v := v1) (lv' := [(1, .int v1), (0, .ref (a 0))]) hx hb dX8_checkSlots_131 hl (k := 1) rfl (by rw [ev1]; rfl) (by decide) rfl (fun ls hl => ?_)
        refine lv_goto (tgt := 2) hx hb dX8_checkSlots_134 (by decide) ?_
        exact ih2 v1 u0 _ _ _ h hw (lv_sub hl [1, 0] rfl)
      have J117 : ∀ (x1 t0 : Int32) (u0 : St) (H : Heap) (locs : List Loc) (ls : Array Slot), F_X8_checkSlots_117 (F_X8_checkSlots_2 n2) x1 t0 u0 = some uo → Wd D A s.heap H locs (MW cI cZ a u0) → lv_has ls 6 [(0, .ref (a 0)), (1, .int x1)] → W p l e rmX8_checkSlots s m args below meth c H locs 0 0 Q (F0 m 117 ls [.int t0]) := by
        intro x1 t0 u0 H locs ls h hw hl
        rw [F_X8_checkSlots_117] at h
        refine lv_istore (lv' := [(5, .int t0), (0, .ref (a 0)), (1, .int x1)]) hx hb dX8_checkSlots_117 hl (by decide) rfl (fun ls hl => ?_)
        refine lv_aload_n hx hb dX8_checkSlots_119 rfl (lv_at hl 1 rfl) ?_
        refine lv_aload_n hx hb dX8_checkSlots_120 rfl (lv_at hl 1 rfl) ?_
        refine r_get C hw hiX8_checkSlots_X8 0 (MWa_0 cI cZ a u0) rfl 13 (by decide) (by decide +kernel) rfl dX8_checkSlots_121 ?_
        refine lv_iload_n hx hb dX8_checkSlots_124 rfl (lv_at hl 2 rfl) ?_
        obtain ⟨g1, h⟩ := ixE h
        refine r_ald C hw 8 0 (MWa_8 cI cZ a u0) rfl g1 dX8_checkSlots_125 ?_
        refine lv_iload hx hb dX8_checkSlots_126 (lv_at hl 0 rfl) ?_
        obtain ⟨u3, h2, h⟩ := b1E h
        refine r_callVv (rest := []) C hw (c_X8_note l D cI cZ z base a (u0 8 (x1).toNatClampNeg) t0 u0 u3 h2) (cwV 2 C.1.2.2.2.2 gX8_checkSlots_X8_note rfl rfl rfl (by decide +kernel) ⟨Nat.le_of_ble_eq_true rfl, Nat.le_of_ble_eq_true rfl⟩) (va_recv C.2.1 hw.1 (ci := 7) (q0 := 0) rfl (MWa_0 cI cZ a u0)) rfl hl.1 rfl (Nat.le_of_ble_eq_true rfl) dX8_checkSlots_128 ⟨Nat.zero_le _, Nat.zero_le _⟩ (fun H locs hw => ?_)
        exact J131 x1 u3 _ _ _ h hw (lv_sub hl [1, 2] rfl)
      have J112 : ∀ (x1 : Int32) (u0 : St) (H : Heap) (locs : List Loc) (ls : Array Slot), F_X8_checkSlots_112 (F_X8_checkSlots_2 n2) x1 u0 = some uo → Wd D A s.heap H locs (MW cI cZ a u0) → lv_has ls 6 [(0, .ref (a 0)), (1, .int x1)] → W p l e rmX8_checkSlots s m args below meth c H locs 0 0 Q (F0 m 112 ls []) := by
        intro x1 u0 H locs ls h hw hl
        rw [F_X8_checkSlots_112] at h
        refine lv_iconst (v := 1) hx hb dX8_checkSlots_112 (by decide) ?_
        refine lv_goto (tgt := 117) hx hb dX8_checkSlots_113 (by decide) ?_
        exact J117 x1 1 u0 _ _ _ h hw hl
      have J116 : ∀ (x1 : Int32) (u0 : St) (H : Heap) (locs : List Loc) (ls : Array Slot), F_X8_checkSlots_116 (F_X8_checkSlots_2 n2) x1 u0 = some uo → Wd D A s.heap H locs (MW cI cZ a u0) → lv_has ls 6 [(0, .ref (a 0)), (1, .int x1)] → W p l e rmX8_checkSlots s m args below meth c H locs 0 0 Q (F0 m 116 ls []) := by
        intro x1 u0 H locs ls h hw hl
        rw [F_X8_checkSlots_116] at h
        refine lv_iconst (v := 0) hx hb dX8_checkSlots_116 (by decide) ?_
        exact J117 x1 0 u0 _ _ _ h hw hl
      have J67 : ∀ (x1 x2 x3 t0 : Int32) (u0 : St) (H : Heap) (locs : List Loc) (ls : Array Slot), F_X8_checkSlots_67 (F_X8_checkSlots_2 n2) x1 x2 x3 t0 u0 = some uo → Wd D A s.heap H locs (MW cI cZ a u0) → lv_has ls 6 [(0, .ref (a 0)), (1, .int x1), (2, .int x2), (3, .int x3)] → W p l e rmX8_checkSlots s m args below meth c H locs 0 0 Q (F0 m 67 ls [.int t0]) := by
        intro x1 x2 x3 t0 u0 H locs ls h hw hl
        rw [F_X8_checkSlots_67] at h
        refine lv_istore (lv' := [(4, .int t0), (0, .ref (a 0)), (1, .int x1), (2, .int x2), (3, .int x3)]) hx hb dX8_checkSlots_67 hl (by decide) rfl (fun ls hl => ?_)
        refine lv_iload_n hx hb dX8_checkSlots_69 rfl (lv_at hl 4 rfl) ?_
        refine lv_aload_n hx hb dX8_checkSlots_70 rfl (lv_at hl 1 rfl) ?_
        refine r_get C hw hiX8_checkSlots_X8 0 (MWa_0 cI cZ a u0) rfl 15 (by decide) (by decide +kernel) rfl dX8_checkSlots_71 ?_
        refine lv_icmp_ge (tgt := 116) hx hb dX8_checkSlots_74 (by decide) (fun c1 => ?_) (fun c1 => ?_)
        · have h := itT c1 h
          exact J116 x1 u0 _ _ _ h hw (lv_sub hl [1, 2] rfl)
        · have h := itF c1 h
          refine lv_aload_n hx hb dX8_checkSlots_77 rfl (lv_at hl 1 rfl) ?_
          refine r_get C hw hiX8_checkSlots_X8 0 (MWa_0 cI cZ a u0) rfl 16 (by decide) (by decide +kernel) rfl dX8_checkSlots_78 ?_
          refine lv_iload_n hx hb dX8_checkSlots_81 rfl (lv_at hl 4 rfl) ?_
          obtain ⟨g2, h⟩ := ixE h
          refine r_ald C hw 10 0 (MWa_10 cI cZ a u0) rfl g2 dX8_checkSlots_82 ?_
          refine lv_iload_n hx hb dX8_checkSlots_83 rfl (lv_at hl 3 rfl) ?_
          refine lv_icmp_ne (tgt := 116) hx hb dX8_checkSlots_84 (by decide) (fun c3 => ?_) (fun c3 => ?_)
          · have h := itF c3 h
            exact J116 x1 u0 _ _ _ h hw (lv_sub hl [1, 2] rfl)
          · have h := itT c3 h
            refine lv_iload hx hb dX8_checkSlots_87 (lv_at hl 0 rfl) ?_
            refine lv_iconst (v := (-1)) hx hb dX8_checkSlots_89 (by decide) ?_
            refine lv_icmp_eq (tgt := 112) hx hb dX8_checkSlots_90 (by decide) (fun c4 => ?_) (fun c4 => ?_)
            · have h := itT c4 h
              exact J112 x1 u0 _ _ _ h hw (lv_sub hl [1, 2] rfl)
            · have h := itF c4 h
              refine lv_iload hx hb dX8_checkSlots_93 (lv_at hl 0 rfl) ?_
              refine lv_aload_n hx hb dX8_checkSlots_95 rfl (lv_at hl 1 rfl) ?_
              refine r_get C hw hiX8_checkSlots_X8 0 (MWa_0 cI cZ a u0) rfl 15 (by decide) (by decide +kernel) rfl dX8_checkSlots_96 ?_
              refine lv_icmp_ge (tgt := 112) hx hb dX8_checkSlots_99 (by decide) (fun c5 => ?_) (fun c5 => ?_)
              · have h := itT c5 h
                exact J112 x1 u0 _ _ _ h hw (lv_sub hl [1, 2] rfl)
              · have h := itF c5 h
                refine lv_aload_n hx hb dX8_checkSlots_102 rfl (lv_at hl 1 rfl) ?_
                refine lv_iload_n hx hb dX8_checkSlots_103 rfl (lv_at hl 4 rfl) ?_
                refine lv_iload hx hb dX8_checkSlots_104 (lv_at hl 0 rfl) ?_
                obtain ⟨r7, h6, h⟩ := b1E h
                refine r_callV (rest := []) C hw (c_X8_isLike l D cI cZ z base a x3 t0 u0 r7 h6) (cwV 2 C.1.2.2.2.2 gX8_checkSlots_X8_isLike rfl rfl rfl (by decide +kernel) ⟨Nat.le_of_ble_eq_true rfl, Nat.le_of_ble_eq_true rfl⟩) (va_recv C.2.1 hw.1 (ci := 7) (q0 := 0) rfl (MWa_0 cI cZ a u0)) rfl hl.1 rfl (Nat.le_of_ble_eq_true rfl) dX8_checkSlots_106 ⟨Nat.zero_le _, Nat.zero_le _⟩ (fun H locs hw => ?_)
                refine lv_if_eq (tgt := 116) hx hb dX8_checkSlots_109 (by decide) (fun c8 => ?_) (fun c8 => ?_)
                · have h := itT c8 h
                  exact J116 x1 u0 _ _ _ h hw (lv_sub hl [1, 2] rfl)
                · have h := itF c8 h
                  exact J112 x1 u0 _ _ _ h hw (lv_sub hl [1, 2] rfl)
      intro x1 u0 H locs ls h hw hl
      rw [F_X8_checkSlots_2] at h
      refine lv_iload_n hx hb dX8_checkSlots_2 rfl (lv_at hl 1 rfl) ?_
      refine lv_bipush (v := 16) hx hb dX8_checkSlots_3 (by decide) ?_
      refine lv_aload_n hx hb dX8_checkSlots_5 rfl (lv_at hl 0 rfl) ?_
      refine r_get C hw hiX8_checkSlots_X8 0 (MWa_0 cI cZ a u0) rfl 8 (by decide) (by decide +kernel) rfl dX8_checkSlots_6 ?_
      refine lv_imul hx hb dX8_checkSlots_9 ?_
      refine lv_icmp_ge (tgt := 137) hx hb dX8_checkSlots_10 (by decide) (fun c1 => ?_) (fun c1 => ?_)
      · have h := itT c1 h
        exact r_vret (f := MW cI cZ a) hQ h hw dX8_checkSlots_137
      · have h := itF c1 h
        refine lv_iload_n hx hb dX8_checkSlots_13 rfl (lv_at hl 1 rfl) ?_
        refine lv_bipush (v := 16) hx hb dX8_checkSlots_14 (by decide) ?_
        refine lv_idiv hx hb dX8_checkSlots_16 (by decide) ?_
        refine lv_topi (fun v2 ev2 => ?_)
        have h := nmE ev2 h
        refine lv_istore_n (lv' := [(2, .int v2), (0, .ref (a 0)), (1, .int x1)]) hx hb dX8_checkSlots_17 rfl hl (by decide) rfl (fun ls hl => ?_)
        refine lv_aload_n hx hb dX8_checkSlots_18 rfl (lv_at hl 1 rfl) ?_
        refine r_get C hw hiX8_checkSlots_X8 0 (MWa_0 cI cZ a u0) rfl 12 (by decide) (by decide +kernel) rfl dX8_checkSlots_19 ?_
        refine lv_iload_n hx hb dX8_checkSlots_22 rfl (lv_at hl 2 rfl) ?_
        obtain ⟨g3, h⟩ := ixE h
        refine r_ald C hw 7 0 (MWa_7 cI cZ a u0) rfl g3 dX8_checkSlots_23 ?_
        refine lv_topi (fun v4 ev4 => ?_)
        have h := nmE ev4 h
        refine lv_istore_n (lv' := [(3, .int v4), (2, .int v2), (0, .ref (a 0)), (1, .int x1)]) hx hb dX8_checkSlots_24 rfl hl (by decide) rfl (fun ls hl => ?_)
        refine lv_aload_n hx hb dX8_checkSlots_25 rfl (lv_at hl 2 rfl) ?_
        refine r_get C hw hiX8_checkSlots_X8 0 (MWa_0 cI cZ a u0) rfl 13 (by decide) (by decide +kernel) rfl dX8_checkSlots_26 ?_
        refine lv_iload_n hx hb dX8_checkSlots_29 rfl (lv_at hl 3 rfl) ?_
        obtain ⟨g5, h⟩ := ixE h
        refine r_ald C hw 8 0 (MWa_8 cI cZ a u0) rfl g5 dX8_checkSlots_30 ?_
        refine lv_iconst (v := (-1)) hx hb dX8_checkSlots_31 (by decide) ?_
        refine lv_icmp_eq (tgt := 131) hx hb dX8_checkSlots_32 (by decide) (fun c6 => ?_) (fun c6 => ?_)
        · have h := itT c6 h
          exact J131 x1 u0 _ _ _ h hw (lv_sub hl [2, 3] rfl)
        · have h := itF c6 h
          refine lv_aload_n hx hb dX8_checkSlots_35 rfl (lv_at hl 2 rfl) ?_
          refine r_get C hw hiX8_checkSlots_X8 0 (MWa_0 cI cZ a u0) rfl 9 (by decide) (by decide +kernel) rfl dX8_checkSlots_36 ?_
          refine lv_iload_n hx hb dX8_checkSlots_39 rfl (lv_at hl 1 rfl) ?_
          obtain ⟨g7, h⟩ := ixE h
          refine r_ald C hw 4 0 (MWa_4 cI cZ a u0) rfl g7 dX8_checkSlots_40 ?_
          refine lv_if_ge (tgt := 48) hx hb dX8_checkSlots_41 (by decide) (fun c8 => ?_) (fun c8 => ?_)
          · have h := itT c8 h
            refine lv_aload_n hx hb dX8_checkSlots_48 rfl (lv_at hl 2 rfl) ?_
            refine r_get C hw hiX8_checkSlots_X8 0 (MWa_0 cI cZ a u0) rfl 12 (by decide) (by decide +kernel) rfl dX8_checkSlots_49 ?_
            refine lv_bipush (v := 16) hx hb dX8_checkSlots_52 (by decide) ?_
            refine lv_aload_n hx hb dX8_checkSlots_54 rfl (lv_at hl 2 rfl) ?_
            refine r_get C hw hiX8_checkSlots_X8 0 (MWa_0 cI cZ a u0) rfl 9 (by decide) (by decide +kernel) rfl dX8_checkSlots_55 ?_
            refine lv_iload_n hx hb dX8_checkSlots_58 rfl (lv_at hl 1 rfl) ?_
            obtain ⟨g9, h⟩ := ixE h
            refine r_ald C hw 4 0 (MWa_4 cI cZ a u0) rfl g9 dX8_checkSlots_59 ?_
            refine lv_imul hx hb dX8_checkSlots_60 ?_
            refine lv_iload_n hx hb dX8_checkSlots_61 rfl (lv_at hl 3 rfl) ?_
            refine lv_bipush (v := 16) hx hb dX8_checkSlots_62 (by decide) ?_
            refine lv_irem hx hb dX8_checkSlots_64 (by decide) ?_
            refine lv_iadd hx hb dX8_checkSlots_65 ?_
            obtain ⟨g10, h⟩ := ixE h
            refine r_ald C hw 7 0 (MWa_7 cI cZ a u0) rfl g10 dX8_checkSlots_66 ?_
            exact J67 x1 v2 v4 (u0 7 (((16 * (u0 4 (v2).toNatClampNeg)) + (x1 - x1 / 16 * 16))).toNatClampNeg) u0 _ _ _ h hw (lv_sub hl [2, 3, 1, 0] rfl)
          · have h := itF c8 h
            refine lv_iconst (v := (-1)) hx hb dX8_checkSlots_44 (by decide) ?_
            refine lv_goto (tgt := 67) hx hb dX8_checkSlots_45 (by decide) ?_
            exact J67 x1 v2 v4 (-1) u0 _ _ _ h hw (lv_sub hl [2, 3, 1, 0] rfl)
  have hl : lv_has ls 6 [(0, .ref (a 0))] := hl
  rw [F_X8_checkSlots] at h
  refine lv_iconst (v := 0) hx hb dX8_checkSlots_0 (by decide) ?_
  refine lv_istore_n (lv' := [(1, .int 0), (0, .ref (a 0))]) hx hb dX8_checkSlots_1 rfl hl (by decide) rfl (fun ls hl => ?_)
  exact J2 fu 0 u0 _ _ _ h hw (lv_sub hl [1, 0] rfl)
abbrev rmX8_checkCode : Room := { frames := 1, cells := 0, slots := 0, locals := 22 }
theorem hiX8_checkCode_X8 : ∀ w ∈ wsX80, w ∈ wsX8_checkCode := by decide +kernel
set_option maxHeartbeats 4000000 in
set_option maxRecDepth 100000 in
theorem c_X8_checkCode (l : Launch) (D : va_G) (cI cZ : ClassId) (z : Nat → Nat) (base : Nat) (a : Nat → Nat) (x1 : Int32) (u0 : St) (uo : St) (h : F_X8_checkCode x1 u0 = some uo) : MV l D [(cI, .int), (cZ, .boolean)] z base yX8_checkCode wsX8_checkCode rmX8_checkCode [.ref (a 0), .int x1] (MW cI cZ a u0) (MW cI cZ a uo) := by
  refine MV.of (own := RX8) (cc := cX8_checkCode) (maxL := 5) (by decide) rfl rfl (Nat.le_of_ble_eq_true rfl) ?_
  intro p e s m args below meth c A Q ls C hl hw hQ
  have hx := C.1.1
  have hb := C.1.2.1
  have J143 : ∀ n143 : Nat, ∀ (x1 x2 : Int32) (u0 : St) (H : Heap) (locs : List Loc) (ls : Array Slot), F_X8_checkCode_143 n143 x1 x2 u0 = some uo → Wd D A s.heap H locs (MW cI cZ a u0) → lv_has ls 5 [(0, .ref (a 0)), (1, .int x1), (2, .int x2)] → W p l e rmX8_checkCode s m args below meth c H locs 0 0 Q (F0 m 143 ls []) := by
    intro n143
    induction n143 with
    | zero => intro x1 x2 u0 H locs ls h; rw [F_X8_checkCode_143] at h; cases h
    | succ n143 ih143 =>
      have J243 : ∀ (x1 x2 x3 t0 t1 : Int32) (u0 : St) (H : Heap) (locs : List Loc) (ls : Array Slot), F_X8_checkCode_243 (F_X8_checkCode_143 n143) x1 x2 x3 t0 t1 u0 = some uo → Wd D A s.heap H locs (MW cI cZ a u0) → lv_has ls 5 [(0, .ref (a 0)), (1, .int x1), (2, .int x2), (3, .int x3)] → W p l e rmX8_checkCode s m args below meth c H locs 0 0 Q (F0 m 243 ls [.int t0, .int t1, .ref (a 0)]) := by
        intro x1 x2 x3 t0 t1 u0 H locs ls h hw hl
        rw [F_X8_checkCode_243] at h
        obtain ⟨u2, h1, h⟩ := b1E h
        refine r_callVv (rest := []) C hw (c_X8_note l D cI cZ z base a t1 t0 u0 u2 h1) (cwV 2 C.1.2.2.2.2 gX8_checkCode_X8_note rfl rfl rfl (by decide +kernel) ⟨Nat.le_of_ble_eq_true rfl, Nat.le_of_ble_eq_true rfl⟩) (va_recv C.2.1 hw.1 (ci := 7) (q0 := 0) rfl (MWa_0 cI cZ a u0)) rfl hl.1 rfl (Nat.le_of_ble_eq_true rfl) dX8_checkCode_243 ⟨Nat.zero_le _, Nat.zero_le _⟩ (fun H locs hw => ?_)
        refine lv_aload_n hx hb dX8_checkCode_246 rfl (lv_at hl 0 rfl) ?_
        refine lv_iload_n hx hb dX8_checkCode_247 rfl (lv_at hl 3 rfl) ?_
        refine lv_iconst (v := 5) hx hb dX8_checkCode_248 (by decide) ?_
        refine lv_iadd hx hb dX8_checkCode_249 ?_
        refine lv_aload_n hx hb dX8_checkCode_250 rfl (lv_at hl 0 rfl) ?_
        refine lv_iload_n hx hb dX8_checkCode_251 rfl (lv_at hl 1 rfl) ?_
        refine lv_aload_n hx hb dX8_checkCode_252 rfl (lv_at hl 0 rfl) ?_
        refine lv_iload_n hx hb dX8_checkCode_253 rfl (lv_at hl 3 rfl) ?_
        refine lv_iconst (v := 5) hx hb dX8_checkCode_254 (by decide) ?_
        refine lv_iadd hx hb dX8_checkCode_255 ?_
        obtain ⟨r4, h3, h⟩ := b1E h
        refine r_callV (rest := [.int x1, .ref (a 0), .int (x3 + 5), .ref (a 0)]) C hw (c_X8_two l D cI cZ z base a (x3 + 5) u2 r4 h3) (cwV 1 C.1.2.2.2.2 gX8_checkCode_X8_two rfl rfl rfl (by decide +kernel) ⟨Nat.le_of_ble_eq_true rfl, Nat.le_of_ble_eq_true rfl⟩) (va_recv C.2.1 hw.1 (ci := 7) (q0 := 0) rfl (MWa_0 cI cZ a u2)) rfl hl.1 rfl (Nat.le_of_ble_eq_true rfl) dX8_checkCode_256 ⟨Nat.zero_le _, Nat.zero_le _⟩ (fun H locs hw => ?_)
        obtain ⟨r6, h5, h⟩ := b1E h
        refine r_callV (rest := [.int (x3 + 5), .ref (a 0)]) C hw (c_X8_isBegin l D cI cZ z base a x1 r4 u2 r6 h5) (cwV 2 C.1.2.2.2.2 gX8_checkCode_X8_isBegin rfl rfl rfl (by decide +kernel) ⟨Nat.le_of_ble_eq_true rfl, Nat.le_of_ble_eq_true rfl⟩) (va_recv C.2.1 hw.1 (ci := 7) (q0 := 0) rfl (MWa_0 cI cZ a u2)) rfl hl.1 rfl (Nat.le_of_ble_eq_true rfl) dX8_checkCode_259 ⟨Nat.zero_le _, Nat.zero_le _⟩ (fun H locs hw => ?_)
        obtain ⟨u8, h7, h⟩ := b1E h
        refine r_callVv (rest := []) C hw (c_X8_note l D cI cZ z base a (x3 + 5) r6 u2 u8 h7) (cwV 2 C.1.2.2.2.2 gX8_checkCode_X8_note rfl rfl rfl (by decide +kernel) ⟨Nat.le_of_ble_eq_true rfl, Nat.le_of_ble_eq_true rfl⟩) (va_recv C.2.1 hw.1 (ci := 7) (q0 := 0) rfl (MWa_0 cI cZ a u2)) rfl hl.1 rfl (Nat.le_of_ble_eq_true rfl) dX8_checkCode_262 ⟨Nat.zero_le _, Nat.zero_le _⟩ (fun H locs hw => ?_)
        obtain ⟨v9, ev9⟩ : ∃ y : Int32, y = x2 + 1 := ⟨_, rfl⟩
        have h := nmE ev9 h
        refine lv_iinc (v := v9) (lv' := [(2, .int v9), (0, .ref (a 0)), (1, .int x1), (3, .int x3)]) hx hb dX8_checkCode_265 hl (k := 2) rfl (by rw [ev9]; rfl) (by decide) rfl (fun ls hl => ?_)
        refine lv_goto (tgt := 143) hx hb dX8_checkCode_268 (by decide) ?_
        exact ih143 x1 v9 u8 _ _ _ h hw (lv_sub hl [1, 2, 0] rfl)
      have J238 : ∀ (x1 x2 x3 t0 : Int32) (u0 : St) (H : Heap) (locs : List Loc) (ls : Array Slot), F_X8_checkCode_238 (F_X8_checkCode_143 n143) x1 x2 x3 t0 u0 = some uo → Wd D A s.heap H locs (MW cI cZ a u0) → lv_has ls 5 [(0, .ref (a 0)), (1, .int x1), (2, .int x2), (3, .int x3)] → W p l e rmX8_checkCode s m args below meth c H locs 0 0 Q (F0 m 238 ls [.int t0, .ref (a 0)]) := by
        intro x1 x2 x3 t0 u0 H locs ls h hw hl
        rw [F_X8_checkCode_238] at h
        refine lv_iconst (v := 1) hx hb dX8_checkCode_238 (by decide) ?_
        refine lv_goto (tgt := 243) hx hb dX8_checkCode_239 (by decide) ?_
        exact J243 x1 x2 x3 1 t0 u0 _ _ _ h hw hl
      have J200 : ∀ (x1 x2 x3 t0 t1 : Int32) (u0 : St) (H : Heap) (locs : List Loc) (ls : Array Slot), F_X8_checkCode_200 (F_X8_checkCode_143 n143) x1 x2 x3 t0 t1 u0 = some uo → Wd D A s.heap H locs (MW cI cZ a u0) → lv_has ls 5 [(0, .ref (a 0)), (1, .int x1), (2, .int x2), (3, .int x3)] → W p l e rmX8_checkCode s m args below meth c H locs 0 0 Q (F0 m 200 ls [.int t0, .int t1, .ref (a 0)]) := by
        intro x1 x2 x3 t0 t1 u0 H locs ls h hw hl
        rw [F_X8_checkCode_200] at h
        obtain ⟨u2, h1, h⟩ := b1E h
        refine r_callVv (rest := []) C hw (c_X8_note l D cI cZ z base a t1 t0 u0 u2 h1) (cwV 2 C.1.2.2.2.2 gX8_checkCode_X8_note rfl rfl rfl (by decide +kernel) ⟨Nat.le_of_ble_eq_true rfl, Nat.le_of_ble_eq_true rfl⟩) (va_recv C.2.1 hw.1 (ci := 7) (q0 := 0) rfl (MWa_0 cI cZ a u0)) rfl hl.1 rfl (Nat.le_of_ble_eq_true rfl) dX8_checkCode_200 ⟨Nat.zero_le _, Nat.zero_le _⟩ (fun H locs hw => ?_)
        refine lv_aload_n hx hb dX8_checkCode_203 rfl (lv_at hl 0 rfl) ?_
        refine lv_iload_n hx hb dX8_checkCode_204 rfl (lv_at hl 3 rfl) ?_
        refine lv_iconst (v := 2) hx hb dX8_checkCode_205 (by decide) ?_
        refine lv_iadd hx hb dX8_checkCode_206 ?_
        refine lv_aload_n hx hb dX8_checkCode_207 rfl (lv_at hl 0 rfl) ?_
        refine lv_iload_n hx hb dX8_checkCode_208 rfl (lv_at hl 1 rfl) ?_
        refine lv_aload_n hx hb dX8_checkCode_209 rfl (lv_at hl 0 rfl) ?_
        refine lv_iload_n hx hb dX8_checkCode_210 rfl (lv_at hl 3 rfl) ?_
        refine lv_iconst (v := 2) hx hb dX8_checkCode_211 (by decide) ?_
        refine lv_iadd hx hb dX8_checkCode_212 ?_
        obtain ⟨r4, h3, h⟩ := b1E h
        refine r_callV (rest := [.int x1, .ref (a 0), .int (x3 + 2), .ref (a 0)]) C hw (c_X8_two l D cI cZ z base a (x3 + 2) u2 r4 h3) (cwV 1 C.1.2.2.2.2 gX8_checkCode_X8_two rfl rfl rfl (by decide +kernel) ⟨Nat.le_of_ble_eq_true rfl, Nat.le_of_ble_eq_true rfl⟩) (va_recv C.2.1 hw.1 (ci := 7) (q0 := 0) rfl (MWa_0 cI cZ a u2)) rfl hl.1 rfl (Nat.le_of_ble_eq_true rfl) dX8_checkCode_213 ⟨Nat.zero_le _, Nat.zero_le _⟩ (fun H locs hw => ?_)
        obtain ⟨r6, h5, h⟩ := b1E h
        refine r_callV (rest := [.int (x3 + 2), .ref (a 0)]) C hw (c_X8_isBegin l D cI cZ z base a x1 r4 u2 r6 h5) (cwV 2 C.1.2.2.2.2 gX8_checkCode_X8_isBegin rfl rfl rfl (by decide +kernel) ⟨Nat.le_of_ble_eq_true rfl, Nat.le_of_ble_eq_true rfl⟩) (va_recv C.2.1 hw.1 (ci := 7) (q0 := 0) rfl (MWa_0 cI cZ a u2)) rfl hl.1 rfl (Nat.le_of_ble_eq_true rfl) dX8_checkCode_216 ⟨Nat.zero_le _, Nat.zero_le _⟩ (fun H locs hw => ?_)
        refine lv_if_ne (tgt := 238) hx hb dX8_checkCode_219 (by decide) (fun c7 => ?_) (fun c7 => ?_)
        · have h := itF c7 h
          exact J238 x1 x2 x3 (x3 + 2) u2 _ _ _ h hw hl
        · have h := itT c7 h
          refine lv_aload_n hx hb dX8_checkCode_222 rfl (lv_at hl 0 rfl) ?_
          refine lv_iload_n hx hb dX8_checkCode_223 rfl (lv_at hl 3 rfl) ?_
          refine lv_iconst (v := 2) hx hb dX8_checkCode_224 (by decide) ?_
          refine lv_iadd hx hb dX8_checkCode_225 ?_
          obtain ⟨r9, h8, h⟩ := b1E h
          refine r_callV (rest := [.int (x3 + 2), .ref (a 0)]) C hw (c_X8_two l D cI cZ z base a (x3 + 2) u2 r9 h8) (cwV 1 C.1.2.2.2.2 gX8_checkCode_X8_two rfl rfl rfl (by decide +kernel) ⟨Nat.le_of_ble_eq_true rfl, Nat.le_of_ble_eq_true rfl⟩) (va_recv C.2.1 hw.1 (ci := 7) (q0 := 0) rfl (MWa_0 cI cZ a u2)) rfl hl.1 rfl (Nat.le_of_ble_eq_true rfl) dX8_checkCode_226 ⟨Nat.zero_le _, Nat.zero_le _⟩ (fun H locs hw => ?_)
          refine lv_aload_n hx hb dX8_checkCode_229 rfl (lv_at hl 0 rfl) ?_
          refine r_get C hw hiX8_checkCode_X8 0 (MWa_0 cI cZ a u2) rfl 23 (by decide) (by decide +kernel) rfl dX8_checkCode_230 ?_
          refine lv_iload_n hx hb dX8_checkCode_233 rfl (lv_at hl 1 rfl) ?_
          obtain ⟨g10, h⟩ := ixE h
          refine r_ald C hw 17 0 (MWa_17 cI cZ a u2) rfl g10 dX8_checkCode_234 ?_
          refine lv_icmp_ne (tgt := 242) hx hb dX8_checkCode_235 (by decide) (fun c11 => ?_) (fun c11 => ?_)
          · have h := itF c11 h
            refine lv_iconst (v := 0) hx hb dX8_checkCode_242 (by decide) ?_
            exact J243 x1 x2 x3 0 (x3 + 2) u2 _ _ _ h hw hl
          · have h := itT c11 h
            exact J238 x1 x2 x3 (x3 + 2) u2 _ _ _ h hw hl
      have J199 : ∀ (x1 x2 x3 t0 : Int32) (u0 : St) (H : Heap) (locs : List Loc) (ls : Array Slot), F_X8_checkCode_199 (F_X8_checkCode_143 n143) x1 x2 x3 t0 u0 = some uo → Wd D A s.heap H locs (MW cI cZ a u0) → lv_has ls 5 [(0, .ref (a 0)), (1, .int x1), (2, .int x2), (3, .int x3)] → W p l e rmX8_checkCode s m args below meth c H locs 0 0 Q (F0 m 199 ls [.int t0, .ref (a 0)]) := by
        intro x1 x2 x3 t0 u0 H locs ls h hw hl
        rw [F_X8_checkCode_199] at h
        refine lv_iconst (v := 0) hx hb dX8_checkCode_199 (by decide) ?_
        exact J200 x1 x2 x3 0 t0 u0 _ _ _ h hw hl
      intro x1 x2 u0 H locs ls h hw hl
      rw [F_X8_checkCode_143] at h
      refine lv_iload_n hx hb dX8_checkCode_143 rfl (lv_at hl 2 rfl) ?_
      refine lv_aload_n hx hb dX8_checkCode_144 rfl (lv_at hl 0 rfl) ?_
      refine r_get C hw hiX8_checkCode_X8 0 (MWa_0 cI cZ a u0) rfl 24 (by decide) (by decide +kernel) rfl dX8_checkCode_145 ?_
      refine lv_iload_n hx hb dX8_checkCode_148 rfl (lv_at hl 1 rfl) ?_
      obtain ⟨g1, h⟩ := ixE h
      refine r_ald C hw 18 0 (MWa_18 cI cZ a u0) rfl g1 dX8_checkCode_149 ?_
      refine lv_icmp_ge (tgt := 271) hx hb dX8_checkCode_150 (by decide) (fun c2 => ?_) (fun c2 => ?_)
      · have h := itT c2 h
        exact r_vret (f := MW cI cZ a) hQ h hw dX8_checkCode_271
      · have h := itF c2 h
        refine lv_aload_n hx hb dX8_checkCode_153 rfl (lv_at hl 0 rfl) ?_
        refine r_get C hw hiX8_checkCode_X8 0 (MWa_0 cI cZ a u0) rfl 25 (by decide) (by decide +kernel) rfl dX8_checkCode_154 ?_
        refine lv_iload_n hx hb dX8_checkCode_157 rfl (lv_at hl 1 rfl) ?_
        obtain ⟨g3, h⟩ := ixE h
        refine r_ald C hw 19 0 (MWa_19 cI cZ a u0) rfl g3 dX8_checkCode_158 ?_
        refine lv_bipush (v := 7) hx hb dX8_checkCode_159 (by decide) ?_
        refine lv_iload_n hx hb dX8_checkCode_161 rfl (lv_at hl 2 rfl) ?_
        refine lv_imul hx hb dX8_checkCode_162 ?_
        refine lv_iadd hx hb dX8_checkCode_163 ?_
        refine lv_topi (fun v4 ev4 => ?_)
        have h := nmE ev4 h
        refine lv_istore_n (lv' := [(3, .int v4), (0, .ref (a 0)), (1, .int x1), (2, .int x2)]) hx hb dX8_checkCode_164 rfl hl (by decide) rfl (fun ls hl => ?_)
        refine lv_aload_n hx hb dX8_checkCode_165 rfl (lv_at hl 1 rfl) ?_
        refine lv_iload_n hx hb dX8_checkCode_166 rfl (lv_at hl 0 rfl) ?_
        refine lv_aload_n hx hb dX8_checkCode_167 rfl (lv_at hl 1 rfl) ?_
        refine lv_iload_n hx hb dX8_checkCode_168 rfl (lv_at hl 2 rfl) ?_
        refine lv_aload_n hx hb dX8_checkCode_169 rfl (lv_at hl 1 rfl) ?_
        refine lv_iload_n hx hb dX8_checkCode_170 rfl (lv_at hl 0 rfl) ?_
        obtain ⟨r6, h5, h⟩ := b1E h
        refine r_callV (rest := [.int x1, .ref (a 0), .int v4, .ref (a 0)]) C hw (c_X8_two l D cI cZ z base a v4 u0 r6 h5) (cwV 1 C.1.2.2.2.2 gX8_checkCode_X8_two rfl rfl rfl (by decide +kernel) ⟨Nat.le_of_ble_eq_true rfl, Nat.le_of_ble_eq_true rfl⟩) (va_recv C.2.1 hw.1 (ci := 7) (q0 := 0) rfl (MWa_0 cI cZ a u0)) rfl hl.1 rfl (Nat.le_of_ble_eq_true rfl) dX8_checkCode_171 ⟨Nat.zero_le _, Nat.zero_le _⟩ (fun H locs hw => ?_)
        obtain ⟨r8, h7, h⟩ := b1E h
        refine r_callV (rest := [.int v4, .ref (a 0)]) C hw (c_X8_isBegin l D cI cZ z base a x1 r6 u0 r8 h7) (cwV 2 C.1.2.2.2.2 gX8_checkCode_X8_isBegin rfl rfl rfl (by decide +kernel) ⟨Nat.le_of_ble_eq_true rfl, Nat.le_of_ble_eq_true rfl⟩) (va_recv C.2.1 hw.1 (ci := 7) (q0 := 0) rfl (MWa_0 cI cZ a u0)) rfl hl.1 rfl (Nat.le_of_ble_eq_true rfl) dX8_checkCode_174 ⟨Nat.zero_le _, Nat.zero_le _⟩ (fun H locs hw => ?_)
        refine lv_if_eq (tgt := 199) hx hb dX8_checkCode_177 (by decide) (fun c9 => ?_) (fun c9 => ?_)
        · have h := itT c9 h
          exact J199 x1 x2 v4 v4 u0 _ _ _ h hw (lv_sub hl [1, 2, 3, 0] rfl)
        · have h := itF c9 h
          refine lv_aload_n hx hb dX8_checkCode_180 rfl (lv_at hl 1 rfl) ?_
          refine lv_iload_n hx hb dX8_checkCode_181 rfl (lv_at hl 0 rfl) ?_
          obtain ⟨r11, h10, h⟩ := b1E h
          refine r_callV (rest := [.int v4, .ref (a 0)]) C hw (c_X8_two l D cI cZ z base a v4 u0 r11 h10) (cwV 1 C.1.2.2.2.2 gX8_checkCode_X8_two rfl rfl rfl (by decide +kernel) ⟨Nat.le_of_ble_eq_true rfl, Nat.le_of_ble_eq_true rfl⟩) (va_recv C.2.1 hw.1 (ci := 7) (q0 := 0) rfl (MWa_0 cI cZ a u0)) rfl hl.1 rfl (Nat.le_of_ble_eq_true rfl) dX8_checkCode_182 ⟨Nat.zero_le _, Nat.zero_le _⟩ (fun H locs hw => ?_)
          refine lv_aload_n hx hb dX8_checkCode_185 rfl (lv_at hl 1 rfl) ?_
          refine lv_iload_n hx hb dX8_checkCode_186 rfl (lv_at hl 0 rfl) ?_
          refine lv_iconst (v := 2) hx hb dX8_checkCode_187 (by decide) ?_
          refine lv_iadd hx hb dX8_checkCode_188 ?_
          obtain ⟨r13, h12, h⟩ := b1E h
          refine r_callV (rest := [.int r11, .int v4, .ref (a 0)]) C hw (c_X8_two l D cI cZ z base a (v4 + 2) u0 r13 h12) (cwV 1 C.1.2.2.2.2 gX8_checkCode_X8_two rfl rfl rfl (by decide +kernel) ⟨Nat.le_of_ble_eq_true rfl, Nat.le_of_ble_eq_true rfl⟩) (va_recv C.2.1 hw.1 (ci := 7) (q0 := 0) rfl (MWa_0 cI cZ a u0)) rfl hl.1 rfl (Nat.le_of_ble_eq_true rfl) dX8_checkCode_189 ⟨Nat.zero_le _, Nat.zero_le _⟩ (fun H locs hw => ?_)
          refine lv_icmp_ge (tgt := 199) hx hb dX8_checkCode_192 (by decide) (fun c14 => ?_) (fun c14 => ?_)
          · have h := itT c14 h
            exact J199 x1 x2 v4 v4 u0 _ _ _ h hw (lv_sub hl [1, 2, 3, 0] rfl)
          · have h := itF c14 h
            refine lv_iconst (v := 1) hx hb dX8_checkCode_195 (by decide) ?_
            refine lv_goto (tgt := 200) hx hb dX8_checkCode_196 (by decide) ?_
            exact J200 x1 x2 v4 1 v4 u0 _ _ _ h hw (lv_sub hl [1, 2, 3, 0] rfl)
  have J7 : ∀ n7 : Nat, ∀ (x1 x2 : Int32) (u0 : St) (H : Heap) (locs : List Loc) (ls : Array Slot), F_X8_checkCode_7 n7 x1 x2 u0 = some uo → Wd D A s.heap H locs (MW cI cZ a u0) → lv_has ls 5 [(0, .ref (a 0)), (1, .int x1), (2, .int x2)] → W p l e rmX8_checkCode s m args below meth c H locs 0 0 Q (F0 m 7 ls []) := by
    intro n7
    induction n7 with
    | zero => intro x1 x2 u0 H locs ls h; rw [F_X8_checkCode_7] at h; cases h
    | succ n7 ih7 =>
      have J135 : ∀ (x1 x2 : Int32) (u0 : St) (H : Heap) (locs : List Loc) (ls : Array Slot), F_X8_checkCode_135 (F_X8_checkCode_7 n7) x1 x2 u0 = some uo → Wd D A s.heap H locs (MW cI cZ a u0) → lv_has ls 5 [(0, .ref (a 0)), (1, .int x1), (2, .int x2)] → W p l e rmX8_checkCode s m args below meth c H locs 0 0 Q (F0 m 135 ls []) := by
        intro x1 x2 u0 H locs ls h hw hl
        rw [F_X8_checkCode_135] at h
        obtain ⟨v1, ev1⟩ : ∃ y : Int32, y = x2 + 1 := ⟨_, rfl⟩
        have h := nmE ev1 h
        refine lv_iinc (v := v1) (lv' := [(2, .int v1), (0, .ref (a 0)), (1, .int x1)]) hx hb dX8_checkCode_135 hl (k := 2) rfl (by rw [ev1]; rfl) (by decide) rfl (fun ls hl => ?_)
        refine lv_goto (tgt := 7) hx hb dX8_checkCode_138 (by decide) ?_
        exact ih7 x1 v1 u0 _ _ _ h hw (lv_sub hl [1, 2, 0] rfl)
      have J132 : ∀ (x1 x2 t0 t1 : Int32) (u0 : St) (H : Heap) (locs : List Loc) (ls : Array Slot), F_X8_checkCode_132 (F_X8_checkCode_7 n7) x1 x2 t0 t1 u0 = some uo → Wd D A s.heap H locs (MW cI cZ a u0) → lv_has ls 5 [(0, .ref (a 0)), (1, .int x1), (2, .int x2)] → W p l e rmX8_checkCode s m args below meth c H locs 0 0 Q (F0 m 132 ls [.int t0, .int t1, .ref (a 0)]) := by
        intro x1 x2 t0 t1 u0 H locs ls h hw hl
        rw [F_X8_checkCode_132] at h
        obtain ⟨u2, h1, h⟩ := b1E h
        refine r_callVv (rest := []) C hw (c_X8_note l D cI cZ z base a t1 t0 u0 u2 h1) (cwV 2 C.1.2.2.2.2 gX8_checkCode_X8_note rfl rfl rfl (by decide +kernel) ⟨Nat.le_of_ble_eq_true rfl, Nat.le_of_ble_eq_true rfl⟩) (va_recv C.2.1 hw.1 (ci := 7) (q0 := 0) rfl (MWa_0 cI cZ a u0)) rfl hl.1 rfl (Nat.le_of_ble_eq_true rfl) dX8_checkCode_132 ⟨Nat.zero_le _, Nat.zero_le _⟩ (fun H locs hw => ?_)
        exact J135 x1 x2 u2 _ _ _ h hw hl
      have J102 : ∀ (x1 x2 x3 : Int32) (u0 : St) (H : Heap) (locs : List Loc) (ls : Array Slot), F_X8_checkCode_102 (F_X8_checkCode_7 n7) x1 x2 x3 u0 = some uo → Wd D A s.heap H locs (MW cI cZ a u0) → lv_has ls 5 [(0, .ref (a 0)), (1, .int x1), (2, .int x2), (3, .int x3)] → W p l e rmX8_checkCode s m args below meth c H locs 0 0 Q (F0 m 102 ls []) := by
        intro x1 x2 x3 u0 H locs ls h hw hl
        rw [F_X8_checkCode_102] at h
        refine lv_iload_n hx hb dX8_checkCode_102 rfl (lv_at hl 3 rfl) ?_
        refine lv_bipush (v := 35) hx hb dX8_checkCode_103 (by decide) ?_
        refine lv_icmp_ne (tgt := 135) hx hb dX8_checkCode_105 (by decide) (fun c1 => ?_) (fun c1 => ?_)
        · have h := itF c1 h
          exact J135 x1 x2 u0 _ _ _ h hw (lv_sub hl [0, 1, 2] rfl)
        · have h := itT c1 h
          refine lv_aload_n hx hb dX8_checkCode_108 rfl (lv_at hl 0 rfl) ?_
          refine lv_iload_n hx hb dX8_checkCode_109 rfl (lv_at hl 2 rfl) ?_
          refine lv_iconst (v := 1) hx hb dX8_checkCode_110 (by decide) ?_
          refine lv_iadd hx hb dX8_checkCode_111 ?_
          refine lv_aload_n hx hb dX8_checkCode_112 rfl (lv_at hl 0 rfl) ?_
          refine r_get C hw hiX8_checkCode_X8 0 (MWa_0 cI cZ a u0) rfl 2 (by decide) (by decide +kernel) rfl dX8_checkCode_113 ?_
          refine lv_iload_n hx hb dX8_checkCode_116 rfl (lv_at hl 2 rfl) ?_
          refine lv_iconst (v := 1) hx hb dX8_checkCode_117 (by decide) ?_
          refine lv_iadd hx hb dX8_checkCode_118 ?_
          obtain ⟨g2, h⟩ := ixE h
          refine r_ald C hw 2 0 (MWa_2 cI cZ a u0) rfl g2 dX8_checkCode_119 ?_
          refine lv_aload_n hx hb dX8_checkCode_120 rfl (lv_at hl 0 rfl) ?_
          refine r_get C hw hiX8_checkCode_X8 0 (MWa_0 cI cZ a u0) rfl 15 (by decide) (by decide +kernel) rfl dX8_checkCode_121 ?_
          refine lv_icmp_ge (tgt := 131) hx hb dX8_checkCode_124 (by decide) (fun c3 => ?_) (fun c3 => ?_)
          · have h := itT c3 h
            refine lv_iconst (v := 0) hx hb dX8_checkCode_131 (by decide) ?_
            exact J132 x1 x2 0 (x2 + 1) u0 _ _ _ h hw (lv_sub hl [0, 1, 2] rfl)
          · have h := itF c3 h
            refine lv_iconst (v := 1) hx hb dX8_checkCode_127 (by decide) ?_
            refine lv_goto (tgt := 132) hx hb dX8_checkCode_128 (by decide) ?_
            exact J132 x1 x2 1 (x2 + 1) u0 _ _ _ h hw (lv_sub hl [0, 1, 2] rfl)
      have J77 : ∀ (x1 x2 x3 t0 : Int32) (u0 : St) (H : Heap) (locs : List Loc) (ls : Array Slot), F_X8_checkCode_77 (F_X8_checkCode_7 n7) x1 x2 x3 t0 u0 = some uo → Wd D A s.heap H locs (MW cI cZ a u0) → lv_has ls 5 [(0, .ref (a 0)), (1, .int x1), (2, .int x2), (3, .int x3)] → W p l e rmX8_checkCode s m args below meth c H locs 0 0 Q (F0 m 77 ls [.int t0]) := by
        intro x1 x2 x3 t0 u0 H locs ls h hw hl
        rw [F_X8_checkCode_77] at h
        refine lv_istore (lv' := [(4, .int t0), (0, .ref (a 0)), (1, .int x1), (2, .int x2), (3, .int x3)]) hx hb dX8_checkCode_77 hl (by decide) rfl (fun ls hl => ?_)
        refine lv_iload hx hb dX8_checkCode_79 (lv_at hl 0 rfl) ?_
        refine lv_iconst (v := (-1)) hx hb dX8_checkCode_81 (by decide) ?_
        refine lv_icmp_eq (tgt := 102) hx hb dX8_checkCode_82 (by decide) (fun c1 => ?_) (fun c1 => ?_)
        · have h := itT c1 h
          exact J102 x1 x2 x3 u0 _ _ _ h hw (lv_sub hl [1, 2, 3, 4] rfl)
        · have h := itF c1 h
          refine lv_aload_n hx hb dX8_checkCode_85 rfl (lv_at hl 1 rfl) ?_
          refine lv_iload hx hb dX8_checkCode_86 (lv_at hl 0 rfl) ?_
          refine lv_aload_n hx hb dX8_checkCode_88 rfl (lv_at hl 1 rfl) ?_
          refine lv_iload_n hx hb dX8_checkCode_89 rfl (lv_at hl 2 rfl) ?_
          refine lv_aload_n hx hb dX8_checkCode_90 rfl (lv_at hl 1 rfl) ?_
          refine lv_iload hx hb dX8_checkCode_91 (lv_at hl 0 rfl) ?_
          obtain ⟨r3, h2, h⟩ := b1E h
          refine r_callV (rest := [.int x1, .ref (a 0), .int t0, .ref (a 0)]) C hw (c_X8_two l D cI cZ z base a t0 u0 r3 h2) (cwV 1 C.1.2.2.2.2 gX8_checkCode_X8_two rfl rfl rfl (by decide +kernel) ⟨Nat.le_of_ble_eq_true rfl, Nat.le_of_ble_eq_true rfl⟩) (va_recv C.2.1 hw.1 (ci := 7) (q0 := 0) rfl (MWa_0 cI cZ a u0)) rfl hl.1 rfl (Nat.le_of_ble_eq_true rfl) dX8_checkCode_93 ⟨Nat.zero_le _, Nat.zero_le _⟩ (fun H locs hw => ?_)
          obtain ⟨r5, h4, h⟩ := b1E h
          refine r_callV (rest := [.int t0, .ref (a 0)]) C hw (c_X8_isBegin l D cI cZ z base a x1 r3 u0 r5 h4) (cwV 2 C.1.2.2.2.2 gX8_checkCode_X8_isBegin rfl rfl rfl (by decide +kernel) ⟨Nat.le_of_ble_eq_true rfl, Nat.le_of_ble_eq_true rfl⟩) (va_recv C.2.1 hw.1 (ci := 7) (q0 := 0) rfl (MWa_0 cI cZ a u0)) rfl hl.1 rfl (Nat.le_of_ble_eq_true rfl) dX8_checkCode_96 ⟨Nat.zero_le _, Nat.zero_le _⟩ (fun H locs hw => ?_)
          obtain ⟨u7, h6, h⟩ := b1E h
          refine r_callVv (rest := []) C hw (c_X8_note l D cI cZ z base a t0 r5 u0 u7 h6) (cwV 2 C.1.2.2.2.2 gX8_checkCode_X8_note rfl rfl rfl (by decide +kernel) ⟨Nat.le_of_ble_eq_true rfl, Nat.le_of_ble_eq_true rfl⟩) (va_recv C.2.1 hw.1 (ci := 7) (q0 := 0) rfl (MWa_0 cI cZ a u0)) rfl hl.1 rfl (Nat.le_of_ble_eq_true rfl) dX8_checkCode_99 ⟨Nat.zero_le _, Nat.zero_le _⟩ (fun H locs hw => ?_)
          exact J102 x1 x2 x3 u7 _ _ _ h hw (lv_sub hl [1, 2, 3, 4] rfl)
      have J52 : ∀ (x1 x2 x3 : Int32) (u0 : St) (H : Heap) (locs : List Loc) (ls : Array Slot), F_X8_checkCode_52 (F_X8_checkCode_7 n7) x1 x2 x3 u0 = some uo → Wd D A s.heap H locs (MW cI cZ a u0) → lv_has ls 5 [(0, .ref (a 0)), (1, .int x1), (2, .int x2), (3, .int x3)] → W p l e rmX8_checkCode s m args below meth c H locs 0 0 Q (F0 m 52 ls []) := by
        intro x1 x2 x3 u0 H locs ls h hw hl
        rw [F_X8_checkCode_52] at h
        refine lv_iload_n hx hb dX8_checkCode_52 rfl (lv_at hl 2 rfl) ?_
        refine lv_iconst (v := 2) hx hb dX8_checkCode_53 (by decide) ?_
        refine lv_iadd hx hb dX8_checkCode_54 ?_
        refine lv_goto (tgt := 77) hx hb dX8_checkCode_55 (by decide) ?_
        exact J77 x1 x2 x3 (x2 + 2) u0 _ _ _ h hw hl
      have J76 : ∀ (x1 x2 x3 : Int32) (u0 : St) (H : Heap) (locs : List Loc) (ls : Array Slot), F_X8_checkCode_76 (F_X8_checkCode_7 n7) x1 x2 x3 u0 = some uo → Wd D A s.heap H locs (MW cI cZ a u0) → lv_has ls 5 [(0, .ref (a 0)), (1, .int x1), (2, .int x2), (3, .int x3)] → W p l e rmX8_checkCode s m args below meth c H locs 0 0 Q (F0 m 76 ls []) := by
        intro x1 x2 x3 u0 H locs ls h hw hl
        rw [F_X8_checkCode_76] at h
        refine lv_iconst (v := (-1)) hx hb dX8_checkCode_76 (by decide) ?_
        exact J77 x1 x2 x3 (-1) u0 _ _ _ h hw hl
      intro x1 x2 u0 H locs ls h hw hl
      rw [F_X8_checkCode_7] at h
      refine lv_iload_n hx hb dX8_checkCode_7 rfl (lv_at hl 2 rfl) ?_
      refine lv_aload_n hx hb dX8_checkCode_8 rfl (lv_at hl 0 rfl) ?_
      refine r_get C hw hiX8_checkCode_X8 0 (MWa_0 cI cZ a u0) rfl 22 (by decide) (by decide +kernel) rfl dX8_checkCode_9 ?_
      refine lv_iload_n hx hb dX8_checkCode_12 rfl (lv_at hl 1 rfl) ?_
      obtain ⟨g1, h⟩ := ixE h
      refine r_ald C hw 16 0 (MWa_16 cI cZ a u0) rfl g1 dX8_checkCode_13 ?_
      refine lv_aload_n hx hb dX8_checkCode_14 rfl (lv_at hl 0 rfl) ?_
      refine r_get C hw hiX8_checkCode_X8 0 (MWa_0 cI cZ a u0) rfl 23 (by decide) (by decide +kernel) rfl dX8_checkCode_15 ?_
      refine lv_iload_n hx hb dX8_checkCode_18 rfl (lv_at hl 1 rfl) ?_
      obtain ⟨g2, h⟩ := ixE h
      refine r_ald C hw 17 0 (MWa_17 cI cZ a u0) rfl g2 dX8_checkCode_19 ?_
      refine lv_iadd hx hb dX8_checkCode_20 ?_
      refine lv_icmp_ge (tgt := 141) hx hb dX8_checkCode_21 (by decide) (fun c3 => ?_) (fun c3 => ?_)
      · have h := itT c3 h
        refine lv_iconst (v := 0) hx hb dX8_checkCode_141 (by decide) ?_
        refine lv_istore_n (lv' := [(2, .int 0), (0, .ref (a 0)), (1, .int x1)]) hx hb dX8_checkCode_142 rfl hl (by decide) rfl (fun ls hl => ?_)
        exact J143 fu x1 0 u0 _ _ _ h hw (lv_sub hl [1, 2, 0] rfl)
      · have h := itF c3 h
        refine lv_aload_n hx hb dX8_checkCode_24 rfl (lv_at hl 0 rfl) ?_
        refine r_get C hw hiX8_checkCode_X8 0 (MWa_0 cI cZ a u0) rfl 3 (by decide) (by decide +kernel) rfl dX8_checkCode_25 ?_
        refine lv_iload_n hx hb dX8_checkCode_28 rfl (lv_at hl 2 rfl) ?_
        obtain ⟨g4, h⟩ := ixE h
        refine r_zld C hw 3 1 (MWa_3 cI cZ a u0) rfl g4 dX8_checkCode_29 ?_
        refine lv_if_eq (tgt := 135) hx hb dX8_checkCode_30 (by decide) (fun c5 => ?_) (fun c5 => ?_)
        · have h := itT c5 h
          exact J135 x1 x2 u0 _ _ _ h hw hl
        · have h := itF c5 h
          refine lv_aload_n hx hb dX8_checkCode_33 rfl (lv_at hl 0 rfl) ?_
          refine r_get C hw hiX8_checkCode_X8 0 (MWa_0 cI cZ a u0) rfl 2 (by decide) (by decide +kernel) rfl dX8_checkCode_34 ?_
          refine lv_iload_n hx hb dX8_checkCode_37 rfl (lv_at hl 2 rfl) ?_
          obtain ⟨g6, h⟩ := ixE h
          refine r_ald C hw 2 0 (MWa_2 cI cZ a u0) rfl g6 dX8_checkCode_38 ?_
          refine lv_topi (fun v7 ev7 => ?_)
          have h := nmE ev7 h
          refine lv_istore_n (lv' := [(3, .int v7), (0, .ref (a 0)), (1, .int x1), (2, .int x2)]) hx hb dX8_checkCode_39 rfl hl (by decide) rfl (fun ls hl => ?_)
          refine lv_iload_n hx hb dX8_checkCode_40 rfl (lv_at hl 0 rfl) ?_
          refine lv_bipush (v := 19) hx hb dX8_checkCode_41 (by decide) ?_
          refine lv_icmp_eq (tgt := 52) hx hb dX8_checkCode_43 (by decide) (fun c8 => ?_) (fun c8 => ?_)
          · have h := itT c8 h
            exact J52 x1 x2 v7 u0 _ _ _ h hw (lv_sub hl [1, 2, 3, 0] rfl)
          · have h := itF c8 h
            refine lv_iload_n hx hb dX8_checkCode_46 rfl (lv_at hl 0 rfl) ?_
            refine lv_bipush (v := 20) hx hb dX8_checkCode_47 (by decide) ?_
            refine lv_icmp_ne (tgt := 58) hx hb dX8_checkCode_49 (by decide) (fun c9 => ?_) (fun c9 => ?_)
            · have h := itF c9 h
              refine lv_iload_n hx hb dX8_checkCode_58 rfl (lv_at hl 0 rfl) ?_
              refine lv_bipush (v := 21) hx hb dX8_checkCode_59 (by decide) ?_
              refine lv_icmp_lt (tgt := 76) hx hb dX8_checkCode_61 (by decide) (fun c10 => ?_) (fun c10 => ?_)
              · have h := itT c10 h
                exact J76 x1 x2 v7 u0 _ _ _ h hw (lv_sub hl [1, 2, 3, 0] rfl)
              · have h := itF c10 h
                refine lv_iload_n hx hb dX8_checkCode_64 rfl (lv_at hl 0 rfl) ?_
                refine lv_bipush (v := 25) hx hb dX8_checkCode_65 (by decide) ?_
                refine lv_icmp_gt (tgt := 76) hx hb dX8_checkCode_67 (by decide) (fun c11 => ?_) (fun c11 => ?_)
                · have h := itT c11 h
                  exact J76 x1 x2 v7 u0 _ _ _ h hw (lv_sub hl [1, 2, 3, 0] rfl)
                · have h := itF c11 h
                  refine lv_iload_n hx hb dX8_checkCode_70 rfl (lv_at hl 3 rfl) ?_
                  refine lv_iconst (v := 1) hx hb dX8_checkCode_71 (by decide) ?_
                  refine lv_iadd hx hb dX8_checkCode_72 ?_
                  refine lv_goto (tgt := 77) hx hb dX8_checkCode_73 (by decide) ?_
                  exact J77 x1 x2 v7 (x2 + 1) u0 _ _ _ h hw (lv_sub hl [1, 2, 3, 0] rfl)
            · have h := itT c9 h
              exact J52 x1 x2 v7 u0 _ _ _ h hw (lv_sub hl [1, 2, 3, 0] rfl)
  have hl : lv_has ls 5 [(0, .ref (a 0)), (1, .int x1)] := hl
  rw [F_X8_checkCode] at h
  refine lv_aload_n hx hb dX8_checkCode_0 rfl (lv_at hl 0 rfl) ?_
  refine r_get C hw hiX8_checkCode_X8 0 (MWa_0 cI cZ a u0) rfl 22 (by decide) (by decide +kernel) rfl dX8_checkCode_1 ?_
  refine lv_iload_n hx hb dX8_checkCode_4 rfl (lv_at hl 1 rfl) ?_
  obtain ⟨g1, h⟩ := ixE h
  refine r_ald C hw 16 0 (MWa_16 cI cZ a u0) rfl g1 dX8_checkCode_5 ?_
  refine lv_topi (fun v2 ev2 => ?_)
  have h := nmE ev2 h
  refine lv_istore_n (lv' := [(2, .int v2), (0, .ref (a 0)), (1, .int x1)]) hx hb dX8_checkCode_6 rfl hl (by decide) rfl (fun ls hl => ?_)
  exact J7 fu x1 v2 u0 _ _ _ h hw (lv_sub hl [1, 2, 0] rfl)
