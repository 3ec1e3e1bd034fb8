abbrev rmX8_method : Room := { frames := 1, cells := 0, slots := 0, locals := 24 }
theorem hiX8_method_X8 : ∀ w ∈ wsX80, w ∈ wsX8_method := by decide +kernel
set_option maxHeartbeats 4000000 in
set_option maxRecDepth 100000 in
theorem c_X8_method (l : Launch) (D : va_G) (cI cZ : ClassId) (z : Nat → Nat) (base : Nat) (a : Nat → Nat) (x1 : Int32) (x2 : Int32) (x3 : Int32) (u0 : St) (ro : Int32) (h : F_X8_method x1 x2 x3 u0 = some ro) : MI l D [(cI, .int), (cZ, .boolean)] z base yX8_method wsX8_method rmX8_method [.ref (a 0), .int x1, .int x2, .int x3] (MW cI cZ a u0) ro (MW cI cZ a u0) := by
  refine MI.ofI (own := RX8) (cc := cX8_method) (maxL := 4) (by decide) rfl rfl (Nat.le_of_ble_eq_true rfl) ?_
  intro p e s m args below meth c A Q ls C hl hw hQ
  have hx := C.1.1
  have hb := C.1.2.1
  have hl : lv_has ls 4 [(0, .ref (a 0)), (1, .int x1), (2, .int x2), (3, .int x3)] := hl
  rw [F_X8_method] at h
  refine lv_aload_n hx hb dX8_method_0 rfl (lv_at hl 0 rfl) ?_
  refine lv_iload_n hx hb dX8_method_1 rfl (lv_at hl 1 rfl) ?_
  obtain ⟨r2, h1, h⟩ := b1E h
  refine r_callV (rest := []) C hw (c_X8_isMethod l D cI cZ z base a x1 u0 r2 h1) (cwV 1 C.1.2.2.2.2 gX8_method_X8_isMethod rfl rfl rfl (by decide +kernel) ⟨Nat.le_of_ble_eq_true rfl, Nat.le_of_ble_eq_true rfl⟩) (va_recv C.2.1 hw.1 (ci := 7) (q0 := 0) rfl (MWa_0 cI cZ a u0)) rfl hl.1 rfl (Nat.le_of_ble_eq_true rfl) dX8_method_2 ⟨Nat.zero_le _, Nat.zero_le _⟩ (fun H locs hw => ?_)
  refine lv_if_ne (tgt := 10) hx hb dX8_method_5 (by decide) (fun c3 => ?_) (fun c3 => ?_)
  · have h := itF c3 h
    refine lv_iload_n hx hb dX8_method_10 rfl (lv_at hl 2 rfl) ?_
    by_cases c4 : x2 = 0
    · have h := itT c4 h
      refine r_tabIn (k := 0) (tgt := 64) C c4 dX8_method_11 (by decide) (by decide) rfl (by decide) ?_
      refine lv_aload_n hx hb dX8_method_64 rfl (lv_at hl 0 rfl) ?_
      refine r_get C hw hiX8_method_X8 0 (MWa_0 cI cZ a u0) rfl 16 (by decide) (by decide +kernel) rfl dX8_method_65 ?_
      refine lv_iload_n hx hb dX8_method_68 rfl (lv_at hl 1 rfl) ?_
      obtain ⟨g5, h⟩ := ixE h
      refine r_ald C hw 10 0 (MWa_10 cI cZ a u0) rfl g5 dX8_method_69 ?_
      exact r_iretP hQ h hw dX8_method_70
    have h := itF c4 h
    by_cases c6 : x2 = 1
    · have h := itT c6 h
      refine r_tabIn (k := 1) (tgt := 71) C c6 dX8_method_11 (by decide) (by decide) rfl (by decide) ?_
      refine lv_aload_n hx hb dX8_method_71 rfl (lv_at hl 0 rfl) ?_
      refine r_get C hw hiX8_method_X8 0 (MWa_0 cI cZ a u0) rfl 17 (by decide) (by decide +kernel) rfl dX8_method_72 ?_
      refine lv_iload_n hx hb dX8_method_75 rfl (lv_at hl 1 rfl) ?_
      obtain ⟨g7, h⟩ := ixE h
      refine r_ald C hw 11 0 (MWa_11 cI cZ a u0) rfl g7 dX8_method_76 ?_
      exact r_iretP hQ h hw dX8_method_77
    have h := itF c6 h
    by_cases c8 : x2 = 2
    · have h := itT c8 h
      refine r_tabIn (k := 2) (tgt := 78) C c8 dX8_method_11 (by decide) (by decide) rfl (by decide) ?_
      refine lv_iload_n hx hb dX8_method_78 rfl (lv_at hl 3 rfl) ?_
      refine lv_if_lt (tgt := 106) hx hb dX8_method_79 (by decide) (fun c9 => ?_) (fun c9 => ?_)
      · have h := itT c9 h
        refine lv_iconst (v := (-1)) hx hb dX8_method_106 (by decide) ?_
        exact r_iretP hQ h hw dX8_method_107
      · have h := itF c9 h
        refine lv_iload_n hx hb dX8_method_82 rfl (lv_at hl 3 rfl) ?_
        refine lv_aload_n hx hb dX8_method_83 rfl (lv_at hl 0 rfl) ?_
        refine r_get C hw hiX8_method_X8 0 (MWa_0 cI cZ a u0) rfl 17 (by decide) (by decide +kernel) rfl dX8_method_84 ?_
        refine lv_iload_n hx hb dX8_method_87 rfl (lv_at hl 1 rfl) ?_
        obtain ⟨g10, h⟩ := ixE h
        refine r_ald C hw 11 0 (MWa_11 cI cZ a u0) rfl g10 dX8_method_88 ?_
        refine lv_icmp_ge (tgt := 106) hx hb dX8_method_89 (by decide) (fun c11 => ?_) (fun c11 => ?_)
        · have h := itT c11 h
          refine lv_iconst (v := (-1)) hx hb dX8_method_106 (by decide) ?_
          exact r_iretP hQ h hw dX8_method_107
        · have h := itF c11 h
          refine lv_aload_n hx hb dX8_method_92 rfl (lv_at hl 0 rfl) ?_
          refine r_get C hw hiX8_method_X8 0 (MWa_0 cI cZ a u0) rfl 18 (by decide) (by decide +kernel) rfl dX8_method_93 ?_
          refine lv_bipush (v := 8) hx hb dX8_method_96 (by decide) ?_
          refine lv_iload_n hx hb dX8_method_98 rfl (lv_at hl 1 rfl) ?_
          refine lv_imul hx hb dX8_method_99 ?_
          refine lv_iload_n hx hb dX8_method_100 rfl (lv_at hl 3 rfl) ?_
          refine lv_iadd hx hb dX8_method_101 ?_
          obtain ⟨g12, h⟩ := ixE h
          refine r_ald C hw 12 0 (MWa_12 cI cZ a u0) rfl g12 dX8_method_102 ?_
          refine lv_goto (tgt := 107) hx hb dX8_method_103 (by decide) ?_
          exact r_iretP hQ h hw dX8_method_107
    have h := itF c8 h
    by_cases c13 : x2 = 3
    · have h := itT c13 h
      refine r_tabIn (k := 3) (tgt := 108) C c13 dX8_method_11 (by decide) (by decide) rfl (by decide) ?_
      refine lv_aload_n hx hb dX8_method_108 rfl (lv_at hl 0 rfl) ?_
      refine r_get C hw hiX8_method_X8 0 (MWa_0 cI cZ a u0) rfl 19 (by decide) (by decide +kernel) rfl dX8_method_109 ?_
      refine lv_iload_n hx hb dX8_method_112 rfl (lv_at hl 1 rfl) ?_
      obtain ⟨g14, h⟩ := ixE h
      refine r_ald C hw 13 0 (MWa_13 cI cZ a u0) rfl g14 dX8_method_113 ?_
      exact r_iretP hQ h hw dX8_method_114
    have h := itF c13 h
    by_cases c15 : x2 = 4
    · have h := itT c15 h
      refine r_tabIn (k := 4) (tgt := 115) C c15 dX8_method_11 (by decide) (by decide) rfl (by decide) ?_
      refine lv_aload_n hx hb dX8_method_115 rfl (lv_at hl 0 rfl) ?_
      refine r_get C hw hiX8_method_X8 0 (MWa_0 cI cZ a u0) rfl 20 (by decide) (by decide +kernel) rfl dX8_method_116 ?_
      refine lv_iload_n hx hb dX8_method_119 rfl (lv_at hl 1 rfl) ?_
      obtain ⟨g16, h⟩ := ixE h
      refine r_ald C hw 14 0 (MWa_14 cI cZ a u0) rfl g16 dX8_method_120 ?_
      exact r_iretP hQ h hw dX8_method_121
    have h := itF c15 h
    by_cases c17 : x2 = 5
    · have h := itT c17 h
      refine r_tabIn (k := 5) (tgt := 122) C c17 dX8_method_11 (by decide) (by decide) rfl (by decide) ?_
      refine lv_aload_n hx hb dX8_method_122 rfl (lv_at hl 0 rfl) ?_
      refine r_get C hw hiX8_method_X8 0 (MWa_0 cI cZ a u0) rfl 21 (by decide) (by decide +kernel) rfl dX8_method_123 ?_
      refine lv_iload_n hx hb dX8_method_126 rfl (lv_at hl 1 rfl) ?_
      obtain ⟨g18, h⟩ := ixE h
      refine r_ald C hw 15 0 (MWa_15 cI cZ a u0) rfl g18 dX8_method_127 ?_
      exact r_iretP hQ h hw dX8_method_128
    have h := itF c17 h
    by_cases c19 : x2 = 6
    · have h := itT c19 h
      refine r_tabIn (k := 6) (tgt := 129) C c19 dX8_method_11 (by decide) (by decide) rfl (by decide) ?_
      refine lv_aload_n hx hb dX8_method_129 rfl (lv_at hl 0 rfl) ?_
      refine r_get C hw hiX8_method_X8 0 (MWa_0 cI cZ a u0) rfl 23 (by decide) (by decide +kernel) rfl dX8_method_130 ?_
      refine lv_iload_n hx hb dX8_method_133 rfl (lv_at hl 1 rfl) ?_
      obtain ⟨g20, h⟩ := ixE h
      refine r_ald C hw 17 0 (MWa_17 cI cZ a u0) rfl g20 dX8_method_134 ?_
      exact r_iretP hQ h hw dX8_method_135
    have h := itF c19 h
    by_cases c21 : x2 = 7
    · have h := itT c21 h
      refine r_tabIn (k := 7) (tgt := 136) C c21 dX8_method_11 (by decide) (by decide) rfl (by decide) ?_
      refine lv_aload_n hx hb dX8_method_136 rfl (lv_at hl 0 rfl) ?_
      refine lv_iload_n hx hb dX8_method_137 rfl (lv_at hl 1 rfl) ?_
      refine lv_iconst (v := (-1)) hx hb dX8_method_138 (by decide) ?_
      obtain ⟨r23, h22, h⟩ := b1E h
      refine r_callV (rest := []) C hw (c_X8_counted l D cI cZ z base a x1 (-1) u0 r23 h22) (cwV 2 C.1.2.2.2.2 gX8_method_X8_counted rfl rfl rfl (by decide +kernel) ⟨Nat.le_of_ble_eq_true rfl, Nat.le_of_ble_eq_true rfl⟩) (va_recv C.2.1 hw.1 (ci := 7) (q0 := 0) rfl (MWa_0 cI cZ a u0)) rfl hl.1 rfl (Nat.le_of_ble_eq_true rfl) dX8_method_139 ⟨Nat.zero_le _, Nat.zero_le _⟩ (fun H locs hw => ?_)
      exact r_iretP hQ h hw dX8_method_142
    have h := itF c21 h
    by_cases c24 : x2 = 8
    · have h := itT c24 h
      refine r_tabIn (k := 8) (tgt := 143) C c24 dX8_method_11 (by decide) (by decide) rfl (by decide) ?_
      refine lv_iload_n hx hb dX8_method_143 rfl (lv_at hl 3 rfl) ?_
      refine lv_if_lt (tgt := 156) hx hb dX8_method_144 (by decide) (fun c25 => ?_) (fun c25 => ?_)
      · have h := itT c25 h
        refine lv_iconst (v := (-1)) hx hb dX8_method_156 (by decide) ?_
        exact r_iretP hQ h hw dX8_method_157
      · have h := itF c25 h
        refine lv_aload_n hx hb dX8_method_147 rfl (lv_at hl 0 rfl) ?_
        refine lv_iload_n hx hb dX8_method_148 rfl (lv_at hl 1 rfl) ?_
        refine lv_iload_n hx hb dX8_method_149 rfl (lv_at hl 3 rfl) ?_
        obtain ⟨r27, h26, h⟩ := b1E h
        refine r_callV (rest := []) C hw (c_X8_counted l D cI cZ z base a x1 x3 u0 r27 h26) (cwV 2 C.1.2.2.2.2 gX8_method_X8_counted rfl rfl rfl (by decide +kernel) ⟨Nat.le_of_ble_eq_true rfl, Nat.le_of_ble_eq_true rfl⟩) (va_recv C.2.1 hw.1 (ci := 7) (q0 := 0) rfl (MWa_0 cI cZ a u0)) rfl hl.1 rfl (Nat.le_of_ble_eq_true rfl) dX8_method_150 ⟨Nat.zero_le _, Nat.zero_le _⟩ (fun H locs hw => ?_)
        refine lv_goto (tgt := 157) hx hb dX8_method_153 (by decide) ?_
        exact r_iretP hQ h hw dX8_method_157
    have h := itF c24 h
    by_cases c28 : x2 = 9
    · have h := itT c28 h
      refine r_tabIn (k := 9) (tgt := 158) C c28 dX8_method_11 (by decide) (by decide) rfl (by decide) ?_
      refine lv_aload_n hx hb dX8_method_158 rfl (lv_at hl 0 rfl) ?_
      refine r_get C hw hiX8_method_X8 0 (MWa_0 cI cZ a u0) rfl 24 (by decide) (by decide +kernel) rfl dX8_method_159 ?_
      refine lv_iload_n hx hb dX8_method_162 rfl (lv_at hl 1 rfl) ?_
      obtain ⟨g29, h⟩ := ixE h
      refine r_ald C hw 18 0 (MWa_18 cI cZ a u0) rfl g29 dX8_method_163 ?_
      exact r_iretP hQ h hw dX8_method_164
    have h := itF c28 h
    refine lv_tableOut (tgt := 165) hx hb dX8_method_11 (by have := lv_neT (a := 0) c4 rfl; have := lv_neT (a := 1) c6 rfl; have := lv_neT (a := 2) c8 rfl; have := lv_neT (a := 3) c13 rfl; have := lv_neT (a := 4) c15 rfl; have := lv_neT (a := 5) c17 rfl; have := lv_neT (a := 6) c19 rfl; have := lv_neT (a := 7) c21 rfl; have := lv_neT (a := 8) c24 rfl; have := lv_neT (a := 9) c28 rfl; omega) (by decide) ?_
    refine lv_iconst (v := (-1)) hx hb dX8_method_165 (by decide) ?_
    exact r_iretP hQ h hw dX8_method_166
  · have h := itT c3 h
    refine lv_iconst (v := (-1)) hx hb dX8_method_8 (by decide) ?_
    exact r_iretP hQ h hw dX8_method_9
abbrev rmX8_handler : Room := { frames := 1, cells := 0, slots := 0, locals := 21 }
theorem hiX8_handler_X8 : ∀ w ∈ wsX80, w ∈ wsX8_handler := by decide +kernel
set_option maxHeartbeats 4000000 in
set_option maxRecDepth 100000 in
theorem c_X8_handler (l : Launch) (D : va_G) (cI cZ : ClassId) (z : Nat → Nat) (base : Nat) (a : Nat → Nat) (x1 : Int32) (x2 : Int32) (x3 : Int32) (u0 : St) (ro : Int32) (h : F_X8_handler x1 x2 x3 u0 = some ro) : MI l D [(cI, .int), (cZ, .boolean)] z base yX8_handler wsX8_handler rmX8_handler [.ref (a 0), .int x1, .int x2, .int x3] (MW cI cZ a u0) ro (MW cI cZ a u0) := by
  refine MI.ofI (own := RX8) (cc := cX8_handler) (maxL := 5) (by decide) rfl rfl (Nat.le_of_ble_eq_true rfl) ?_
  intro p e s m args below meth c A Q ls C hl hw hQ
  have hx := C.1.1
  have hb := C.1.2.1
  have hl : lv_has ls 5 [(0, .ref (a 0)), (1, .int x1), (2, .int x2), (3, .int x3)] := hl
  rw [F_X8_handler] at h
  refine lv_aload_n hx hb dX8_handler_0 rfl (lv_at hl 0 rfl) ?_
  refine lv_iload_n hx hb dX8_handler_1 rfl (lv_at hl 1 rfl) ?_
  obtain ⟨r2, h1, h⟩ := b1E h
  refine r_callV (rest := []) C hw (c_X8_isMethod l D cI cZ z base a x1 u0 r2 h1) (cwV 1 C.1.2.2.2.2 gX8_handler_X8_isMethod rfl rfl rfl (by decide +kernel) ⟨Nat.le_of_ble_eq_true rfl, Nat.le_of_ble_eq_true rfl⟩) (va_recv C.2.1 hw.1 (ci := 7) (q0 := 0) rfl (MWa_0 cI cZ a u0)) rfl hl.1 rfl (Nat.le_of_ble_eq_true rfl) dX8_handler_2 ⟨Nat.zero_le _, Nat.zero_le _⟩ (fun H locs hw => ?_)
  refine lv_if_eq (tgt := 22) hx hb dX8_handler_5 (by decide) (fun c3 => ?_) (fun c3 => ?_)
  · have h := itT c3 h
    refine lv_iconst (v := (-1)) hx hb dX8_handler_22 (by decide) ?_
    exact r_iretP hQ h hw dX8_handler_23
  · have h := itF c3 h
    refine lv_iload_n hx hb dX8_handler_8 rfl (lv_at hl 2 rfl) ?_
    refine lv_if_lt (tgt := 22) hx hb dX8_handler_9 (by decide) (fun c4 => ?_) (fun c4 => ?_)
    · have h := itT c4 h
      refine lv_iconst (v := (-1)) hx hb dX8_handler_22 (by decide) ?_
      exact r_iretP hQ h hw dX8_handler_23
    · have h := itF c4 h
      refine lv_iload_n hx hb dX8_handler_12 rfl (lv_at hl 2 rfl) ?_
      refine lv_aload_n hx hb dX8_handler_13 rfl (lv_at hl 0 rfl) ?_
      refine r_get C hw hiX8_handler_X8 0 (MWa_0 cI cZ a u0) rfl 24 (by decide) (by decide +kernel) rfl dX8_handler_14 ?_
      refine lv_iload_n hx hb dX8_handler_17 rfl (lv_at hl 1 rfl) ?_
      obtain ⟨g5, h⟩ := ixE h
      refine r_ald C hw 18 0 (MWa_18 cI cZ a u0) rfl g5 dX8_handler_18 ?_
      refine lv_icmp_lt (tgt := 24) hx hb dX8_handler_19 (by decide) (fun c6 => ?_) (fun c6 => ?_)
      · have h := itT c6 h
        refine lv_aload_n hx hb dX8_handler_24 rfl (lv_at hl 0 rfl) ?_
        refine r_get C hw hiX8_handler_X8 0 (MWa_0 cI cZ a u0) rfl 25 (by decide) (by decide +kernel) rfl dX8_handler_25 ?_
        refine lv_iload_n hx hb dX8_handler_28 rfl (lv_at hl 1 rfl) ?_
        obtain ⟨g7, h⟩ := ixE h
        refine r_ald C hw 19 0 (MWa_19 cI cZ a u0) rfl g7 dX8_handler_29 ?_
        refine lv_bipush (v := 7) hx hb dX8_handler_30 (by decide) ?_
        refine lv_iload_n hx hb dX8_handler_32 rfl (lv_at hl 2 rfl) ?_
        refine lv_imul hx hb dX8_handler_33 ?_
        refine lv_iadd hx hb dX8_handler_34 ?_
        refine lv_topi (fun v8 ev8 => ?_)
        have h := nmE ev8 h
        refine lv_istore (lv' := [(4, .int v8), (0, .ref (a 0)), (1, .int x1), (2, .int x2), (3, .int x3)]) hx hb dX8_handler_35 hl (by decide) rfl (fun ls hl => ?_)
        refine lv_iload_n hx hb dX8_handler_37 rfl (lv_at hl 4 rfl) ?_
        refine lv_if_ne (tgt := 50) hx hb dX8_handler_38 (by decide) (fun c9 => ?_) (fun c9 => ?_)
        · have h := itF c9 h
          refine lv_iload_n hx hb dX8_handler_50 rfl (lv_at hl 4 rfl) ?_
          refine lv_iconst (v := 1) hx hb dX8_handler_51 (by decide) ?_
          refine lv_icmp_ne (tgt := 66) hx hb dX8_handler_52 (by decide) (fun c10 => ?_) (fun c10 => ?_)
          · have h := itF c10 h
            refine lv_iload_n hx hb dX8_handler_66 rfl (lv_at hl 4 rfl) ?_
            refine lv_iconst (v := 2) hx hb dX8_handler_67 (by decide) ?_
            refine lv_icmp_ne (tgt := 83) hx hb dX8_handler_68 (by decide) (fun c11 => ?_) (fun c11 => ?_)
            · have h := itF c11 h
              refine lv_iload_n hx hb dX8_handler_83 rfl (lv_at hl 4 rfl) ?_
              refine lv_iconst (v := 3) hx hb dX8_handler_84 (by decide) ?_
              refine lv_icmp_ne (tgt := 99) hx hb dX8_handler_85 (by decide) (fun c12 => ?_) (fun c12 => ?_)
              · have h := itF c12 h
                refine lv_iconst (v := (-1)) hx hb dX8_handler_99 (by decide) ?_
                exact r_iretP hQ h hw dX8_handler_100
              · have h := itT c12 h
                refine lv_aload_n hx hb dX8_handler_88 rfl (lv_at hl 1 rfl) ?_
                refine lv_iload hx hb dX8_handler_89 (lv_at hl 0 rfl) ?_
                refine lv_iconst (v := 5) hx hb dX8_handler_91 (by decide) ?_
                refine lv_iadd hx hb dX8_handler_92 ?_
                obtain ⟨r14, h13, h⟩ := b1E h
                refine r_callV (rest := []) C hw (c_X8_two l D cI cZ z base a (v8 + 5) u0 r14 h13) (cwV 1 C.1.2.2.2.2 gX8_handler_X8_two rfl rfl rfl (by decide +kernel) ⟨Nat.le_of_ble_eq_true rfl, Nat.le_of_ble_eq_true rfl⟩) (va_recv C.2.1 hw.1 (ci := 7) (q0 := 0) rfl (MWa_0 cI cZ a u0)) rfl hl.1 rfl (Nat.le_of_ble_eq_true rfl) dX8_handler_93 ⟨Nat.zero_le _, Nat.zero_le _⟩ (fun H locs hw => ?_)
                refine lv_goto (tgt := 100) hx hb dX8_handler_96 (by decide) ?_
                exact r_iretP hQ h hw dX8_handler_100
            · have h := itT c11 h
              refine lv_aload_n hx hb dX8_handler_71 rfl (lv_at hl 1 rfl) ?_
              refine r_get C hw hiX8_handler_X8 0 (MWa_0 cI cZ a u0) rfl 2 (by decide) (by decide +kernel) rfl dX8_handler_72 ?_
              refine lv_iload hx hb dX8_handler_75 (lv_at hl 0 rfl) ?_
              refine lv_iconst (v := 4) hx hb dX8_handler_77 (by decide) ?_
              refine lv_iadd hx hb dX8_handler_78 ?_
              obtain ⟨g15, h⟩ := ixE h
              refine r_ald C hw 2 0 (MWa_2 cI cZ a u0) rfl g15 dX8_handler_79 ?_
              refine lv_goto (tgt := 100) hx hb dX8_handler_80 (by decide) ?_
              exact r_iretP hQ h hw dX8_handler_100
          · have h := itT c10 h
            refine lv_aload_n hx hb dX8_handler_55 rfl (lv_at hl 1 rfl) ?_
            refine lv_iload hx hb dX8_handler_56 (lv_at hl 0 rfl) ?_
            refine lv_iconst (v := 2) hx hb dX8_handler_58 (by decide) ?_
            refine lv_iadd hx hb dX8_handler_59 ?_
            obtain ⟨r17, h16, h⟩ := b1E h
            refine r_callV (rest := []) C hw (c_X8_two l D cI cZ z base a (v8 + 2) u0 r17 h16) (cwV 1 C.1.2.2.2.2 gX8_handler_X8_two rfl rfl rfl (by decide +kernel) ⟨Nat.le_of_ble_eq_true rfl, Nat.le_of_ble_eq_true rfl⟩) (va_recv C.2.1 hw.1 (ci := 7) (q0 := 0) rfl (MWa_0 cI cZ a u0)) rfl hl.1 rfl (Nat.le_of_ble_eq_true rfl) dX8_handler_60 ⟨Nat.zero_le _, Nat.zero_le _⟩ (fun H locs hw => ?_)
            refine lv_goto (tgt := 100) hx hb dX8_handler_63 (by decide) ?_
            exact r_iretP hQ h hw dX8_handler_100
        · have h := itT c9 h
          refine lv_aload_n hx hb dX8_handler_41 rfl (lv_at hl 1 rfl) ?_
          refine lv_iload hx hb dX8_handler_42 (lv_at hl 0 rfl) ?_
          obtain ⟨r19, h18, h⟩ := b1E h
          refine r_callV (rest := []) C hw (c_X8_two l D cI cZ z base a v8 u0 r19 h18) (cwV 1 C.1.2.2.2.2 gX8_handler_X8_two rfl rfl rfl (by decide +kernel) ⟨Nat.le_of_ble_eq_true rfl, Nat.le_of_ble_eq_true rfl⟩) (va_recv C.2.1 hw.1 (ci := 7) (q0 := 0) rfl (MWa_0 cI cZ a u0)) rfl hl.1 rfl (Nat.le_of_ble_eq_true rfl) dX8_handler_44 ⟨Nat.zero_le _, Nat.zero_le _⟩ (fun H locs hw => ?_)
          refine lv_goto (tgt := 100) hx hb dX8_handler_47 (by decide) ?_
          exact r_iretP hQ h hw dX8_handler_100
      · have h := itF c6 h
        refine lv_iconst (v := (-1)) hx hb dX8_handler_22 (by decide) ?_
        exact r_iretP hQ h hw dX8_handler_23
abbrev rmX8_instruction : Room := { frames := 1, cells := 0, slots := 0, locals := 22 }
theorem hiX8_instruction_X8 : ∀ w ∈ wsX80, w ∈ wsX8_instruction := by decide +kernel
set_option maxHeartbeats 4000000 in
set_option maxRecDepth 100000 in
theorem c_X8_instruction (l : Launch) (D : va_G) (cI cZ : ClassId) (z : Nat → Nat) (base : Nat) (a : Nat → Nat) (x1 : Int32) (x2 : Int32) (x3 : Int32) (u0 : St) (ro : Int32) (h : F_X8_instruction x1 x2 x3 u0 = some ro) : MI l D [(cI, .int), (cZ, .boolean)] z base yX8_instruction wsX8_instruction rmX8_instruction [.ref (a 0), .int x1, .int x2, .int x3] (MW cI cZ a u0) ro (MW cI cZ a u0) := by
  refine MI.ofI (own := RX8) (cc := cX8_instruction) (maxL := 7) (by decide) rfl rfl (Nat.le_of_ble_eq_true rfl) ?_
  intro p e s m args below meth c A Q ls C hl hw hQ
  have hx := C.1.1
  have hb := C.1.2.1
  have J124 : ∀ (x3 x4 : Int32) (H : Heap) (locs : List Loc) (ls : Array Slot), F_X8_instruction_124 x3 x4 u0 = some ro → Wd D A s.heap H locs (MW cI cZ a u0) → lv_has ls 7 [(0, .ref (a 0)), (3, .int x3), (4, .int x4)] → W p l e rmX8_instruction s m args below meth c H locs 0 0 Q (F0 m 124 ls []) := by
    intro x3 x4 H locs ls h hw hl
    rw [F_X8_instruction_124] at h
    refine lv_iload_n hx hb dX8_instruction_124 rfl (lv_at hl 1 rfl) ?_
    refine lv_iconst (v := 1) hx hb dX8_instruction_125 (by decide) ?_
    refine lv_icmp_ne (tgt := 141) hx hb dX8_instruction_126 (by decide) (fun c1 => ?_) (fun c1 => ?_)
    · have h := itF c1 h
      refine lv_aload_n hx hb dX8_instruction_141 rfl (lv_at hl 0 rfl) ?_
      refine lv_iload hx hb dX8_instruction_142 (lv_at hl 2 rfl) ?_
      refine lv_iconst (v := 2) hx hb dX8_instruction_144 (by decide) ?_
      refine lv_iadd hx hb dX8_instruction_145 ?_
      obtain ⟨r3, h2, h⟩ := b1E h
      refine r_callV (rest := []) C hw (c_X8_two l D cI cZ z base a (x4 + 2) u0 r3 h2) (cwV 1 C.1.2.2.2.2 gX8_instruction_X8_two rfl rfl rfl (by decide +kernel) ⟨Nat.le_of_ble_eq_true rfl, Nat.le_of_ble_eq_true rfl⟩) (va_recv C.2.1 hw.1 (ci := 7) (q0 := 0) rfl (MWa_0 cI cZ a u0)) rfl hl.1 rfl (Nat.le_of_ble_eq_true rfl) dX8_instruction_146 ⟨Nat.zero_le _, Nat.zero_le _⟩ (fun H locs hw => ?_)
      exact r_iretP hQ h hw dX8_instruction_149
    · have h := itT c1 h
      refine lv_aload_n hx hb dX8_instruction_129 rfl (lv_at hl 0 rfl) ?_
      refine r_get C hw hiX8_instruction_X8 0 (MWa_0 cI cZ a u0) rfl 2 (by decide) (by decide +kernel) rfl dX8_instruction_130 ?_
      refine lv_iload hx hb dX8_instruction_133 (lv_at hl 2 rfl) ?_
      refine lv_iconst (v := 1) hx hb dX8_instruction_135 (by decide) ?_
      refine lv_iadd hx hb dX8_instruction_136 ?_
      obtain ⟨g4, h⟩ := ixE h
      refine r_ald C hw 2 0 (MWa_2 cI cZ a u0) rfl g4 dX8_instruction_137 ?_
      refine lv_goto (tgt := 149) hx hb dX8_instruction_138 (by decide) ?_
      exact r_iretP hQ h hw dX8_instruction_149
  have J182 : ∀ (x3 x4 x6 : Int32) (H : Heap) (locs : List Loc) (ls : Array Slot), F_X8_instruction_182 x3 x4 x6 u0 = some ro → Wd D A s.heap H locs (MW cI cZ a u0) → lv_has ls 7 [(0, .ref (a 0)), (3, .int x3), (4, .int x4), (6, .int x6)] → W p l e rmX8_instruction s m args below meth c H locs 0 0 Q (F0 m 182 ls []) := by
    intro x3 x4 x6 H locs ls h hw hl
    rw [F_X8_instruction_182] at h
    refine lv_iload_n hx hb dX8_instruction_182 rfl (lv_at hl 1 rfl) ?_
    refine lv_iload hx hb dX8_instruction_183 (lv_at hl 3 rfl) ?_
    refine lv_icmp_ge (tgt := 200) hx hb dX8_instruction_185 (by decide) (fun c1 => ?_) (fun c1 => ?_)
    · have h := itT c1 h
      refine lv_iconst (v := 0) hx hb dX8_instruction_200 (by decide) ?_
      exact r_iretP hQ h hw dX8_instruction_201
    · have h := itF c1 h
      refine lv_aload_n hx hb dX8_instruction_188 rfl (lv_at hl 0 rfl) ?_
      refine r_get C hw hiX8_instruction_X8 0 (MWa_0 cI cZ a u0) rfl 2 (by decide) (by decide +kernel) rfl dX8_instruction_189 ?_
      refine lv_iload hx hb dX8_instruction_192 (lv_at hl 2 rfl) ?_
      refine lv_iload_n hx hb dX8_instruction_194 rfl (lv_at hl 1 rfl) ?_
      refine lv_iadd hx hb dX8_instruction_195 ?_
      obtain ⟨g2, h⟩ := ixE h
      refine r_ald C hw 2 0 (MWa_2 cI cZ a u0) rfl g2 dX8_instruction_196 ?_
      refine lv_goto (tgt := 201) hx hb dX8_instruction_197 (by decide) ?_
      exact r_iretP hQ h hw dX8_instruction_201
  have hl : lv_has ls 7 [(0, .ref (a 0)), (1, .int x1), (2, .int x2), (3, .int x3)] := hl
  rw [F_X8_instruction] at h
  refine lv_aload_n hx hb dX8_instruction_0 rfl (lv_at hl 0 rfl) ?_
  refine lv_iload_n hx hb dX8_instruction_1 rfl (lv_at hl 1 rfl) ?_
  obtain ⟨r2, h1, h⟩ := b1E h
  refine r_callV (rest := []) C hw (c_X8_isMethod l D cI cZ z base a x1 u0 r2 h1) (cwV 1 C.1.2.2.2.2 gX8_instruction_X8_isMethod rfl rfl rfl (by decide +kernel) ⟨Nat.le_of_ble_eq_true rfl, Nat.le_of_ble_eq_true rfl⟩) (va_recv C.2.1 hw.1 (ci := 7) (q0 := 0) rfl (MWa_0 cI cZ a u0)) rfl hl.1 rfl (Nat.le_of_ble_eq_true rfl) dX8_instruction_2 ⟨Nat.zero_le _, Nat.zero_le _⟩ (fun H locs hw => ?_)
  refine lv_if_eq (tgt := 30) hx hb dX8_instruction_5 (by decide) (fun c3 => ?_) (fun c3 => ?_)
  · have h := itT c3 h
    refine lv_iconst (v := (-1)) hx hb dX8_instruction_30 (by decide) ?_
    exact r_iretP hQ h hw dX8_instruction_31
  · have h := itF c3 h
    refine lv_iload_n hx hb dX8_instruction_8 rfl (lv_at hl 2 rfl) ?_
    refine lv_if_lt (tgt := 30) hx hb dX8_instruction_9 (by decide) (fun c4 => ?_) (fun c4 => ?_)
    · have h := itT c4 h
      refine lv_iconst (v := (-1)) hx hb dX8_instruction_30 (by decide) ?_
      exact r_iretP hQ h hw dX8_instruction_31
    · have h := itF c4 h
      refine lv_aload_n hx hb dX8_instruction_12 rfl (lv_at hl 0 rfl) ?_
      refine lv_iload_n hx hb dX8_instruction_13 rfl (lv_at hl 1 rfl) ?_
      refine lv_iload_n hx hb dX8_instruction_14 rfl (lv_at hl 2 rfl) ?_
      obtain ⟨r6, h5, h⟩ := b1E h
      refine r_callV (rest := []) C hw (c_X8_isBegin l D cI cZ z base a x1 x2 u0 r6 h5) (cwV 2 C.1.2.2.2.2 gX8_instruction_X8_isBegin rfl rfl rfl (by decide +kernel) ⟨Nat.le_of_ble_eq_true rfl, Nat.le_of_ble_eq_true rfl⟩) (va_recv C.2.1 hw.1 (ci := 7) (q0 := 0) rfl (MWa_0 cI cZ a u0)) rfl hl.1 rfl (Nat.le_of_ble_eq_true rfl) dX8_instruction_15 ⟨Nat.zero_le _, Nat.zero_le _⟩ (fun H locs hw => ?_)
      refine lv_if_eq (tgt := 30) hx hb dX8_instruction_18 (by decide) (fun c7 => ?_) (fun c7 => ?_)
      · have h := itT c7 h
        refine lv_iconst (v := (-1)) hx hb dX8_instruction_30 (by decide) ?_
        exact r_iretP hQ h hw dX8_instruction_31
      · have h := itF c7 h
        refine lv_iload_n hx hb dX8_instruction_21 rfl (lv_at hl 3 rfl) ?_
        refine lv_if_lt (tgt := 30) hx hb dX8_instruction_22 (by decide) (fun c8 => ?_) (fun c8 => ?_)
        · have h := itT c8 h
          refine lv_iconst (v := (-1)) hx hb dX8_instruction_30 (by decide) ?_
          exact r_iretP hQ h hw dX8_instruction_31
        · have h := itF c8 h
          refine lv_iload_n hx hb dX8_instruction_25 rfl (lv_at hl 3 rfl) ?_
          refine lv_iconst (v := 3) hx hb dX8_instruction_26 (by decide) ?_
          refine lv_icmp_le (tgt := 32) hx hb dX8_instruction_27 (by decide) (fun c9 => ?_) (fun c9 => ?_)
          · have h := itT c9 h
            refine lv_aload_n hx hb dX8_instruction_32 rfl (lv_at hl 0 rfl) ?_
            refine r_get C hw hiX8_instruction_X8 0 (MWa_0 cI cZ a u0) rfl 22 (by decide) (by decide +kernel) rfl dX8_instruction_33 ?_
            refine lv_iload_n hx hb dX8_instruction_36 rfl (lv_at hl 1 rfl) ?_
            obtain ⟨g10, h⟩ := ixE h
            refine r_ald C hw 16 0 (MWa_16 cI cZ a u0) rfl g10 dX8_instruction_37 ?_
            refine lv_iload_n hx hb dX8_instruction_38 rfl (lv_at hl 2 rfl) ?_
            refine lv_iadd hx hb dX8_instruction_39 ?_
            refine lv_topi (fun v11 ev11 => ?_)
            have h := nmE ev11 h
            refine lv_istore (lv' := [(4, .int v11), (0, .ref (a 0)), (1, .int x1), (2, .int x2), (3, .int x3)]) hx hb dX8_instruction_40 hl (by decide) rfl (fun ls hl => ?_)
            refine lv_aload_n hx hb dX8_instruction_42 rfl (lv_at hl 1 rfl) ?_
            refine r_get C hw hiX8_instruction_X8 0 (MWa_0 cI cZ a u0) rfl 2 (by decide) (by decide +kernel) rfl dX8_instruction_43 ?_
            refine lv_iload hx hb dX8_instruction_46 (lv_at hl 0 rfl) ?_
            obtain ⟨g12, h⟩ := ixE h
            refine r_ald C hw 2 0 (MWa_2 cI cZ a u0) rfl g12 dX8_instruction_48 ?_
            refine lv_topi (fun v13 ev13 => ?_)
            have h := nmE ev13 h
            refine lv_istore (lv' := [(5, .int v13), (4, .int v11), (0, .ref (a 0)), (1, .int x1), (2, .int x2), (3, .int x3)]) hx hb dX8_instruction_49 hl (by decide) rfl (fun ls hl => ?_)
            refine lv_iload hx hb dX8_instruction_51 (lv_at hl 0 rfl) ?_
            obtain ⟨r15, h14, h⟩ := b1E h
            refine r_callS (rest := []) C hw (c_X8_wide l D cI cZ z base a v13 u0 r15 h14) (va_cwS 1 C.1.2.2.2.2 gX8_instruction_X8_wide rfl rfl rfl (by decide +kernel) ⟨Nat.le_of_ble_eq_true rfl, Nat.le_of_ble_eq_true rfl⟩) rfl hl.1 rfl (Nat.le_of_ble_eq_true rfl) dX8_instruction_53 ⟨Nat.zero_le _, Nat.zero_le _⟩ (fun H locs hw => ?_)
            refine lv_istore (lv' := [(6, .int r15), (5, .int v13), (4, .int v11), (0, .ref (a 0)), (1, .int x1), (2, .int x2), (3, .int x3)]) hx hb dX8_instruction_56 hl (by decide) rfl (fun ls hl => ?_)
            refine lv_iload_n hx hb dX8_instruction_58 rfl (lv_at hl 6 rfl) ?_
            refine lv_if_ne (tgt := 65) hx hb dX8_instruction_59 (by decide) (fun c16 => ?_) (fun c16 => ?_)
            · have h := itF c16 h
              refine lv_iload_n hx hb dX8_instruction_65 rfl (lv_at hl 6 rfl) ?_
              refine lv_iconst (v := 3) hx hb dX8_instruction_66 (by decide) ?_
              refine lv_icmp_ne (tgt := 75) hx hb dX8_instruction_67 (by decide) (fun c17 => ?_) (fun c17 => ?_)
              · have h := itF c17 h
                refine lv_iload hx hb dX8_instruction_75 (lv_at hl 1 rfl) ?_
                refine lv_if_ne (tgt := 110) hx hb dX8_instruction_77 (by decide) (fun c18 => ?_) (fun c18 => ?_)
                · have h := itF c18 h
                  refine lv_iload hx hb dX8_instruction_110 (lv_at hl 1 rfl) ?_
                  refine lv_bipush (v := 19) hx hb dX8_instruction_112 (by decide) ?_
                  refine lv_icmp_eq (tgt := 124) hx hb dX8_instruction_114 (by decide) (fun c19 => ?_) (fun c19 => ?_)
                  · have h := itT c19 h
                    exact J124 x3 v11 _ _ _ h hw (lv_sub hl [3, 6, 2] rfl)
                  · have h := itF c19 h
                    refine lv_iload hx hb dX8_instruction_117 (lv_at hl 1 rfl) ?_
                    refine lv_bipush (v := 20) hx hb dX8_instruction_119 (by decide) ?_
                    refine lv_icmp_ne (tgt := 150) hx hb dX8_instruction_121 (by decide) (fun c20 => ?_) (fun c20 => ?_)
                    · have h := itF c20 h
                      refine lv_iload hx hb dX8_instruction_150 (lv_at hl 1 rfl) ?_
                      refine lv_bipush (v := 21) hx hb dX8_instruction_152 (by decide) ?_
                      refine lv_icmp_lt (tgt := 182) hx hb dX8_instruction_154 (by decide) (fun c21 => ?_) (fun c21 => ?_)
                      · have h := itT c21 h
                        exact J182 x3 v11 r15 _ _ _ h hw (lv_sub hl [3, 6, 2, 0] rfl)
                      · have h := itF c21 h
                        refine lv_iload hx hb dX8_instruction_157 (lv_at hl 1 rfl) ?_
                        refine lv_bipush (v := 25) hx hb dX8_instruction_159 (by decide) ?_
                        refine lv_icmp_gt (tgt := 182) hx hb dX8_instruction_161 (by decide) (fun c22 => ?_) (fun c22 => ?_)
                        · have h := itT c22 h
                          exact J182 x3 v11 r15 _ _ _ h hw (lv_sub hl [3, 6, 2, 0] rfl)
                        · have h := itF c22 h
                          refine lv_iload_n hx hb dX8_instruction_164 rfl (lv_at hl 6 rfl) ?_
                          refine lv_iconst (v := 1) hx hb dX8_instruction_165 (by decide) ?_
                          refine lv_icmp_ne (tgt := 180) hx hb dX8_instruction_166 (by decide) (fun c23 => ?_) (fun c23 => ?_)
                          · have h := itF c23 h
                            refine lv_iconst (v := 0) hx hb dX8_instruction_180 (by decide) ?_
                            exact r_iretP hQ h hw dX8_instruction_181
                          · have h := itT c23 h
                            refine lv_aload_n hx hb dX8_instruction_169 rfl (lv_at hl 3 rfl) ?_
                            refine lv_iload hx hb dX8_instruction_170 (lv_at hl 2 rfl) ?_
                            refine lv_iconst (v := 1) hx hb dX8_instruction_172 (by decide) ?_
                            refine lv_iadd hx hb dX8_instruction_173 ?_
                            obtain ⟨r25, h24, h⟩ := b1E h
                            refine r_callV (rest := []) C hw (c_X8_two l D cI cZ z base a (v11 + 1) u0 r25 h24) (cwV 1 C.1.2.2.2.2 gX8_instruction_X8_two rfl rfl rfl (by decide +kernel) ⟨Nat.le_of_ble_eq_true rfl, Nat.le_of_ble_eq_true rfl⟩) (va_recv C.2.1 hw.1 (ci := 7) (q0 := 0) rfl (MWa_0 cI cZ a u0)) rfl hl.1 rfl (Nat.le_of_ble_eq_true rfl) dX8_instruction_174 ⟨Nat.zero_le _, Nat.zero_le _⟩ (fun H locs hw => ?_)
                            refine lv_goto (tgt := 181) hx hb dX8_instruction_177 (by decide) ?_
                            exact r_iretP hQ h hw dX8_instruction_181
                    · have h := itT c20 h
                      exact J124 x3 v11 _ _ _ h hw (lv_sub hl [3, 6, 2] rfl)
                · have h := itT c18 h
                  refine lv_iload_n hx hb dX8_instruction_80 rfl (lv_at hl 6 rfl) ?_
                  refine lv_iconst (v := 1) hx hb dX8_instruction_81 (by decide) ?_
                  refine lv_icmp_ne (tgt := 108) hx hb dX8_instruction_82 (by decide) (fun c26 => ?_) (fun c26 => ?_)
                  · have h := itF c26 h
                    refine lv_iconst (v := 0) hx hb dX8_instruction_108 (by decide) ?_
                    exact r_iretP hQ h hw dX8_instruction_109
                  · have h := itT c26 h
                    refine lv_aload_n hx hb dX8_instruction_85 rfl (lv_at hl 3 rfl) ?_
                    refine lv_iload hx hb dX8_instruction_86 (lv_at hl 2 rfl) ?_
                    refine lv_iconst (v := 1) hx hb dX8_instruction_88 (by decide) ?_
                    refine lv_iadd hx hb dX8_instruction_89 ?_
                    obtain ⟨r28, h27, h⟩ := b1E h
                    refine r_callV (rest := []) C hw (c_X8_two l D cI cZ z base a (v11 + 1) u0 r28 h27) (cwV 1 C.1.2.2.2.2 gX8_instruction_X8_two rfl rfl rfl (by decide +kernel) ⟨Nat.le_of_ble_eq_true rfl, Nat.le_of_ble_eq_true rfl⟩) (va_recv C.2.1 hw.1 (ci := 7) (q0 := 0) rfl (MWa_0 cI cZ a u0)) rfl hl.1 rfl (Nat.le_of_ble_eq_true rfl) dX8_instruction_90 ⟨Nat.zero_le _, Nat.zero_le _⟩ (fun H locs hw => ?_)
                    refine lv_bipush (v := 16) hx hb dX8_instruction_93 (by decide) ?_
                    refine lv_ishl hx hb dX8_instruction_95 ?_
                    refine lv_aload_n hx hb dX8_instruction_96 rfl (lv_at hl 3 rfl) ?_
                    refine lv_iload hx hb dX8_instruction_97 (lv_at hl 2 rfl) ?_
                    refine lv_iconst (v := 3) hx hb dX8_instruction_99 (by decide) ?_
                    refine lv_iadd hx hb dX8_instruction_100 ?_
                    obtain ⟨r30, h29, h⟩ := b1E h
                    refine r_callV (rest := [.int (r28 <<< (16 &&& 31))]) C hw (c_X8_two l D cI cZ z base a (v11 + 3) u0 r30 h29) (cwV 1 C.1.2.2.2.2 gX8_instruction_X8_two rfl rfl rfl (by decide +kernel) ⟨Nat.le_of_ble_eq_true rfl, Nat.le_of_ble_eq_true rfl⟩) (va_recv C.2.1 hw.1 (ci := 7) (q0 := 0) rfl (MWa_0 cI cZ a u0)) rfl hl.1 rfl (Nat.le_of_ble_eq_true rfl) dX8_instruction_101 ⟨Nat.zero_le _, Nat.zero_le _⟩ (fun H locs hw => ?_)
                    refine lv_ior hx hb dX8_instruction_104 ?_
                    refine lv_goto (tgt := 109) hx hb dX8_instruction_105 (by decide) ?_
                    exact r_iretP hQ h hw dX8_instruction_109
              · have h := itT c17 h
                refine lv_iload_n hx hb dX8_instruction_70 rfl (lv_at hl 5 rfl) ?_
                refine lv_iload hx hb dX8_instruction_71 (lv_at hl 0 rfl) ?_
                refine lv_iadd hx hb dX8_instruction_73 ?_
                exact r_iretP hQ h hw dX8_instruction_74
            · have h := itT c16 h
              refine lv_iload hx hb dX8_instruction_62 (lv_at hl 1 rfl) ?_
              exact r_iretP hQ h hw dX8_instruction_64
          · have h := itF c9 h
            refine lv_iconst (v := (-1)) hx hb dX8_instruction_30 (by decide) ?_
            exact r_iretP hQ h hw dX8_instruction_31
abbrev rmX8_thrown : Room := { frames := 0, cells := 0, slots := 0, locals := 0 }
theorem hiX8_thrown_X8 : ∀ w ∈ wsX80, w ∈ wsX8_thrown := by decide +kernel
set_option maxHeartbeats 4000000 in
set_option maxRecDepth 100000 in
theorem c_X8_thrown (l : Launch) (D : va_G) (cI cZ : ClassId) (z : Nat → Nat) (base : Nat) (a : Nat → Nat) (x1 : Int32) (u0 : St) (ro : Int32) (h : F_X8_thrown x1 u0 = some ro) : MI l D [(cI, .int), (cZ, .boolean)] z base yX8_thrown wsX8_thrown rmX8_thrown [.ref (a 0), .int x1] (MW cI cZ a u0) ro (MW cI cZ a u0) := by
  refine MI.ofI (own := RX8) (cc := cX8_thrown) (maxL := 2) (by decide) rfl rfl (Nat.le_of_ble_eq_true rfl) ?_
  intro p e s m args below meth c A Q ls C hl hw hQ
  have hx := C.1.1
  have hb := C.1.2.1
  have hl : lv_has ls 2 [(0, .ref (a 0)), (1, .int x1)] := hl
  rw [F_X8_thrown] at h
  refine lv_aload_n hx hb dX8_thrown_0 rfl (lv_at hl 0 rfl) ?_
  refine r_get C hw hiX8_thrown_X8 0 (MWa_0 cI cZ a u0) rfl 7 (by decide) (by decide +kernel) rfl dX8_thrown_1 ?_
  refine lv_if_eq (tgt := 25) hx hb dX8_thrown_4 (by decide) (fun c1 => ?_) (fun c1 => ?_)
  · have h := itT c1 h
    refine lv_iconst (v := (-1)) hx hb dX8_thrown_25 (by decide) ?_
    exact r_iretP hQ h hw dX8_thrown_26
  · have h := itF c1 h
    refine lv_iload_n hx hb dX8_thrown_7 rfl (lv_at hl 1 rfl) ?_
    refine lv_if_lt (tgt := 25) hx hb dX8_thrown_8 (by decide) (fun c2 => ?_) (fun c2 => ?_)
    · have h := itT c2 h
      refine lv_iconst (v := (-1)) hx hb dX8_thrown_25 (by decide) ?_
      exact r_iretP hQ h hw dX8_thrown_26
    · have h := itF c2 h
      refine lv_iload_n hx hb dX8_thrown_11 rfl (lv_at hl 1 rfl) ?_
      refine lv_iconst (v := 5) hx hb dX8_thrown_12 (by decide) ?_
      refine lv_icmp_ge (tgt := 25) hx hb dX8_thrown_13 (by decide) (fun c3 => ?_) (fun c3 => ?_)
      · have h := itT c3 h
        refine lv_iconst (v := (-1)) hx hb dX8_thrown_25 (by decide) ?_
        exact r_iretP hQ h hw dX8_thrown_26
      · have h := itF c3 h
        refine lv_aload_n hx hb dX8_thrown_16 rfl (lv_at hl 0 rfl) ?_
        refine r_get C hw hiX8_thrown_X8 0 (MWa_0 cI cZ a u0) rfl 14 (by decide) (by decide +kernel) rfl dX8_thrown_17 ?_
        refine lv_iload_n hx hb dX8_thrown_20 rfl (lv_at hl 1 rfl) ?_
        obtain ⟨g4, h⟩ := ixE h
        refine r_ald C hw 9 0 (MWa_9 cI cZ a u0) rfl g4 dX8_thrown_21 ?_
        refine lv_goto (tgt := 26) hx hb dX8_thrown_22 (by decide) ?_
        exact r_iretP hQ h hw dX8_thrown_26
