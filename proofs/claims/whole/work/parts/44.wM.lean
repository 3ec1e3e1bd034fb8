abbrev rmX8_readAll : Room := { frames := 5, cells := 0, slots := 0, locals := 116 }
theorem hiX8_readAll_X8 : ∀ w ∈ wsX80, w ∈ wsX8_readAll := by decide +kernel
set_option maxHeartbeats 4000000 in
set_option maxRecDepth 100000 in
theorem c_X8_readAll (l : Launch) (D : va_G) (cI cZ : ClassId) (z : Nat → Nat) (base : Nat) (a : Nat → Nat) (u0 : St) (ro : Int32) (uo : St) (h : F_X8_readAll u0 = some (ro, uo)) : MI l D [(cI, .int), (cZ, .boolean)] z base yX8_readAll wsX8_readAll rmX8_readAll [.ref (a 0)] (MW cI cZ a u0) ro (MW cI cZ a uo) := by
  refine MI.ofZ (own := RX8) (cc := cX8_readAll) (maxL := 2) (by decide) rfl rfl (Nat.le_of_ble_eq_true rfl) ?_
  intro p e s m args below meth c A Q ls C hl hw hQ
  have hx := C.1.1
  have hb := C.1.2.1
  have J156 : ∀ (u0 : St) (H : Heap) (locs : List Loc) (ls : Array Slot), F_X8_readAll_156 u0 = some (ro, uo) → Wd D A s.heap H locs (MW cI cZ a u0) → lv_has ls 2 [(0, .ref (a 0))] → W p l e rmX8_readAll s m args below meth c H locs 0 0 Q (F0 m 156 ls []) := by
    intro u0 H locs ls h hw hl
    rw [F_X8_readAll_156] at h
    refine lv_aload_n hx hb dX8_readAll_156 rfl (lv_at hl 0 rfl) ?_
    refine lv_aload_n hx hb dX8_readAll_157 rfl (lv_at hl 0 rfl) ?_
    refine r_get C hw hiX8_readAll_X8 0 (MWa_0 cI cZ a u0) rfl 5 (by decide) (by decide +kernel) rfl dX8_readAll_158 ?_
    obtain ⟨r2, u3, h1, h⟩ := b2E h
    refine r_callV (rest := []) C hw (c_X8_bad l D cI cZ z base a (u0 0 5) u0 r2 u3 h1) (cwV 1 C.1.2.2.2.2 gX8_readAll_X8_bad rfl rfl rfl (by decide +kernel) ⟨Nat.le_of_ble_eq_true rfl, Nat.le_of_ble_eq_true rfl⟩) (va_recv C.2.1 hw.1 (ci := 7) (q0 := 0) rfl (MWa_0 cI cZ a u0)) rfl hl.1 rfl (Nat.le_of_ble_eq_true rfl) dX8_readAll_161 ⟨Nat.zero_le _, Nat.zero_le _⟩ (fun H locs hw => ?_)
    obtain ⟨g4, h⟩ := boE h
    exact r_zret (f := MW cI cZ a) hQ g4 h hw dX8_readAll_164
  have J202 : ∀ (u0 : St) (H : Heap) (locs : List Loc) (ls : Array Slot), F_X8_readAll_202 u0 = some (ro, uo) → Wd D A s.heap H locs (MW cI cZ a u0) → lv_has ls 2 [] → W p l e rmX8_readAll s m args below meth c H locs 0 0 Q (F0 m 202 ls []) := by
    intro u0 H locs ls h hw hl
    rw [F_X8_readAll_202] at h
    refine lv_iconst (v := 1) hx hb dX8_readAll_202 (by decide) ?_
    refine lv_goto (tgt := 207) hx hb dX8_readAll_203 (by decide) ?_
    exact r_zret (f := MW cI cZ a) hQ (by decide) h hw dX8_readAll_207
  have J100 : ∀ n100 : Nat, ∀ (x1 : Int32) (u0 : St) (H : Heap) (locs : List Loc) (ls : Array Slot), F_X8_readAll_100 n100 x1 u0 = some (ro, uo) → Wd D A s.heap H locs (MW cI cZ a u0) → lv_has ls 2 [(0, .ref (a 0)), (1, .int x1)] → W p l e rmX8_readAll s m args below meth c H locs 0 0 Q (F0 m 100 ls []) := by
    intro n100
    induction n100 with
    | zero => intro x1 u0 H locs ls h; rw [F_X8_readAll_100] at h; cases h
    | succ n100 ih100 =>
      intro x1 u0 H locs ls h hw hl
      rw [F_X8_readAll_100] at h
      refine lv_iload_n hx hb dX8_readAll_100 rfl (lv_at hl 1 rfl) ?_
      refine lv_aload_n hx hb dX8_readAll_101 rfl (lv_at hl 0 rfl) ?_
      refine r_get C hw hiX8_readAll_X8 0 (MWa_0 cI cZ a u0) rfl 15 (by decide) (by decide +kernel) rfl dX8_readAll_102 ?_
      refine lv_icmp_ge (tgt := 124) hx hb dX8_readAll_105 (by decide) (fun c1 => ?_) (fun c1 => ?_)
      · have h := itT c1 h
        refine lv_aload_n hx hb dX8_readAll_124 rfl (lv_at hl 0 rfl) ?_
        obtain ⟨r3, h2, h⟩ := b1E h
        refine r_callV (rest := []) C hw (c_X8_here l D cI cZ z base a u0 r3 h2) (cwV 0 C.1.2.2.2.2 gX8_readAll_X8_here rfl rfl rfl (by decide +kernel) ⟨Nat.le_of_ble_eq_true rfl, Nat.le_of_ble_eq_true rfl⟩) (va_recv C.2.1 hw.1 (ci := 7) (q0 := 0) rfl (MWa_0 cI cZ a u0)) rfl hl.1 rfl (Nat.le_of_ble_eq_true rfl) dX8_readAll_125 ⟨Nat.zero_le _, Nat.zero_le _⟩ (fun H locs hw => ?_)
        refine lv_istore_n (lv' := [(1, .int r3), (0, .ref (a 0))]) hx hb dX8_readAll_128 rfl hl (by decide) rfl (fun ls hl => ?_)
        refine lv_iload_n hx hb dX8_readAll_129 rfl (lv_at hl 0 rfl) ?_
        refine lv_aload_n hx hb dX8_readAll_130 rfl (lv_at hl 1 rfl) ?_
        refine r_get C hw hiX8_readAll_X8 0 (MWa_0 cI cZ a u0) rfl 15 (by decide) (by decide +kernel) rfl dX8_readAll_131 ?_
        refine lv_icmp_ge (tgt := 156) hx hb dX8_readAll_134 (by decide) (fun c4 => ?_) (fun c4 => ?_)
        · have h := itT c4 h
          exact J156 u0 _ _ _ h hw (lv_sub hl [1] rfl)
        · have h := itF c4 h
          refine lv_aload_n hx hb dX8_readAll_137 rfl (lv_at hl 1 rfl) ?_
          refine r_get C hw hiX8_readAll_X8 0 (MWa_0 cI cZ a u0) rfl 16 (by decide) (by decide +kernel) rfl dX8_readAll_138 ?_
          refine lv_iload_n hx hb dX8_readAll_141 rfl (lv_at hl 0 rfl) ?_
          obtain ⟨g5, h⟩ := ixE h
          refine r_ald C hw 10 0 (MWa_10 cI cZ a u0) rfl g5 dX8_readAll_142 ?_
          refine lv_iconst (v := (-1)) hx hb dX8_readAll_143 (by decide) ?_
          refine lv_icmp_ne (tgt := 156) hx hb dX8_readAll_144 (by decide) (fun c6 => ?_) (fun c6 => ?_)
          · have h := itF c6 h
            exact J156 u0 _ _ _ h hw (lv_sub hl [1] rfl)
          · have h := itT c6 h
            refine lv_aload_n hx hb dX8_readAll_147 rfl (lv_at hl 1 rfl) ?_
            refine r_get C hw hiX8_readAll_X8 0 (MWa_0 cI cZ a u0) rfl 17 (by decide) (by decide +kernel) rfl dX8_readAll_148 ?_
            refine lv_iload_n hx hb dX8_readAll_151 rfl (lv_at hl 0 rfl) ?_
            obtain ⟨g7, h⟩ := ixE h
            refine r_ald C hw 11 0 (MWa_11 cI cZ a u0) rfl g7 dX8_readAll_152 ?_
            refine lv_if_le (tgt := 165) hx hb dX8_readAll_153 (by decide) (fun c8 => ?_) (fun c8 => ?_)
            · have h := itT c8 h
              refine lv_aload_n hx hb dX8_readAll_165 rfl (lv_at hl 1 rfl) ?_
              refine lv_iload_n hx hb dX8_readAll_166 rfl (lv_at hl 0 rfl) ?_
              obtain ⟨u9, eu9⟩ : ∃ y : St, y = st u0 0 27 r3 := ⟨_, rfl⟩
              have h := nmE eu9 h
              refine r_put (ws' := (MW cI cZ a u9)) C hw hiX8_readAll_X8 tyX8 tyX8_ok nmX8 0 (MWa_0 cI cZ a u0) rfl 27 (by decide) (by decide +kernel) rfl (ty := .int) (by decide +kernel) rfl rfl (Nat.le_of_ble_eq_true rfl) (by rw [eu9]; exact MWs_0_27 cI cZ a u0 r3) dX8_readAll_167 (fun H locs hw => ?_)
              refine lv_aload_n hx hb dX8_readAll_170 rfl (lv_at hl 1 rfl) ?_
              refine lv_dup hx hb dX8_readAll_171 rfl ?_
              refine r_get C hw hiX8_readAll_X8 0 (MWa_0 cI cZ a u9) rfl 5 (by decide) (by decide +kernel) rfl dX8_readAll_172 ?_
              refine lv_iconst (v := 1) hx hb dX8_readAll_175 (by decide) ?_
              refine lv_iadd hx hb dX8_readAll_176 ?_
              obtain ⟨u10, eu10⟩ : ∃ y : St, y = st u9 0 5 ((u9 0 5) + 1) := ⟨_, rfl⟩
              have h := nmE eu10 h
              refine r_put (ws' := (MW cI cZ a u10)) C hw hiX8_readAll_X8 tyX8 tyX8_ok nmX8 0 (MWa_0 cI cZ a u9) rfl 5 (by decide) (by decide +kernel) rfl (ty := .int) (by decide +kernel) rfl rfl (Nat.le_of_ble_eq_true rfl) (by rw [eu10]; exact MWs_0_5 cI cZ a u9 ((u9 0 5) + 1)) dX8_readAll_177 (fun H locs hw => ?_)
              refine lv_aload_n hx hb dX8_readAll_180 rfl (lv_at hl 1 rfl) ?_
              refine r_get C hw hiX8_readAll_X8 0 (MWa_0 cI cZ a u10) rfl 5 (by decide) (by decide +kernel) rfl dX8_readAll_181 ?_
              refine lv_aload_n hx hb dX8_readAll_184 rfl (lv_at hl 1 rfl) ?_
              refine r_get C hw hiX8_readAll_X8 0 (MWa_0 cI cZ a u10) rfl 4 (by decide) (by decide +kernel) rfl dX8_readAll_185 ?_
              refine lv_icmp_eq (tgt := 202) hx hb dX8_readAll_188 (by decide) (fun c11 => ?_) (fun c11 => ?_)
              · have h := itT c11 h
                exact J202 u10 _ _ _ h hw (lv_sub hl [] rfl)
              · have h := itF c11 h
                refine lv_aload_n hx hb dX8_readAll_191 rfl (lv_at hl 1 rfl) ?_
                refine lv_aload_n hx hb dX8_readAll_192 rfl (lv_at hl 1 rfl) ?_
                refine r_get C hw hiX8_readAll_X8 0 (MWa_0 cI cZ a u10) rfl 5 (by decide) (by decide +kernel) rfl dX8_readAll_193 ?_
                obtain ⟨r13, u14, h12, h⟩ := b2E h
                refine r_callV (rest := []) C hw (c_X8_bad l D cI cZ z base a (u10 0 5) u10 r13 u14 h12) (cwV 1 C.1.2.2.2.2 gX8_readAll_X8_bad rfl rfl rfl (by decide +kernel) ⟨Nat.le_of_ble_eq_true rfl, Nat.le_of_ble_eq_true rfl⟩) (va_recv C.2.1 hw.1 (ci := 7) (q0 := 0) rfl (MWa_0 cI cZ a u10)) rfl hl.1 rfl (Nat.le_of_ble_eq_true rfl) dX8_readAll_196 ⟨Nat.zero_le _, Nat.zero_le _⟩ (fun H locs hw => ?_)
                refine lv_if_eq (tgt := 206) hx hb dX8_readAll_199 (by decide) (fun c15 => ?_) (fun c15 => ?_)
                · have h := itT c15 h
                  refine lv_iconst (v := 0) hx hb dX8_readAll_206 (by decide) ?_
                  exact r_zret (f := MW cI cZ a) hQ (by decide) h hw dX8_readAll_207
                · have h := itF c15 h
                  exact J202 u14 _ _ _ h hw (lv_sub hl [] rfl)
            · have h := itF c8 h
              exact J156 u0 _ _ _ h hw (lv_sub hl [1] rfl)
      · have h := itF c1 h
        refine lv_aload_n hx hb dX8_readAll_108 rfl (lv_at hl 0 rfl) ?_
        refine lv_iload_n hx hb dX8_readAll_109 rfl (lv_at hl 1 rfl) ?_
        obtain ⟨r17, u18, h16, h⟩ := b2E h
        refine r_callV (rest := []) C hw (c_X8_readMethod l D cI cZ z base a x1 u0 r17 u18 h16) (cwV 1 C.1.2.2.2.2 gX8_readAll_X8_readMethod rfl rfl rfl (by decide +kernel) ⟨Nat.le_of_ble_eq_true rfl, Nat.le_of_ble_eq_true rfl⟩) (va_recv C.2.1 hw.1 (ci := 7) (q0 := 0) rfl (MWa_0 cI cZ a u0)) rfl hl.1 rfl (Nat.le_of_ble_eq_true rfl) dX8_readAll_110 ⟨Nat.zero_le _, Nat.zero_le _⟩ (fun H locs hw => ?_)
        refine lv_if_ne (tgt := 118) hx hb dX8_readAll_113 (by decide) (fun c19 => ?_) (fun c19 => ?_)
        · have h := itF c19 h
          obtain ⟨v20, ev20⟩ : ∃ y : Int32, y = x1 + 1 := ⟨_, rfl⟩
          have h := nmE ev20 h
          refine lv_iinc (v := v20) (lv' := [(1, .int v20), (0, .ref (a 0))]) hx hb dX8_readAll_118 hl (k := 1) rfl (by rw [ev20]; rfl) (by decide) rfl (fun ls hl => ?_)
          refine lv_goto (tgt := 100) hx hb dX8_readAll_121 (by decide) ?_
          exact ih100 v20 u18 _ _ _ h hw (lv_sub hl [1, 0] rfl)
        · have h := itT c19 h
          refine lv_iconst (v := 0) hx hb dX8_readAll_116 (by decide) ?_
          exact r_zret (f := MW cI cZ a) hQ (by decide) h hw dX8_readAll_117
  have J48 : ∀ n48 : Nat, ∀ (x1 : Int32) (u0 : St) (H : Heap) (locs : List Loc) (ls : Array Slot), F_X8_readAll_48 n48 x1 u0 = some (ro, uo) → Wd D A s.heap H locs (MW cI cZ a u0) → lv_has ls 2 [(0, .ref (a 0)), (1, .int x1)] → W p l e rmX8_readAll s m args below meth c H locs 0 0 Q (F0 m 48 ls []) := by
    intro n48
    induction n48 with
    | zero => intro x1 u0 H locs ls h; rw [F_X8_readAll_48] at h; cases h
    | succ n48 ih48 =>
      intro x1 u0 H locs ls h hw hl
      rw [F_X8_readAll_48] at h
      refine lv_iload_n hx hb dX8_readAll_48 rfl (lv_at hl 1 rfl) ?_
      refine lv_iconst (v := 5) hx hb dX8_readAll_49 (by decide) ?_
      refine lv_icmp_ge (tgt := 78) hx hb dX8_readAll_50 (by decide) (fun c1 => ?_) (fun c1 => ?_)
      · have h := itT c1 h
        refine lv_aload_n hx hb dX8_readAll_78 rfl (lv_at hl 0 rfl) ?_
        refine lv_iconst (v := 1) hx hb dX8_readAll_79 (by decide) ?_
        refine lv_bipush (v := 64) hx hb dX8_readAll_80 (by decide) ?_
        obtain ⟨r3, u4, h2, h⟩ := b2E h
        refine r_callV (rest := []) C hw (c_X8_over l D cI cZ z base a 1 64 u0 r3 u4 h2) (cwV 2 C.1.2.2.2.2 gX8_readAll_X8_over rfl rfl rfl (by decide +kernel) ⟨Nat.le_of_ble_eq_true rfl, Nat.le_of_ble_eq_true rfl⟩) (va_recv C.2.1 hw.1 (ci := 7) (q0 := 0) rfl (MWa_0 cI cZ a u0)) rfl hl.1 rfl (Nat.le_of_ble_eq_true rfl) dX8_readAll_82 ⟨Nat.zero_le _, Nat.zero_le _⟩ (fun H locs hw => ?_)
        refine lv_if_ne (tgt := 90) hx hb dX8_readAll_85 (by decide) (fun c5 => ?_) (fun c5 => ?_)
        · have h := itF c5 h
          refine lv_aload_n hx hb dX8_readAll_90 rfl (lv_at hl 0 rfl) ?_
          refine lv_aload_n hx hb dX8_readAll_91 rfl (lv_at hl 0 rfl) ?_
          obtain ⟨r7, h6, h⟩ := b1E h
          refine r_callV (rest := [.ref (a 0)]) C hw (c_X8_last l D cI cZ z base a u4 r7 h6) (cwV 0 C.1.2.2.2.2 gX8_readAll_X8_last rfl rfl rfl (by decide +kernel) ⟨Nat.le_of_ble_eq_true rfl, Nat.le_of_ble_eq_true rfl⟩) (va_recv C.2.1 hw.1 (ci := 7) (q0 := 0) rfl (MWa_0 cI cZ a u4)) rfl hl.1 rfl (Nat.le_of_ble_eq_true rfl) dX8_readAll_92 ⟨Nat.zero_le _, Nat.zero_le _⟩ (fun H locs hw => ?_)
          obtain ⟨u8, eu8⟩ : ∃ y : St, y = st u4 0 15 r7 := ⟨_, rfl⟩
          have h := nmE eu8 h
          refine r_put (ws' := (MW cI cZ a u8)) C hw hiX8_readAll_X8 tyX8 tyX8_ok nmX8 0 (MWa_0 cI cZ a u4) rfl 15 (by decide) (by decide +kernel) rfl (ty := .int) (by decide +kernel) rfl rfl (Nat.le_of_ble_eq_true rfl) (by rw [eu8]; exact MWs_0_15 cI cZ a u4 r7) dX8_readAll_95 (fun H locs hw => ?_)
          refine lv_iconst (v := 0) hx hb dX8_readAll_98 (by decide) ?_
          refine lv_istore_n (lv' := [(1, .int 0), (0, .ref (a 0))]) hx hb dX8_readAll_99 rfl hl (by decide) rfl (fun ls hl => ?_)
          exact J100 fu 0 u8 _ _ _ h hw (lv_sub hl [1, 0] rfl)
        · have h := itT c5 h
          refine lv_iconst (v := 0) hx hb dX8_readAll_88 (by decide) ?_
          exact r_zret (f := MW cI cZ a) hQ (by decide) h hw dX8_readAll_89
      · have h := itF c1 h
        refine lv_aload_n hx hb dX8_readAll_53 rfl (lv_at hl 0 rfl) ?_
        obtain ⟨r10, u11, h9, h⟩ := b2E h
        refine r_callV (rest := []) C hw (c_X8_overClass l D cI cZ z base a u0 r10 u11 h9) (cwV 0 C.1.2.2.2.2 gX8_readAll_X8_overClass rfl rfl rfl (by decide +kernel) ⟨Nat.le_of_ble_eq_true rfl, Nat.le_of_ble_eq_true rfl⟩) (va_recv C.2.1 hw.1 (ci := 7) (q0 := 0) rfl (MWa_0 cI cZ a u0)) rfl hl.1 rfl (Nat.le_of_ble_eq_true rfl) dX8_readAll_54 ⟨Nat.zero_le _, Nat.zero_le _⟩ (fun H locs hw => ?_)
        refine lv_if_ne (tgt := 62) hx hb dX8_readAll_57 (by decide) (fun c12 => ?_) (fun c12 => ?_)
        · have h := itF c12 h
          refine lv_aload_n hx hb dX8_readAll_62 rfl (lv_at hl 0 rfl) ?_
          refine r_get C hw hiX8_readAll_X8 0 (MWa_0 cI cZ a u11) rfl 14 (by decide) (by decide +kernel) rfl dX8_readAll_63 ?_
          refine lv_iload_n hx hb dX8_readAll_66 rfl (lv_at hl 1 rfl) ?_
          refine lv_aload_n hx hb dX8_readAll_67 rfl (lv_at hl 0 rfl) ?_
          obtain ⟨r14, h13, h⟩ := b1E h
          refine r_callV (rest := [.int x1, .ref (a 9)]) C hw (c_X8_last l D cI cZ z base a u11 r14 h13) (cwV 0 C.1.2.2.2.2 gX8_readAll_X8_last rfl rfl rfl (by decide +kernel) ⟨Nat.le_of_ble_eq_true rfl, Nat.le_of_ble_eq_true rfl⟩) (va_recv C.2.1 hw.1 (ci := 7) (q0 := 0) rfl (MWa_0 cI cZ a u11)) rfl hl.1 rfl (Nat.le_of_ble_eq_true rfl) dX8_readAll_68 ⟨Nat.zero_le _, Nat.zero_le _⟩ (fun H locs hw => ?_)
          obtain ⟨g15, h⟩ := ixE h
          obtain ⟨u16, eu16⟩ : ∃ y : St, y = st u11 9 (x1).toNatClampNeg r14 := ⟨_, rfl⟩
          have h := nmE eu16 h
          refine r_ast (ws' := (MW cI cZ a u16)) C hw 9 0 (MWa_9 cI cZ a u11) rfl g15 (by rw [eu16]; exact MWs_9 cI cZ a u11 _ r14) dX8_readAll_71 (fun H locs hw => ?_)
          obtain ⟨v17, ev17⟩ : ∃ y : Int32, y = x1 + 1 := ⟨_, rfl⟩
          have h := nmE ev17 h
          refine lv_iinc (v := v17) (lv' := [(1, .int v17), (0, .ref (a 0))]) hx hb dX8_readAll_72 hl (k := 1) rfl (by rw [ev17]; rfl) (by decide) rfl (fun ls hl => ?_)
          refine lv_goto (tgt := 48) hx hb dX8_readAll_75 (by decide) ?_
          exact ih48 v17 u16 _ _ _ h hw (lv_sub hl [1, 0] rfl)
        · have h := itT c12 h
          refine lv_iconst (v := 0) hx hb dX8_readAll_60 (by decide) ?_
          exact r_zret (f := MW cI cZ a) hQ (by decide) h hw dX8_readAll_61
  have J22 : ∀ n22 : Nat, ∀ (x1 : Int32) (u0 : St) (H : Heap) (locs : List Loc) (ls : Array Slot), F_X8_readAll_22 n22 x1 u0 = some (ro, uo) → Wd D A s.heap H locs (MW cI cZ a u0) → lv_has ls 2 [(0, .ref (a 0)), (1, .int x1)] → W p l e rmX8_readAll s m args below meth c H locs 0 0 Q (F0 m 22 ls []) := by
    intro n22
    induction n22 with
    | zero => intro x1 u0 H locs ls h; rw [F_X8_readAll_22] at h; cases h
    | succ n22 ih22 =>
      intro x1 u0 H locs ls h hw hl
      rw [F_X8_readAll_22] at h
      refine lv_iload_n hx hb dX8_readAll_22 rfl (lv_at hl 1 rfl) ?_
      refine lv_aload_n hx hb dX8_readAll_23 rfl (lv_at hl 0 rfl) ?_
      refine r_get C hw hiX8_readAll_X8 0 (MWa_0 cI cZ a u0) rfl 8 (by decide) (by decide +kernel) rfl dX8_readAll_24 ?_
      refine lv_icmp_ge (tgt := 46) hx hb dX8_readAll_27 (by decide) (fun c1 => ?_) (fun c1 => ?_)
      · have h := itT c1 h
        refine lv_iconst (v := 0) hx hb dX8_readAll_46 (by decide) ?_
        refine lv_istore_n (lv' := [(1, .int 0), (0, .ref (a 0))]) hx hb dX8_readAll_47 rfl hl (by decide) rfl (fun ls hl => ?_)
        exact J48 fu 0 u0 _ _ _ h hw (lv_sub hl [1, 0] rfl)
      · have h := itF c1 h
        refine lv_aload_n hx hb dX8_readAll_30 rfl (lv_at hl 0 rfl) ?_
        refine lv_iload_n hx hb dX8_readAll_31 rfl (lv_at hl 1 rfl) ?_
        obtain ⟨r3, u4, h2, h⟩ := b2E h
        refine r_callV (rest := []) C hw (c_X8_readClass l D cI cZ z base a x1 u0 r3 u4 h2) (cwV 1 C.1.2.2.2.2 gX8_readAll_X8_readClass rfl rfl rfl (by decide +kernel) ⟨Nat.le_of_ble_eq_true rfl, Nat.le_of_ble_eq_true rfl⟩) (va_recv C.2.1 hw.1 (ci := 7) (q0 := 0) rfl (MWa_0 cI cZ a u0)) rfl hl.1 rfl (Nat.le_of_ble_eq_true rfl) dX8_readAll_32 ⟨Nat.zero_le _, Nat.zero_le _⟩ (fun H locs hw => ?_)
        refine lv_if_ne (tgt := 40) hx hb dX8_readAll_35 (by decide) (fun c5 => ?_) (fun c5 => ?_)
        · have h := itF c5 h
          obtain ⟨v6, ev6⟩ : ∃ y : Int32, y = x1 + 1 := ⟨_, rfl⟩
          have h := nmE ev6 h
          refine lv_iinc (v := v6) (lv' := [(1, .int v6), (0, .ref (a 0))]) hx hb dX8_readAll_40 hl (k := 1) rfl (by rw [ev6]; rfl) (by decide) rfl (fun ls hl => ?_)
          refine lv_goto (tgt := 22) hx hb dX8_readAll_43 (by decide) ?_
          exact ih22 v6 u4 _ _ _ h hw (lv_sub hl [1, 0] rfl)
        · have h := itT c5 h
          refine lv_iconst (v := 0) hx hb dX8_readAll_38 (by decide) ?_
          exact r_zret (f := MW cI cZ a) hQ (by decide) h hw dX8_readAll_39
  have hl : lv_has ls 2 [(0, .ref (a 0))] := hl
  rw [F_X8_readAll] at h
  refine lv_aload_n hx hb dX8_readAll_0 rfl (lv_at hl 0 rfl) ?_
  refine lv_iconst (v := 1) hx hb dX8_readAll_1 (by decide) ?_
  refine lv_bipush (v := 32) hx hb dX8_readAll_2 (by decide) ?_
  obtain ⟨r2, u3, h1, h⟩ := b2E h
  refine r_callV (rest := []) C hw (c_X8_over l D cI cZ z base a 1 32 u0 r2 u3 h1) (cwV 2 C.1.2.2.2.2 gX8_readAll_X8_over rfl rfl rfl (by decide +kernel) ⟨Nat.le_of_ble_eq_true rfl, Nat.le_of_ble_eq_true rfl⟩) (va_recv C.2.1 hw.1 (ci := 7) (q0 := 0) rfl (MWa_0 cI cZ a u0)) rfl hl.1 rfl (Nat.le_of_ble_eq_true rfl) dX8_readAll_4 ⟨Nat.zero_le _, Nat.zero_le _⟩ (fun H locs hw => ?_)
  refine lv_if_ne (tgt := 12) hx hb dX8_readAll_7 (by decide) (fun c4 => ?_) (fun c4 => ?_)
  · have h := itF c4 h
    refine lv_aload_n hx hb dX8_readAll_12 rfl (lv_at hl 0 rfl) ?_
    refine lv_aload_n hx hb dX8_readAll_13 rfl (lv_at hl 0 rfl) ?_
    obtain ⟨r6, h5, h⟩ := b1E h
    refine r_callV (rest := [.ref (a 0)]) C hw (c_X8_last l D cI cZ z base a u3 r6 h5) (cwV 0 C.1.2.2.2.2 gX8_readAll_X8_last rfl rfl rfl (by decide +kernel) ⟨Nat.le_of_ble_eq_true rfl, Nat.le_of_ble_eq_true rfl⟩) (va_recv C.2.1 hw.1 (ci := 7) (q0 := 0) rfl (MWa_0 cI cZ a u3)) rfl hl.1 rfl (Nat.le_of_ble_eq_true rfl) dX8_readAll_14 ⟨Nat.zero_le _, Nat.zero_le _⟩ (fun H locs hw => ?_)
    obtain ⟨u7, eu7⟩ : ∃ y : St, y = st u3 0 8 r6 := ⟨_, rfl⟩
    have h := nmE eu7 h
    refine r_put (ws' := (MW cI cZ a u7)) C hw hiX8_readAll_X8 tyX8 tyX8_ok nmX8 0 (MWa_0 cI cZ a u3) rfl 8 (by decide) (by decide +kernel) rfl (ty := .int) (by decide +kernel) rfl rfl (Nat.le_of_ble_eq_true rfl) (by rw [eu7]; exact MWs_0_8 cI cZ a u3 r6) dX8_readAll_17 (fun H locs hw => ?_)
    refine lv_iconst (v := 0) hx hb dX8_readAll_20 (by decide) ?_
    refine lv_istore_n (lv' := [(1, .int 0), (0, .ref (a 0))]) hx hb dX8_readAll_21 rfl hl (by decide) rfl (fun ls hl => ?_)
    exact J22 fu 0 u7 _ _ _ h hw (lv_sub hl [1, 0] rfl)
  · have h := itT c4 h
    refine lv_iconst (v := 0) hx hb dX8_readAll_10 (by decide) ?_
    exact r_zret (f := MW cI cZ a) hQ (by decide) h hw dX8_readAll_11
abbrev rmX8_note : Room := { frames := 0, cells := 0, slots := 0, locals := 0 }
theorem hiX8_note_X8 : ∀ w ∈ wsX80, w ∈ wsX8_note := by decide +kernel
set_option maxHeartbeats 4000000 in
set_option maxRecDepth 100000 in
theorem c_X8_note (l : Launch) (D : va_G) (cI cZ : ClassId) (z : Nat → Nat) (base : Nat) (a : Nat → Nat) (x1 : Int32) (x2 : Int32) (u0 : St) (uo : St) (h : F_X8_note x1 x2 u0 = some uo) : MV l D [(cI, .int), (cZ, .boolean)] z base yX8_note wsX8_note rmX8_note [.ref (a 0), .int x1, .int x2] (MW cI cZ a u0) (MW cI cZ a uo) := by
  refine MV.of (own := RX8) (cc := cX8_note) (maxL := 3) (by decide) rfl rfl (Nat.le_of_ble_eq_true rfl) ?_
  intro p e s m args below meth c A Q ls C hl hw hQ
  have hx := C.1.1
  have hb := C.1.2.1
  have J20 : ∀ (x1 : Int32) (u0 : St) (H : Heap) (locs : List Loc) (ls : Array Slot), F_X8_note_20 x1 u0 = some uo → Wd D A s.heap H locs (MW cI cZ a u0) → lv_has ls 3 [(1, .int x1)] → W p l e rmX8_note s m args below meth c H locs 0 0 Q (F0 m 20 ls [.ref (a 0)]) := by
    intro x1 u0 H locs ls h hw hl
    rw [F_X8_note_20] at h
    refine lv_iload_n hx hb dX8_note_20 rfl (lv_at hl 0 rfl) ?_
    refine lv_goto (tgt := 28) hx hb dX8_note_21 (by decide) ?_
    obtain ⟨u1, eu1⟩ : ∃ y : St, y = st u0 0 6 x1 := ⟨_, rfl⟩
    have h := nmE eu1 h
    refine r_put (ws' := (MW cI cZ a u1)) C hw hiX8_note_X8 tyX8 tyX8_ok nmX8 0 (MWa_0 cI cZ a u0) rfl 6 (by decide) (by decide +kernel) rfl (ty := .int) (by decide +kernel) rfl rfl (Nat.le_of_ble_eq_true rfl) (by rw [eu1]; exact MWs_0_6 cI cZ a u0 x1) dX8_note_28 (fun H locs hw => ?_)
    exact r_vret (f := MW cI cZ a) hQ h hw dX8_note_31
  have hl : lv_has ls 3 [(0, .ref (a 0)), (1, .int x1), (2, .int x2)] := hl
  rw [F_X8_note] at h
  refine lv_aload_n hx hb dX8_note_0 rfl (lv_at hl 0 rfl) ?_
  refine lv_iload_n hx hb dX8_note_1 rfl (lv_at hl 2 rfl) ?_
  refine lv_if_ne (tgt := 24) hx hb dX8_note_2 (by decide) (fun c1 => ?_) (fun c1 => ?_)
  · have h := itF c1 h
    refine lv_aload_n hx hb dX8_note_24 rfl (lv_at hl 0 rfl) ?_
    refine r_get C hw hiX8_note_X8 0 (MWa_0 cI cZ a u0) rfl 6 (by decide) (by decide +kernel) rfl dX8_note_25 ?_
    obtain ⟨u2, eu2⟩ : ∃ y : St, y = st u0 0 6 (u0 0 6) := ⟨_, rfl⟩
    have h := nmE eu2 h
    refine r_put (ws' := (MW cI cZ a u2)) C hw hiX8_note_X8 tyX8 tyX8_ok nmX8 0 (MWa_0 cI cZ a u0) rfl 6 (by decide) (by decide +kernel) rfl (ty := .int) (by decide +kernel) rfl rfl (Nat.le_of_ble_eq_true rfl) (by rw [eu2]; exact MWs_0_6 cI cZ a u0 (u0 0 6)) dX8_note_28 (fun H locs hw => ?_)
    exact r_vret (f := MW cI cZ a) hQ h hw dX8_note_31
  · have h := itT c1 h
    refine lv_aload_n hx hb dX8_note_5 rfl (lv_at hl 0 rfl) ?_
    refine r_get C hw hiX8_note_X8 0 (MWa_0 cI cZ a u0) rfl 6 (by decide) (by decide +kernel) rfl dX8_note_6 ?_
    refine lv_if_lt (tgt := 20) hx hb dX8_note_9 (by decide) (fun c3 => ?_) (fun c3 => ?_)
    · have h := itT c3 h
      exact J20 x1 u0 _ _ _ h hw (lv_sub hl [1] rfl)
    · have h := itF c3 h
      refine lv_iload_n hx hb dX8_note_12 rfl (lv_at hl 1 rfl) ?_
      refine lv_aload_n hx hb dX8_note_13 rfl (lv_at hl 0 rfl) ?_
      refine r_get C hw hiX8_note_X8 0 (MWa_0 cI cZ a u0) rfl 6 (by decide) (by decide +kernel) rfl dX8_note_14 ?_
      refine lv_icmp_ge (tgt := 24) hx hb dX8_note_17 (by decide) (fun c4 => ?_) (fun c4 => ?_)
      · have h := itT c4 h
        refine lv_aload_n hx hb dX8_note_24 rfl (lv_at hl 0 rfl) ?_
        refine r_get C hw hiX8_note_X8 0 (MWa_0 cI cZ a u0) rfl 6 (by decide) (by decide +kernel) rfl dX8_note_25 ?_
        obtain ⟨u5, eu5⟩ : ∃ y : St, y = st u0 0 6 (u0 0 6) := ⟨_, rfl⟩
        have h := nmE eu5 h
        refine r_put (ws' := (MW cI cZ a u5)) C hw hiX8_note_X8 tyX8 tyX8_ok nmX8 0 (MWa_0 cI cZ a u0) rfl 6 (by decide) (by decide +kernel) rfl (ty := .int) (by decide +kernel) rfl rfl (Nat.le_of_ble_eq_true rfl) (by rw [eu5]; exact MWs_0_6 cI cZ a u0 (u0 0 6)) dX8_note_28 (fun H locs hw => ?_)
        exact r_vret (f := MW cI cZ a) hQ h hw dX8_note_31
      · have h := itF c4 h
        exact J20 x1 u0 _ _ _ h hw (lv_sub hl [1] rfl)
abbrev rmX8_isBegin : Room := { frames := 0, cells := 0, slots := 0, locals := 0 }
theorem hiX8_isBegin_X8 : ∀ w ∈ wsX80, w ∈ wsX8_isBegin := by decide +kernel
set_option maxHeartbeats 4000000 in
set_option maxRecDepth 100000 in
theorem c_X8_isBegin (l : Launch) (D : va_G) (cI cZ : ClassId) (z : Nat → Nat) (base : Nat) (a : Nat → Nat) (x1 : Int32) (x2 : Int32) (u0 : St) (ro : Int32) (h : F_X8_isBegin x1 x2 u0 = some ro) : MI l D [(cI, .int), (cZ, .boolean)] z base yX8_isBegin wsX8_isBegin rmX8_isBegin [.ref (a 0), .int x1, .int x2] (MW cI cZ a u0) ro (MW cI cZ a u0) := by
  refine MI.ofZ (own := RX8) (cc := cX8_isBegin) (maxL := 3) (by decide) rfl rfl (Nat.le_of_ble_eq_true rfl) ?_
  intro p e s m args below meth c A Q ls C hl hw hQ
  have hx := C.1.1
  have hb := C.1.2.1
  have hl : lv_has ls 3 [(0, .ref (a 0)), (1, .int x1), (2, .int x2)] := hl
  rw [F_X8_isBegin] at h
  refine lv_iload_n hx hb dX8_isBegin_0 rfl (lv_at hl 2 rfl) ?_
  refine lv_aload_n hx hb dX8_isBegin_1 rfl (lv_at hl 0 rfl) ?_
  refine r_get C hw hiX8_isBegin_X8 0 (MWa_0 cI cZ a u0) rfl 23 (by decide) (by decide +kernel) rfl dX8_isBegin_2 ?_
  refine lv_iload_n hx hb dX8_isBegin_5 rfl (lv_at hl 1 rfl) ?_
  obtain ⟨g1, h⟩ := ixE h
  refine r_ald C hw 17 0 (MWa_17 cI cZ a u0) rfl g1 dX8_isBegin_6 ?_
  refine lv_icmp_ge (tgt := 30) hx hb dX8_isBegin_7 (by decide) (fun c2 => ?_) (fun c2 => ?_)
  · have h := itT c2 h
    refine lv_iconst (v := 0) hx hb dX8_isBegin_30 (by decide) ?_
    exact r_zretP hQ (by decide) h hw dX8_isBegin_31
  · have h := itF c2 h
    refine lv_aload_n hx hb dX8_isBegin_10 rfl (lv_at hl 0 rfl) ?_
    refine r_get C hw hiX8_isBegin_X8 0 (MWa_0 cI cZ a u0) rfl 3 (by decide) (by decide +kernel) rfl dX8_isBegin_11 ?_
    refine lv_aload_n hx hb dX8_isBegin_14 rfl (lv_at hl 0 rfl) ?_
    refine r_get C hw hiX8_isBegin_X8 0 (MWa_0 cI cZ a u0) rfl 22 (by decide) (by decide +kernel) rfl dX8_isBegin_15 ?_
    refine lv_iload_n hx hb dX8_isBegin_18 rfl (lv_at hl 1 rfl) ?_
    obtain ⟨g3, h⟩ := ixE h
    refine r_ald C hw 16 0 (MWa_16 cI cZ a u0) rfl g3 dX8_isBegin_19 ?_
    refine lv_iload_n hx hb dX8_isBegin_20 rfl (lv_at hl 2 rfl) ?_
    refine lv_iadd hx hb dX8_isBegin_21 ?_
    obtain ⟨g4, h⟩ := ixE h
    refine r_zld C hw 3 1 (MWa_3 cI cZ a u0) rfl g4 dX8_isBegin_22 ?_
    refine lv_if_eq (tgt := 30) hx hb dX8_isBegin_23 (by decide) (fun c5 => ?_) (fun c5 => ?_)
    · have h := itT c5 h
      refine lv_iconst (v := 0) hx hb dX8_isBegin_30 (by decide) ?_
      exact r_zretP hQ (by decide) h hw dX8_isBegin_31
    · have h := itF c5 h
      refine lv_iconst (v := 1) hx hb dX8_isBegin_26 (by decide) ?_
      refine lv_goto (tgt := 31) hx hb dX8_isBegin_27 (by decide) ?_
      exact r_zretP hQ (by decide) h hw dX8_isBegin_31
abbrev rmX8_isLike : Room := { frames := 0, cells := 0, slots := 0, locals := 0 }
theorem hiX8_isLike_X8 : ∀ w ∈ wsX80, w ∈ wsX8_isLike := by decide +kernel
set_option maxHeartbeats 4000000 in
set_option maxRecDepth 100000 in
theorem c_X8_isLike (l : Launch) (D : va_G) (cI cZ : ClassId) (z : Nat → Nat) (base : Nat) (a : Nat → Nat) (x1 : Int32) (x2 : Int32) (u0 : St) (ro : Int32) (h : F_X8_isLike x1 x2 u0 = some ro) : MI l D [(cI, .int), (cZ, .boolean)] z base yX8_isLike wsX8_isLike rmX8_isLike [.ref (a 0), .int x1, .int x2] (MW cI cZ a u0) ro (MW cI cZ a u0) := by
  refine MI.ofZ (own := RX8) (cc := cX8_isLike) (maxL := 5) (by decide) rfl rfl (Nat.le_of_ble_eq_true rfl) ?_
  intro p e s m args below meth c A Q ls C hl hw hQ
  have hx := C.1.1
  have hb := C.1.2.1
  have J39 : ∀ n39 : Nat, ∀ (x1 x2 x3 x4 : Int32) (H : Heap) (locs : List Loc) (ls : Array Slot), F_X8_isLike_39 n39 x1 x2 x3 x4 u0 = some ro → Wd D A s.heap H locs (MW cI cZ a u0) → lv_has ls 5 [(0, .ref (a 0)), (1, .int x1), (2, .int x2), (3, .int x3), (4, .int x4)] → W p l e rmX8_isLike s m args below meth c H locs 0 0 Q (F0 m 39 ls []) := by
    intro n39
    induction n39 with
    | zero => intro x1 x2 x3 x4 H locs ls h; rw [F_X8_isLike_39] at h; cases h
    | succ n39 ih39 =>
      have J86 : ∀ (x1 x2 x4 t0 : Int32) (H : Heap) (locs : List Loc) (ls : Array Slot), F_X8_isLike_86 (F_X8_isLike_39 n39) x1 x2 x4 t0 u0 = some ro → Wd D A s.heap H locs (MW cI cZ a u0) → lv_has ls 5 [(0, .ref (a 0)), (1, .int x1), (2, .int x2), (4, .int x4)] → W p l e rmX8_isLike s m args below meth c H locs 0 0 Q (F0 m 86 ls [.int t0]) := by
        intro x1 x2 x4 t0 H locs ls h hw hl
        rw [F_X8_isLike_86] at h
        refine lv_istore_n (lv' := [(3, .int t0), (0, .ref (a 0)), (1, .int x1), (2, .int x2), (4, .int x4)]) hx hb dX8_isLike_86 rfl hl (by decide) rfl (fun ls hl => ?_)
        obtain ⟨v1, ev1⟩ : ∃ y : Int32, y = x4 + 1 := ⟨_, rfl⟩
        have h := nmE ev1 h
        refine lv_iinc (v := v1) (lv' := [(4, .int v1), (3, .int t0), (0, .ref (a 0)), (1, .int x1), (2, .int x2)]) hx hb dX8_isLike_87 hl (k := 4) rfl (by rw [ev1]; rfl) (by decide) rfl (fun ls hl => ?_)
        refine lv_goto (tgt := 39) hx hb dX8_isLike_90 (by decide) ?_
        exact ih39 x1 x2 t0 v1 _ _ _ h hw (lv_sub hl [2, 3, 4, 1, 0] rfl)
      intro x1 x2 x3 x4 H locs ls h hw hl
      rw [F_X8_isLike_39] at h
      refine lv_iload hx hb dX8_isLike_39 (lv_at hl 4 rfl) ?_
      refine lv_aload_n hx hb dX8_isLike_41 rfl (lv_at hl 0 rfl) ?_
      refine r_get C hw hiX8_isLike_X8 0 (MWa_0 cI cZ a u0) rfl 17 (by decide) (by decide +kernel) rfl dX8_isLike_42 ?_
      refine lv_iload_n hx hb dX8_isLike_45 rfl (lv_at hl 1 rfl) ?_
      obtain ⟨g1, h⟩ := ixE h
      refine r_ald C hw 11 0 (MWa_11 cI cZ a u0) rfl g1 dX8_isLike_46 ?_
      refine lv_icmp_ge (tgt := 93) hx hb dX8_isLike_47 (by decide) (fun c2 => ?_) (fun c2 => ?_)
      · have h := itT c2 h
        refine lv_iload_n hx hb dX8_isLike_93 rfl (lv_at hl 3 rfl) ?_
        obtain ⟨g3, h⟩ := boE h
        exact r_zretP hQ g3 h hw dX8_isLike_94
      · have h := itF c2 h
        refine lv_iload_n hx hb dX8_isLike_50 rfl (lv_at hl 3 rfl) ?_
        refine lv_if_eq (tgt := 93) hx hb dX8_isLike_51 (by decide) (fun c4 => ?_) (fun c4 => ?_)
        · have h := itT c4 h
          refine lv_iload_n hx hb dX8_isLike_93 rfl (lv_at hl 3 rfl) ?_
          obtain ⟨g5, h⟩ := boE h
          exact r_zretP hQ g5 h hw dX8_isLike_94
        · have h := itF c4 h
          refine lv_aload_n hx hb dX8_isLike_54 rfl (lv_at hl 0 rfl) ?_
          refine r_get C hw hiX8_isLike_X8 0 (MWa_0 cI cZ a u0) rfl 18 (by decide) (by decide +kernel) rfl dX8_isLike_55 ?_
          refine lv_bipush (v := 8) hx hb dX8_isLike_58 (by decide) ?_
          refine lv_iload_n hx hb dX8_isLike_60 rfl (lv_at hl 1 rfl) ?_
          refine lv_imul hx hb dX8_isLike_61 ?_
          refine lv_iload hx hb dX8_isLike_62 (lv_at hl 4 rfl) ?_
          refine lv_iadd hx hb dX8_isLike_64 ?_
          obtain ⟨g6, h⟩ := ixE h
          refine r_ald C hw 12 0 (MWa_12 cI cZ a u0) rfl g6 dX8_isLike_65 ?_
          refine lv_aload_n hx hb dX8_isLike_66 rfl (lv_at hl 0 rfl) ?_
          refine r_get C hw hiX8_isLike_X8 0 (MWa_0 cI cZ a u0) rfl 18 (by decide) (by decide +kernel) rfl dX8_isLike_67 ?_
          refine lv_bipush (v := 8) hx hb dX8_isLike_70 (by decide) ?_
          refine lv_iload_n hx hb dX8_isLike_72 rfl (lv_at hl 2 rfl) ?_
          refine lv_imul hx hb dX8_isLike_73 ?_
          refine lv_iload hx hb dX8_isLike_74 (lv_at hl 4 rfl) ?_
          refine lv_iadd hx hb dX8_isLike_76 ?_
          obtain ⟨g7, h⟩ := ixE h
          refine r_ald C hw 12 0 (MWa_12 cI cZ a u0) rfl g7 dX8_isLike_77 ?_
          refine lv_icmp_ne (tgt := 85) hx hb dX8_isLike_78 (by decide) (fun c8 => ?_) (fun c8 => ?_)
          · have h := itF c8 h
            refine lv_iconst (v := 0) hx hb dX8_isLike_85 (by decide) ?_
            exact J86 x1 x2 x4 0 _ _ _ h hw (lv_sub hl [0, 1, 2, 4] rfl)
          · have h := itT c8 h
            refine lv_iconst (v := 1) hx hb dX8_isLike_81 (by decide) ?_
            refine lv_goto (tgt := 86) hx hb dX8_isLike_82 (by decide) ?_
            exact J86 x1 x2 x4 1 _ _ _ h hw (lv_sub hl [0, 1, 2, 4] rfl)
  have J35 : ∀ (x1 x2 t0 : Int32) (H : Heap) (locs : List Loc) (ls : Array Slot), F_X8_isLike_35 x1 x2 t0 u0 = some ro → Wd D A s.heap H locs (MW cI cZ a u0) → lv_has ls 5 [(0, .ref (a 0)), (1, .int x1), (2, .int x2)] → W p l e rmX8_isLike s m args below meth c H locs 0 0 Q (F0 m 35 ls [.int t0]) := by
    intro x1 x2 t0 H locs ls h hw hl
    rw [F_X8_isLike_35] at h
    refine lv_istore_n (lv' := [(3, .int t0), (0, .ref (a 0)), (1, .int x1), (2, .int x2)]) hx hb dX8_isLike_35 rfl hl (by decide) rfl (fun ls hl => ?_)
    refine lv_iconst (v := 1) hx hb dX8_isLike_36 (by decide) ?_
    refine lv_istore (lv' := [(4, .int 1), (3, .int t0), (0, .ref (a 0)), (1, .int x1), (2, .int x2)]) hx hb dX8_isLike_37 hl (by decide) rfl (fun ls hl => ?_)
    exact J39 fu x1 x2 t0 1 _ _ _ h hw (lv_sub hl [2, 3, 4, 1, 0] rfl)
  have J34 : ∀ (x1 x2 : Int32) (H : Heap) (locs : List Loc) (ls : Array Slot), F_X8_isLike_34 x1 x2 u0 = some ro → Wd D A s.heap H locs (MW cI cZ a u0) → lv_has ls 5 [(0, .ref (a 0)), (1, .int x1), (2, .int x2)] → W p l e rmX8_isLike s m args below meth c H locs 0 0 Q (F0 m 34 ls []) := by
    intro x1 x2 H locs ls h hw hl
    rw [F_X8_isLike_34] at h
    refine lv_iconst (v := 0) hx hb dX8_isLike_34 (by decide) ?_
    exact J35 x1 x2 0 _ _ _ h hw hl
  have hl : lv_has ls 5 [(0, .ref (a 0)), (1, .int x1), (2, .int x2)] := hl
  rw [F_X8_isLike] at h
  refine lv_aload_n hx hb dX8_isLike_0 rfl (lv_at hl 0 rfl) ?_
  refine r_get C hw hiX8_isLike_X8 0 (MWa_0 cI cZ a u0) rfl 17 (by decide) (by decide +kernel) rfl dX8_isLike_1 ?_
  refine lv_iload_n hx hb dX8_isLike_4 rfl (lv_at hl 1 rfl) ?_
  obtain ⟨g1, h⟩ := ixE h
  refine r_ald C hw 11 0 (MWa_11 cI cZ a u0) rfl g1 dX8_isLike_5 ?_
  refine lv_aload_n hx hb dX8_isLike_6 rfl (lv_at hl 0 rfl) ?_
  refine r_get C hw hiX8_isLike_X8 0 (MWa_0 cI cZ a u0) rfl 17 (by decide) (by decide +kernel) rfl dX8_isLike_7 ?_
  refine lv_iload_n hx hb dX8_isLike_10 rfl (lv_at hl 2 rfl) ?_
  obtain ⟨g2, h⟩ := ixE h
  refine r_ald C hw 11 0 (MWa_11 cI cZ a u0) rfl g2 dX8_isLike_11 ?_
  refine lv_icmp_ne (tgt := 34) hx hb dX8_isLike_12 (by decide) (fun c3 => ?_) (fun c3 => ?_)
  · have h := itF c3 h
    exact J34 x1 x2 _ _ _ h hw hl
  · have h := itT c3 h
    refine lv_aload_n hx hb dX8_isLike_15 rfl (lv_at hl 0 rfl) ?_
    refine r_get C hw hiX8_isLike_X8 0 (MWa_0 cI cZ a u0) rfl 19 (by decide) (by decide +kernel) rfl dX8_isLike_16 ?_
    refine lv_iload_n hx hb dX8_isLike_19 rfl (lv_at hl 1 rfl) ?_
    obtain ⟨g4, h⟩ := ixE h
    refine r_ald C hw 13 0 (MWa_13 cI cZ a u0) rfl g4 dX8_isLike_20 ?_
    refine lv_aload_n hx hb dX8_isLike_21 rfl (lv_at hl 0 rfl) ?_
    refine r_get C hw hiX8_isLike_X8 0 (MWa_0 cI cZ a u0) rfl 19 (by decide) (by decide +kernel) rfl dX8_isLike_22 ?_
    refine lv_iload_n hx hb dX8_isLike_25 rfl (lv_at hl 2 rfl) ?_
    obtain ⟨g5, h⟩ := ixE h
    refine r_ald C hw 13 0 (MWa_13 cI cZ a u0) rfl g5 dX8_isLike_26 ?_
    refine lv_icmp_ne (tgt := 34) hx hb dX8_isLike_27 (by decide) (fun c6 => ?_) (fun c6 => ?_)
    · have h := itF c6 h
      exact J34 x1 x2 _ _ _ h hw hl
    · have h := itT c6 h
      refine lv_iconst (v := 1) hx hb dX8_isLike_30 (by decide) ?_
      refine lv_goto (tgt := 35) hx hb dX8_isLike_31 (by decide) ?_
      exact J35 x1 x2 1 _ _ _ h hw hl
