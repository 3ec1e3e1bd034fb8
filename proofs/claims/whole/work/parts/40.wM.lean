abbrev rmX8_feed : Room := { frames := 0, cells := 0, slots := 0, locals := 0 }
theorem hiX8_feed_X8 : ∀ w ∈ wsX80, w ∈ wsX8_feed := by decide +kernel
set_option maxHeartbeats 4000000 in
set_option maxRecDepth 100000 in
theorem c_X8_feed (l : Launch) (D : va_G) (cI cZ : ClassId) (z : Nat → Nat) (base : Nat) (a : Nat → Nat) (x1 : Int32) (x2 : Int32) (x3 : Int32) (x4 : Int32) (x5 : Int32) (u0 : St) (ro : Int32) (uo : St) (h : F_X8_feed x1 x2 x3 x4 x5 u0 = some (ro, uo)) : MI l D [(cI, .int), (cZ, .boolean)] z base yX8_feed wsX8_feed rmX8_feed [.ref (a 0), .int x1, .int x2, .int x3, .int x4, .int x5] (MW cI cZ a u0) ro (MW cI cZ a uo) := by
  refine MI.ofI (own := RX8) (cc := cX8_feed) (maxL := 8) (by decide) rfl rfl (Nat.le_of_ble_eq_true rfl) ?_
  intro p e s m args below meth c A Q ls C hl hw hQ
  have hx := C.1.1
  have hb := C.1.2.1
  have J19 : ∀ n19 : Nat, ∀ (x1 x2 x3 x4 x5 x6 : Int32) (u0 : St) (H : Heap) (locs : List Loc) (ls : Array Slot), F_X8_feed_19 n19 x1 x2 x3 x4 x5 x6 u0 = some (ro, uo) → Wd D A s.heap H locs (MW cI cZ a u0) → lv_has ls 8 [(0, .ref (a 0)), (1, .int x1), (2, .int x2), (3, .int x3), (4, .int x4), (5, .int x5), (6, .int x6)] → W p l e rmX8_feed s m args below meth c H locs 0 0 Q (F0 m 19 ls []) := by
    intro n19
    induction n19 with
    | zero => intro x1 x2 x3 x4 x5 x6 u0 H locs ls h; rw [F_X8_feed_19] at h; cases h
    | succ n19 ih19 =>
      have J72 : ∀ (x1 x2 x3 x4 x5 x6 t0 : Int32) (u0 : St) (H : Heap) (locs : List Loc) (ls : Array Slot), F_X8_feed_72 (F_X8_feed_19 n19) x1 x2 x3 x4 x5 x6 t0 u0 = some (ro, uo) → Wd D A s.heap H locs (MW cI cZ a u0) → lv_has ls 8 [(0, .ref (a 0)), (1, .int x1), (2, .int x2), (3, .int x3), (4, .int x4), (5, .int x5), (6, .int x6)] → W p l e rmX8_feed s m args below meth c H locs 0 0 Q (F0 m 72 ls [.int t0]) := by
        intro x1 x2 x3 x4 x5 x6 t0 u0 H locs ls h hw hl
        rw [F_X8_feed_72] at h
        refine lv_istore (lv' := [(7, .int t0), (0, .ref (a 0)), (1, .int x1), (2, .int x2), (3, .int x3), (4, .int x4), (5, .int x5), (6, .int x6)]) hx hb dX8_feed_72 hl (by decide) rfl (fun ls hl => ?_)
        refine lv_aload_n hx hb dX8_feed_74 rfl (lv_at hl 1 rfl) ?_
        refine r_get C hw hiX8_feed_X8 0 (MWa_0 cI cZ a u0) rfl 0 (by decide) (by decide +kernel) rfl dX8_feed_75 ?_
        refine lv_aload_n hx hb dX8_feed_78 rfl (lv_at hl 1 rfl) ?_
        refine r_get C hw hiX8_feed_X8 0 (MWa_0 cI cZ a u0) rfl 1 (by decide) (by decide +kernel) rfl dX8_feed_79 ?_
        refine lv_iload hx hb dX8_feed_82 (lv_at hl 0 rfl) ?_
        refine lv_bipush (v := 24) hx hb dX8_feed_84 (by decide) ?_
        refine lv_bipush (v := 8) hx hb dX8_feed_86 (by decide) ?_
        refine lv_iload hx hb dX8_feed_88 (lv_at hl 7 rfl) ?_
        refine lv_iconst (v := 3) hx hb dX8_feed_90 (by decide) ?_
        refine lv_iand hx hb dX8_feed_91 ?_
        refine lv_imul hx hb dX8_feed_92 ?_
        refine lv_isub hx hb dX8_feed_93 ?_
        refine lv_iushr (v := ushr t0 (24 - (8 * (x6 &&& 3)))) hx hb dX8_feed_94 rfl ?_
        refine lv_sipush (v := 255) hx hb dX8_feed_95 (by decide) ?_
        refine lv_iand hx hb dX8_feed_98 ?_
        obtain ⟨g1, h⟩ := ixE h
        obtain ⟨u2, eu2⟩ : ∃ y : St, y = st u0 1 ((u0 0 1)).toNatClampNeg ((ushr t0 (24 - (8 * (x6 &&& 3)))) &&& 255) := ⟨_, rfl⟩
        have h := nmE eu2 h
        refine r_ast (ws' := (MW cI cZ a u2)) C hw 1 0 (MWa_1 cI cZ a u0) rfl g1 (by rw [eu2]; exact MWs_1 cI cZ a u0 _ ((ushr t0 (24 - (8 * (x6 &&& 3)))) &&& 255)) dX8_feed_99 (fun H locs hw => ?_)
        refine lv_aload_n hx hb dX8_feed_100 rfl (lv_at hl 1 rfl) ?_
        refine lv_dup hx hb dX8_feed_101 rfl ?_
        refine r_get C hw hiX8_feed_X8 0 (MWa_0 cI cZ a u2) rfl 1 (by decide) (by decide +kernel) rfl dX8_feed_102 ?_
        refine lv_iconst (v := 1) hx hb dX8_feed_105 (by decide) ?_
        refine lv_iadd hx hb dX8_feed_106 ?_
        obtain ⟨u3, eu3⟩ : ∃ y : St, y = st u2 0 1 ((u2 0 1) + 1) := ⟨_, rfl⟩
        have h := nmE eu3 h
        refine r_put (ws' := (MW cI cZ a u3)) C hw hiX8_feed_X8 tyX8 tyX8_ok nmX8 0 (MWa_0 cI cZ a u2) rfl 1 (by decide) (by decide +kernel) rfl (ty := .int) (by decide +kernel) rfl rfl (Nat.le_of_ble_eq_true rfl) (by rw [eu3]; exact MWs_0_1 cI cZ a u2 ((u2 0 1) + 1)) dX8_feed_107 (fun H locs hw => ?_)
        obtain ⟨v4, ev4⟩ : ∃ y : Int32, y = x6 + 1 := ⟨_, rfl⟩
        have h := nmE ev4 h
        refine lv_iinc (v := v4) (lv' := [(6, .int v4), (7, .int t0), (0, .ref (a 0)), (1, .int x1), (2, .int x2), (3, .int x3), (4, .int x4), (5, .int x5)]) hx hb dX8_feed_110 hl (k := 7) rfl (by rw [ev4]; rfl) (by decide) rfl (fun ls hl => ?_)
        refine lv_goto (tgt := 19) hx hb dX8_feed_113 (by decide) ?_
        exact ih19 x1 x2 x3 x4 x5 v4 u3 _ _ _ h hw (lv_sub hl [2, 3, 4, 5, 6, 7, 0] rfl)
      intro x1 x2 x3 x4 x5 x6 u0 H locs ls h hw hl
      rw [F_X8_feed_19] at h
      refine lv_iload hx hb dX8_feed_19 (lv_at hl 6 rfl) ?_
      refine lv_bipush (v := 20) hx hb dX8_feed_21 (by decide) ?_
      refine lv_icmp_ge (tgt := 116) hx hb dX8_feed_23 (by decide) (fun c1 => ?_) (fun c1 => ?_)
      · have h := itT c1 h
        refine lv_aload_n hx hb dX8_feed_116 rfl (lv_at hl 0 rfl) ?_
        refine r_get C hw hiX8_feed_X8 0 (MWa_0 cI cZ a u0) rfl 1 (by decide) (by decide +kernel) rfl dX8_feed_117 ?_
        exact r_iret (f := MW cI cZ a) hQ h hw dX8_feed_120
      · have h := itF c1 h
        refine lv_iload hx hb dX8_feed_26 (lv_at hl 6 rfl) ?_
        refine lv_iconst (v := 4) hx hb dX8_feed_28 (by decide) ?_
        refine lv_icmp_ge (tgt := 36) hx hb dX8_feed_29 (by decide) (fun c2 => ?_) (fun c2 => ?_)
        · have h := itT c2 h
          refine lv_iload hx hb dX8_feed_36 (lv_at hl 6 rfl) ?_
          refine lv_bipush (v := 8) hx hb dX8_feed_38 (by decide) ?_
          refine lv_icmp_ge (tgt := 47) hx hb dX8_feed_40 (by decide) (fun c3 => ?_) (fun c3 => ?_)
          · have h := itT c3 h
            refine lv_iload hx hb dX8_feed_47 (lv_at hl 6 rfl) ?_
            refine lv_bipush (v := 12) hx hb dX8_feed_49 (by decide) ?_
            refine lv_icmp_ge (tgt := 58) hx hb dX8_feed_51 (by decide) (fun c4 => ?_) (fun c4 => ?_)
            · have h := itT c4 h
              refine lv_iload hx hb dX8_feed_58 (lv_at hl 6 rfl) ?_
              refine lv_bipush (v := 16) hx hb dX8_feed_60 (by decide) ?_
              refine lv_icmp_ge (tgt := 70) hx hb dX8_feed_62 (by decide) (fun c5 => ?_) (fun c5 => ?_)
              · have h := itT c5 h
                refine lv_iload hx hb dX8_feed_70 (lv_at hl 5 rfl) ?_
                exact J72 x1 x2 x3 x4 x5 x6 x5 u0 _ _ _ h hw hl
              · have h := itF c5 h
                refine lv_iload hx hb dX8_feed_65 (lv_at hl 4 rfl) ?_
                refine lv_goto (tgt := 72) hx hb dX8_feed_67 (by decide) ?_
                exact J72 x1 x2 x3 x4 x5 x6 x4 u0 _ _ _ h hw hl
            · have h := itF c4 h
              refine lv_iload_n hx hb dX8_feed_54 rfl (lv_at hl 3 rfl) ?_
              refine lv_goto (tgt := 72) hx hb dX8_feed_55 (by decide) ?_
              exact J72 x1 x2 x3 x4 x5 x6 x3 u0 _ _ _ h hw hl
          · have h := itF c3 h
            refine lv_iload_n hx hb dX8_feed_43 rfl (lv_at hl 2 rfl) ?_
            refine lv_goto (tgt := 72) hx hb dX8_feed_44 (by decide) ?_
            exact J72 x1 x2 x3 x4 x5 x6 x2 u0 _ _ _ h hw hl
        · have h := itF c2 h
          refine lv_iload_n hx hb dX8_feed_32 rfl (lv_at hl 1 rfl) ?_
          refine lv_goto (tgt := 72) hx hb dX8_feed_33 (by decide) ?_
          exact J72 x1 x2 x3 x4 x5 x6 x1 u0 _ _ _ h hw hl
  have hl : lv_has ls 8 [(0, .ref (a 0)), (1, .int x1), (2, .int x2), (3, .int x3), (4, .int x4), (5, .int x5)] := hl
  rw [F_X8_feed] at h
  refine lv_aload_n hx hb dX8_feed_0 rfl (lv_at hl 0 rfl) ?_
  refine r_get C hw hiX8_feed_X8 0 (MWa_0 cI cZ a u0) rfl 1 (by decide) (by decide +kernel) rfl dX8_feed_1 ?_
  refine lv_bipush (v := 20) hx hb dX8_feed_4 (by decide) ?_
  refine lv_iadd hx hb dX8_feed_6 ?_
  refine lv_sipush (v := 8000) hx hb dX8_feed_7 (by decide) ?_
  refine lv_icmp_le (tgt := 16) hx hb dX8_feed_10 (by decide) (fun c1 => ?_) (fun c1 => ?_)
  · have h := itT c1 h
    refine lv_iconst (v := 0) hx hb dX8_feed_16 (by decide) ?_
    refine lv_istore (lv' := [(6, .int 0), (0, .ref (a 0)), (1, .int x1), (2, .int x2), (3, .int x3), (4, .int x4), (5, .int x5)]) hx hb dX8_feed_17 hl (by decide) rfl (fun ls hl => ?_)
    exact J19 fu x1 x2 x3 x4 x5 0 u0 _ _ _ h hw (lv_sub hl [1, 2, 3, 4, 5, 6, 0] rfl)
  · have h := itF c1 h
    refine lv_bipush (v := (-2)) hx hb dX8_feed_13 (by decide) ?_
    exact r_iret (f := MW cI cZ a) hQ h hw dX8_feed_15
abbrev rmX8_bad : Room := { frames := 0, cells := 0, slots := 0, locals := 0 }
theorem hiX8_bad_X8 : ∀ w ∈ wsX80, w ∈ wsX8_bad := by decide +kernel
set_option maxHeartbeats 4000000 in
set_option maxRecDepth 100000 in
theorem c_X8_bad (l : Launch) (D : va_G) (cI cZ : ClassId) (z : Nat → Nat) (base : Nat) (a : Nat → Nat) (x1 : Int32) (u0 : St) (ro : Int32) (uo : St) (h : F_X8_bad x1 u0 = some (ro, uo)) : MI l D [(cI, .int), (cZ, .boolean)] z base yX8_bad wsX8_bad rmX8_bad [.ref (a 0), .int x1] (MW cI cZ a u0) ro (MW cI cZ a uo) := by
  refine MI.ofZ (own := RX8) (cc := cX8_bad) (maxL := 2) (by decide) rfl rfl (Nat.le_of_ble_eq_true rfl) ?_
  intro p e s m args below meth c A Q ls C hl hw hQ
  have hx := C.1.1
  have hb := C.1.2.1
  have hl : lv_has ls 2 [(0, .ref (a 0)), (1, .int x1)] := hl
  rw [F_X8_bad] at h
  refine lv_aload_n hx hb dX8_bad_0 rfl (lv_at hl 0 rfl) ?_
  refine lv_aload_n hx hb dX8_bad_1 rfl (lv_at hl 0 rfl) ?_
  refine r_get C hw hiX8_bad_X8 0 (MWa_0 cI cZ a u0) rfl 6 (by decide) (by decide +kernel) rfl dX8_bad_2 ?_
  refine lv_if_ge (tgt := 12) hx hb dX8_bad_5 (by decide) (fun c1 => ?_) (fun c1 => ?_)
  · have h := itT c1 h
    refine lv_aload_n hx hb dX8_bad_12 rfl (lv_at hl 0 rfl) ?_
    refine r_get C hw hiX8_bad_X8 0 (MWa_0 cI cZ a u0) rfl 6 (by decide) (by decide +kernel) rfl dX8_bad_13 ?_
    obtain ⟨u2, eu2⟩ : ∃ y : St, y = st u0 0 6 (u0 0 6) := ⟨_, rfl⟩
    have h := nmE eu2 h
    refine r_put (ws' := (MW cI cZ a u2)) C hw hiX8_bad_X8 tyX8 tyX8_ok nmX8 0 (MWa_0 cI cZ a u0) rfl 6 (by decide) (by decide +kernel) rfl (ty := .int) (by decide +kernel) rfl rfl (Nat.le_of_ble_eq_true rfl) (by rw [eu2]; exact MWs_0_6 cI cZ a u0 (u0 0 6)) dX8_bad_16 (fun H locs hw => ?_)
    refine lv_iconst (v := 0) hx hb dX8_bad_19 (by decide) ?_
    exact r_zret (f := MW cI cZ a) hQ (by decide) h hw dX8_bad_20
  · have h := itF c1 h
    refine lv_iload_n hx hb dX8_bad_8 rfl (lv_at hl 1 rfl) ?_
    refine lv_goto (tgt := 16) hx hb dX8_bad_9 (by decide) ?_
    obtain ⟨u3, eu3⟩ : ∃ y : St, y = st u0 0 6 x1 := ⟨_, rfl⟩
    have h := nmE eu3 h
    refine r_put (ws' := (MW cI cZ a u3)) C hw hiX8_bad_X8 tyX8 tyX8_ok nmX8 0 (MWa_0 cI cZ a u0) rfl 6 (by decide) (by decide +kernel) rfl (ty := .int) (by decide +kernel) rfl rfl (Nat.le_of_ble_eq_true rfl) (by rw [eu3]; exact MWs_0_6 cI cZ a u0 x1) dX8_bad_16 (fun H locs hw => ?_)
    refine lv_iconst (v := 0) hx hb dX8_bad_19 (by decide) ?_
    exact r_zret (f := MW cI cZ a) hQ (by decide) h hw dX8_bad_20
abbrev rmX8_here : Room := { frames := 0, cells := 0, slots := 0, locals := 0 }
theorem hiX8_here_X8 : ∀ w ∈ wsX80, w ∈ wsX8_here := by decide +kernel
set_option maxHeartbeats 4000000 in
set_option maxRecDepth 100000 in
theorem c_X8_here (l : Launch) (D : va_G) (cI cZ : ClassId) (z : Nat → Nat) (base : Nat) (a : Nat → Nat) (u0 : St) (ro : Int32) (h : F_X8_here u0 = some ro) : MI l D [(cI, .int), (cZ, .boolean)] z base yX8_here wsX8_here rmX8_here [.ref (a 0)] (MW cI cZ a u0) ro (MW cI cZ a u0) := by
  refine MI.ofI (own := RX8) (cc := cX8_here) (maxL := 1) (by decide) rfl rfl (Nat.le_of_ble_eq_true rfl) ?_
  intro p e s m args below meth c A Q ls C hl hw hQ
  have hx := C.1.1
  have hb := C.1.2.1
  have hl : lv_has ls 1 [(0, .ref (a 0))] := hl
  rw [F_X8_here] at h
  refine lv_aload_n hx hb dX8_here_0 rfl (lv_at hl 0 rfl) ?_
  refine r_get C hw hiX8_here_X8 0 (MWa_0 cI cZ a u0) rfl 5 (by decide) (by decide +kernel) rfl dX8_here_1 ?_
  refine lv_aload_n hx hb dX8_here_4 rfl (lv_at hl 0 rfl) ?_
  refine r_get C hw hiX8_here_X8 0 (MWa_0 cI cZ a u0) rfl 4 (by decide) (by decide +kernel) rfl dX8_here_5 ?_
  refine lv_icmp_ge (tgt := 23) hx hb dX8_here_8 (by decide) (fun c1 => ?_) (fun c1 => ?_)
  · have h := itT c1 h
    refine lv_sipush (v := 256) hx hb dX8_here_23 (by decide) ?_
    exact r_iretP hQ h hw dX8_here_26
  · have h := itF c1 h
    refine lv_aload_n hx hb dX8_here_11 rfl (lv_at hl 0 rfl) ?_
    refine r_get C hw hiX8_here_X8 0 (MWa_0 cI cZ a u0) rfl 2 (by decide) (by decide +kernel) rfl dX8_here_12 ?_
    refine lv_aload_n hx hb dX8_here_15 rfl (lv_at hl 0 rfl) ?_
    refine r_get C hw hiX8_here_X8 0 (MWa_0 cI cZ a u0) rfl 5 (by decide) (by decide +kernel) rfl dX8_here_16 ?_
    obtain ⟨g2, h⟩ := ixE h
    refine r_ald C hw 2 0 (MWa_2 cI cZ a u0) rfl g2 dX8_here_19 ?_
    refine lv_goto (tgt := 26) hx hb dX8_here_20 (by decide) ?_
    exact r_iretP hQ h hw dX8_here_26
abbrev rmX8_over : Room := { frames := 1, cells := 0, slots := 0, locals := 21 }
theorem hiX8_over_X8 : ∀ w ∈ wsX80, w ∈ wsX8_over := by decide +kernel
set_option maxHeartbeats 4000000 in
set_option maxRecDepth 100000 in
theorem c_X8_over (l : Launch) (D : va_G) (cI cZ : ClassId) (z : Nat → Nat) (base : Nat) (a : Nat → Nat) (x1 : Int32) (x2 : Int32) (u0 : St) (ro : Int32) (uo : St) (h : F_X8_over x1 x2 u0 = some (ro, uo)) : MI l D [(cI, .int), (cZ, .boolean)] z base yX8_over wsX8_over rmX8_over [.ref (a 0), .int x1, .int x2] (MW cI cZ a u0) ro (MW cI cZ a uo) := by
  refine MI.ofZ (own := RX8) (cc := cX8_over) (maxL := 3) (by decide) rfl rfl (Nat.le_of_ble_eq_true rfl) ?_
  intro p e s m args below meth c A Q ls C hl hw hQ
  have hx := C.1.1
  have hb := C.1.2.1
  have J26 : ∀ (u0 : St) (H : Heap) (locs : List Loc) (ls : Array Slot), F_X8_over_26 u0 = some (ro, uo) → Wd D A s.heap H locs (MW cI cZ a u0) → lv_has ls 3 [(0, .ref (a 0))] → W p l e rmX8_over s m args below meth c H locs 0 0 Q (F0 m 26 ls []) := by
    intro u0 H locs ls h hw hl
    rw [F_X8_over_26] at h
    refine lv_aload_n hx hb dX8_over_26 rfl (lv_at hl 0 rfl) ?_
    refine lv_aload_n hx hb dX8_over_27 rfl (lv_at hl 0 rfl) ?_
    refine r_get C hw hiX8_over_X8 0 (MWa_0 cI cZ a u0) rfl 5 (by decide) (by decide +kernel) rfl dX8_over_28 ?_
    obtain ⟨r2, u3, h1, h⟩ := b2E h
    refine r_callV (rest := []) C hw (c_X8_bad l D cI cZ z base a (u0 0 5) u0 r2 u3 h1) (cwV 1 C.1.2.2.2.2 gX8_over_X8_bad rfl rfl rfl (by decide +kernel) ⟨Nat.le_of_ble_eq_true rfl, Nat.le_of_ble_eq_true rfl⟩) (va_recv C.2.1 hw.1 (ci := 7) (q0 := 0) rfl (MWa_0 cI cZ a u0)) rfl hl.1 rfl (Nat.le_of_ble_eq_true rfl) dX8_over_31 ⟨Nat.zero_le _, Nat.zero_le _⟩ (fun H locs hw => ?_)
    obtain ⟨g4, h⟩ := boE h
    exact r_zret (f := MW cI cZ a) hQ g4 h hw dX8_over_34
  have hl : lv_has ls 3 [(0, .ref (a 0)), (1, .int x1), (2, .int x2)] := hl
  rw [F_X8_over] at h
  refine lv_aload_n hx hb dX8_over_0 rfl (lv_at hl 0 rfl) ?_
  obtain ⟨r2, h1, h⟩ := b1E h
  refine r_callV (rest := []) C hw (c_X8_here l D cI cZ z base a u0 r2 h1) (cwV 0 C.1.2.2.2.2 gX8_over_X8_here rfl rfl rfl (by decide +kernel) ⟨Nat.le_of_ble_eq_true rfl, Nat.le_of_ble_eq_true rfl⟩) (va_recv C.2.1 hw.1 (ci := 7) (q0 := 0) rfl (MWa_0 cI cZ a u0)) rfl hl.1 rfl (Nat.le_of_ble_eq_true rfl) dX8_over_1 ⟨Nat.zero_le _, Nat.zero_le _⟩ (fun H locs hw => ?_)
  refine lv_iload_n hx hb dX8_over_4 rfl (lv_at hl 1 rfl) ?_
  refine lv_icmp_lt (tgt := 26) hx hb dX8_over_5 (by decide) (fun c3 => ?_) (fun c3 => ?_)
  · have h := itT c3 h
    exact J26 u0 _ _ _ h hw (lv_sub hl [0] rfl)
  · have h := itF c3 h
    refine lv_aload_n hx hb dX8_over_8 rfl (lv_at hl 0 rfl) ?_
    obtain ⟨r5, h4, h⟩ := b1E h
    refine r_callV (rest := []) C hw (c_X8_here l D cI cZ z base a u0 r5 h4) (cwV 0 C.1.2.2.2.2 gX8_over_X8_here rfl rfl rfl (by decide +kernel) ⟨Nat.le_of_ble_eq_true rfl, Nat.le_of_ble_eq_true rfl⟩) (va_recv C.2.1 hw.1 (ci := 7) (q0 := 0) rfl (MWa_0 cI cZ a u0)) rfl hl.1 rfl (Nat.le_of_ble_eq_true rfl) dX8_over_9 ⟨Nat.zero_le _, Nat.zero_le _⟩ (fun H locs hw => ?_)
    refine lv_iload_n hx hb dX8_over_12 rfl (lv_at hl 2 rfl) ?_
    refine lv_icmp_gt (tgt := 26) hx hb dX8_over_13 (by decide) (fun c6 => ?_) (fun c6 => ?_)
    · have h := itT c6 h
      exact J26 u0 _ _ _ h hw (lv_sub hl [0] rfl)
    · have h := itF c6 h
      refine lv_aload_n hx hb dX8_over_16 rfl (lv_at hl 0 rfl) ?_
      obtain ⟨r8, h7, h⟩ := b1E h
      refine r_callV (rest := []) C hw (c_X8_here l D cI cZ z base a u0 r8 h7) (cwV 0 C.1.2.2.2.2 gX8_over_X8_here rfl rfl rfl (by decide +kernel) ⟨Nat.le_of_ble_eq_true rfl, Nat.le_of_ble_eq_true rfl⟩) (va_recv C.2.1 hw.1 (ci := 7) (q0 := 0) rfl (MWa_0 cI cZ a u0)) rfl hl.1 rfl (Nat.le_of_ble_eq_true rfl) dX8_over_17 ⟨Nat.zero_le _, Nat.zero_le _⟩ (fun H locs hw => ?_)
      refine lv_sipush (v := 256) hx hb dX8_over_20 (by decide) ?_
      refine lv_icmp_ne (tgt := 35) hx hb dX8_over_23 (by decide) (fun c9 => ?_) (fun c9 => ?_)
      · have h := itF c9 h
        refine lv_aload_n hx hb dX8_over_35 rfl (lv_at hl 0 rfl) ?_
        refine lv_dup hx hb dX8_over_36 rfl ?_
        refine r_get C hw hiX8_over_X8 0 (MWa_0 cI cZ a u0) rfl 5 (by decide) (by decide +kernel) rfl dX8_over_37 ?_
        refine lv_iconst (v := 1) hx hb dX8_over_40 (by decide) ?_
        refine lv_iadd hx hb dX8_over_41 ?_
        obtain ⟨u10, eu10⟩ : ∃ y : St, y = st u0 0 5 ((u0 0 5) + 1) := ⟨_, rfl⟩
        have h := nmE eu10 h
        refine r_put (ws' := (MW cI cZ a u10)) C hw hiX8_over_X8 tyX8 tyX8_ok nmX8 0 (MWa_0 cI cZ a u0) rfl 5 (by decide) (by decide +kernel) rfl (ty := .int) (by decide +kernel) rfl rfl (Nat.le_of_ble_eq_true rfl) (by rw [eu10]; exact MWs_0_5 cI cZ a u0 ((u0 0 5) + 1)) dX8_over_42 (fun H locs hw => ?_)
        refine lv_iconst (v := 1) hx hb dX8_over_45 (by decide) ?_
        exact r_zret (f := MW cI cZ a) hQ (by decide) h hw dX8_over_46
      · have h := itT c9 h
        exact J26 u0 _ _ _ h hw (lv_sub hl [0] rfl)
abbrev rmX8_last : Room := { frames := 0, cells := 0, slots := 0, locals := 0 }
theorem hiX8_last_X8 : ∀ w ∈ wsX80, w ∈ wsX8_last := by decide +kernel
set_option maxHeartbeats 4000000 in
set_option maxRecDepth 100000 in
theorem c_X8_last (l : Launch) (D : va_G) (cI cZ : ClassId) (z : Nat → Nat) (base : Nat) (a : Nat → Nat) (u0 : St) (ro : Int32) (h : F_X8_last u0 = some ro) : MI l D [(cI, .int), (cZ, .boolean)] z base yX8_last wsX8_last rmX8_last [.ref (a 0)] (MW cI cZ a u0) ro (MW cI cZ a u0) := by
  refine MI.ofI (own := RX8) (cc := cX8_last) (maxL := 1) (by decide) rfl rfl (Nat.le_of_ble_eq_true rfl) ?_
  intro p e s m args below meth c A Q ls C hl hw hQ
  have hx := C.1.1
  have hb := C.1.2.1
  have hl : lv_has ls 1 [(0, .ref (a 0))] := hl
  rw [F_X8_last] at h
  refine lv_aload_n hx hb dX8_last_0 rfl (lv_at hl 0 rfl) ?_
  refine r_get C hw hiX8_last_X8 0 (MWa_0 cI cZ a u0) rfl 2 (by decide) (by decide +kernel) rfl dX8_last_1 ?_
  refine lv_aload_n hx hb dX8_last_4 rfl (lv_at hl 0 rfl) ?_
  refine r_get C hw hiX8_last_X8 0 (MWa_0 cI cZ a u0) rfl 5 (by decide) (by decide +kernel) rfl dX8_last_5 ?_
  refine lv_iconst (v := 1) hx hb dX8_last_8 (by decide) ?_
  refine lv_isub hx hb dX8_last_9 ?_
  obtain ⟨g1, h⟩ := ixE h
  refine r_ald C hw 2 0 (MWa_2 cI cZ a u0) rfl g1 dX8_last_10 ?_
  exact r_iretP hQ h hw dX8_last_11
abbrev rmX8_two : Room := { frames := 0, cells := 0, slots := 0, locals := 0 }
theorem hiX8_two_X8 : ∀ w ∈ wsX80, w ∈ wsX8_two := by decide +kernel
set_option maxHeartbeats 4000000 in
set_option maxRecDepth 100000 in
theorem c_X8_two (l : Launch) (D : va_G) (cI cZ : ClassId) (z : Nat → Nat) (base : Nat) (a : Nat → Nat) (x1 : Int32) (u0 : St) (ro : Int32) (h : F_X8_two x1 u0 = some ro) : MI l D [(cI, .int), (cZ, .boolean)] z base yX8_two wsX8_two rmX8_two [.ref (a 0), .int x1] (MW cI cZ a u0) ro (MW cI cZ a u0) := by
  refine MI.ofI (own := RX8) (cc := cX8_two) (maxL := 2) (by decide) rfl rfl (Nat.le_of_ble_eq_true rfl) ?_
  intro p e s m args below meth c A Q ls C hl hw hQ
  have hx := C.1.1
  have hb := C.1.2.1
  have hl : lv_has ls 2 [(0, .ref (a 0)), (1, .int x1)] := hl
  rw [F_X8_two] at h
  refine lv_aload_n hx hb dX8_two_0 rfl (lv_at hl 0 rfl) ?_
  refine r_get C hw hiX8_two_X8 0 (MWa_0 cI cZ a u0) rfl 2 (by decide) (by decide +kernel) rfl dX8_two_1 ?_
  refine lv_iload_n hx hb dX8_two_4 rfl (lv_at hl 1 rfl) ?_
  obtain ⟨g1, h⟩ := ixE h
  refine r_ald C hw 2 0 (MWa_2 cI cZ a u0) rfl g1 dX8_two_5 ?_
  refine lv_bipush (v := 8) hx hb dX8_two_6 (by decide) ?_
  refine lv_ishl hx hb dX8_two_8 ?_
  refine lv_aload_n hx hb dX8_two_9 rfl (lv_at hl 0 rfl) ?_
  refine r_get C hw hiX8_two_X8 0 (MWa_0 cI cZ a u0) rfl 2 (by decide) (by decide +kernel) rfl dX8_two_10 ?_
  refine lv_iload_n hx hb dX8_two_13 rfl (lv_at hl 1 rfl) ?_
  refine lv_iconst (v := 1) hx hb dX8_two_14 (by decide) ?_
  refine lv_iadd hx hb dX8_two_15 ?_
  obtain ⟨g2, h⟩ := ixE h
  refine r_ald C hw 2 0 (MWa_2 cI cZ a u0) rfl g2 dX8_two_16 ?_
  refine lv_ior hx hb dX8_two_17 ?_
  exact r_iretP hQ h hw dX8_two_18
abbrev rmX8_overClass : Room := { frames := 2, cells := 0, slots := 0, locals := 43 }
theorem hiX8_overClass_X8 : ∀ w ∈ wsX80, w ∈ wsX8_overClass := by decide +kernel
set_option maxHeartbeats 4000000 in
set_option maxRecDepth 100000 in
theorem c_X8_overClass (l : Launch) (D : va_G) (cI cZ : ClassId) (z : Nat → Nat) (base : Nat) (a : Nat → Nat) (u0 : St) (ro : Int32) (uo : St) (h : F_X8_overClass u0 = some (ro, uo)) : MI l D [(cI, .int), (cZ, .boolean)] z base yX8_overClass wsX8_overClass rmX8_overClass [.ref (a 0)] (MW cI cZ a u0) ro (MW cI cZ a uo) := by
  refine MI.ofZ (own := RX8) (cc := cX8_overClass) (maxL := 1) (by decide) rfl rfl (Nat.le_of_ble_eq_true rfl) ?_
  intro p e s m args below meth c A Q ls C hl hw hQ
  have hx := C.1.1
  have hb := C.1.2.1
  have hl : lv_has ls 1 [(0, .ref (a 0))] := hl
  rw [F_X8_overClass] at h
  refine lv_aload_n hx hb dX8_overClass_0 rfl (lv_at hl 0 rfl) ?_
  refine lv_iconst (v := 0) hx hb dX8_overClass_1 (by decide) ?_
  refine lv_aload_n hx hb dX8_overClass_2 rfl (lv_at hl 0 rfl) ?_
  refine r_get C hw hiX8_overClass_X8 0 (MWa_0 cI cZ a u0) rfl 8 (by decide) (by decide +kernel) rfl dX8_overClass_3 ?_
  refine lv_iconst (v := 1) hx hb dX8_overClass_6 (by decide) ?_
  refine lv_isub hx hb dX8_overClass_7 ?_
  obtain ⟨r2, u3, h1, h⟩ := b2E h
  refine r_callV (rest := []) C hw (c_X8_over l D cI cZ z base a 0 ((u0 0 8) - 1) u0 r2 u3 h1) (cwV 2 C.1.2.2.2.2 gX8_overClass_X8_over rfl rfl rfl (by decide +kernel) ⟨Nat.le_of_ble_eq_true rfl, Nat.le_of_ble_eq_true rfl⟩) (va_recv C.2.1 hw.1 (ci := 7) (q0 := 0) rfl (MWa_0 cI cZ a u0)) rfl hl.1 rfl (Nat.le_of_ble_eq_true rfl) dX8_overClass_8 ⟨Nat.zero_le _, Nat.zero_le _⟩ (fun H locs hw => ?_)
  obtain ⟨g4, h⟩ := boE h
  exact r_zret (f := MW cI cZ a) hQ g4 h hw dX8_overClass_11
abbrev rmX8_overType : Room := { frames := 1, cells := 0, slots := 0, locals := 21 }
theorem hiX8_overType_X8 : ∀ w ∈ wsX80, w ∈ wsX8_overType := by decide +kernel
set_option maxHeartbeats 4000000 in
set_option maxRecDepth 100000 in
theorem c_X8_overType (l : Launch) (D : va_G) (cI cZ : ClassId) (z : Nat → Nat) (base : Nat) (a : Nat → Nat) (x1 : Int32) (u0 : St) (ro : Int32) (uo : St) (h : F_X8_overType x1 u0 = some (ro, uo)) : MI l D [(cI, .int), (cZ, .boolean)] z base yX8_overType wsX8_overType rmX8_overType [.ref (a 0), .int x1] (MW cI cZ a u0) ro (MW cI cZ a uo) := by
  refine MI.ofZ (own := RX8) (cc := cX8_overType) (maxL := 4) (by decide) rfl rfl (Nat.le_of_ble_eq_true rfl) ?_
  intro p e s m args below meth c A Q ls C hl hw hQ
  have hx := C.1.1
  have hb := C.1.2.1
  have J46 : ∀ (t0 : Int32) (u0 : St) (H : Heap) (locs : List Loc) (ls : Array Slot), F_X8_overType_46 t0 u0 = some (ro, uo) → Wd D A s.heap H locs (MW cI cZ a u0) → lv_has ls 4 [(0, .ref (a 0))] → W p l e rmX8_overType s m args below meth c H locs 0 0 Q (F0 m 46 ls [.int t0]) := by
    intro t0 u0 H locs ls h hw hl
    rw [F_X8_overType_46] at h
    refine lv_istore_n (lv' := [(3, .int t0), (0, .ref (a 0))]) hx hb dX8_overType_46 rfl hl (by decide) rfl (fun ls hl => ?_)
    refine lv_iload_n hx hb dX8_overType_47 rfl (lv_at hl 0 rfl) ?_
    refine lv_if_ne (tgt := 60) hx hb dX8_overType_48 (by decide) (fun c1 => ?_) (fun c1 => ?_)
    · have h := itF c1 h
      refine lv_aload_n hx hb dX8_overType_60 rfl (lv_at hl 1 rfl) ?_
      refine lv_dup hx hb dX8_overType_61 rfl ?_
      refine r_get C hw hiX8_overType_X8 0 (MWa_0 cI cZ a u0) rfl 5 (by decide) (by decide +kernel) rfl dX8_overType_62 ?_
      refine lv_iconst (v := 1) hx hb dX8_overType_65 (by decide) ?_
      refine lv_iadd hx hb dX8_overType_66 ?_
      obtain ⟨u2, eu2⟩ : ∃ y : St, y = st u0 0 5 ((u0 0 5) + 1) := ⟨_, rfl⟩
      have h := nmE eu2 h
      refine r_put (ws' := (MW cI cZ a u2)) C hw hiX8_overType_X8 tyX8 tyX8_ok nmX8 0 (MWa_0 cI cZ a u0) rfl 5 (by decide) (by decide +kernel) rfl (ty := .int) (by decide +kernel) rfl rfl (Nat.le_of_ble_eq_true rfl) (by rw [eu2]; exact MWs_0_5 cI cZ a u0 ((u0 0 5) + 1)) dX8_overType_67 (fun H locs hw => ?_)
      refine lv_iconst (v := 1) hx hb dX8_overType_70 (by decide) ?_
      exact r_zret (f := MW cI cZ a) hQ (by decide) h hw dX8_overType_71
    · have h := itT c1 h
      refine lv_aload_n hx hb dX8_overType_51 rfl (lv_at hl 1 rfl) ?_
      refine lv_aload_n hx hb dX8_overType_52 rfl (lv_at hl 1 rfl) ?_
      refine r_get C hw hiX8_overType_X8 0 (MWa_0 cI cZ a u0) rfl 5 (by decide) (by decide +kernel) rfl dX8_overType_53 ?_
      obtain ⟨r4, u5, h3, h⟩ := b2E h
      refine r_callV (rest := []) C hw (c_X8_bad l D cI cZ z base a (u0 0 5) u0 r4 u5 h3) (cwV 1 C.1.2.2.2.2 gX8_overType_X8_bad rfl rfl rfl (by decide +kernel) ⟨Nat.le_of_ble_eq_true rfl, Nat.le_of_ble_eq_true rfl⟩) (va_recv C.2.1 hw.1 (ci := 7) (q0 := 0) rfl (MWa_0 cI cZ a u0)) rfl hl.1 rfl (Nat.le_of_ble_eq_true rfl) dX8_overType_56 ⟨Nat.zero_le _, Nat.zero_le _⟩ (fun H locs hw => ?_)
      obtain ⟨g6, h⟩ := boE h
      exact r_zret (f := MW cI cZ a) hQ g6 h hw dX8_overType_59
  have J41 : ∀ (u0 : St) (H : Heap) (locs : List Loc) (ls : Array Slot), F_X8_overType_41 u0 = some (ro, uo) → Wd D A s.heap H locs (MW cI cZ a u0) → lv_has ls 4 [(0, .ref (a 0))] → W p l e rmX8_overType s m args below meth c H locs 0 0 Q (F0 m 41 ls []) := by
    intro u0 H locs ls h hw hl
    rw [F_X8_overType_41] at h
    refine lv_iconst (v := 1) hx hb dX8_overType_41 (by decide) ?_
    refine lv_goto (tgt := 46) hx hb dX8_overType_42 (by decide) ?_
    exact J46 1 u0 _ _ _ h hw hl
  have J45 : ∀ (u0 : St) (H : Heap) (locs : List Loc) (ls : Array Slot), F_X8_overType_45 u0 = some (ro, uo) → Wd D A s.heap H locs (MW cI cZ a u0) → lv_has ls 4 [(0, .ref (a 0))] → W p l e rmX8_overType s m args below meth c H locs 0 0 Q (F0 m 45 ls []) := by
    intro u0 H locs ls h hw hl
    rw [F_X8_overType_45] at h
    refine lv_iconst (v := 0) hx hb dX8_overType_45 (by decide) ?_
    exact J46 0 u0 _ _ _ h hw hl
  have J30 : ∀ (x1 x2 : Int32) (u0 : St) (H : Heap) (locs : List Loc) (ls : Array Slot), F_X8_overType_30 x1 x2 u0 = some (ro, uo) → Wd D A s.heap H locs (MW cI cZ a u0) → lv_has ls 4 [(0, .ref (a 0)), (1, .int x1), (2, .int x2)] → W p l e rmX8_overType s m args below meth c H locs 0 0 Q (F0 m 30 ls []) := by
    intro x1 x2 u0 H locs ls h hw hl
    rw [F_X8_overType_30] at h
    refine lv_iload_n hx hb dX8_overType_30 rfl (lv_at hl 1 rfl) ?_
    refine lv_if_eq (tgt := 45) hx hb dX8_overType_31 (by decide) (fun c1 => ?_) (fun c1 => ?_)
    · have h := itT c1 h
      exact J45 u0 _ _ _ h hw (lv_sub hl [0] rfl)
    · have h := itF c1 h
      refine lv_iload_n hx hb dX8_overType_34 rfl (lv_at hl 2 rfl) ?_
      refine lv_sipush (v := 255) hx hb dX8_overType_35 (by decide) ?_
      refine lv_icmp_ne (tgt := 45) hx hb dX8_overType_38 (by decide) (fun c2 => ?_) (fun c2 => ?_)
      · have h := itF c2 h
        exact J45 u0 _ _ _ h hw (lv_sub hl [0] rfl)
      · have h := itT c2 h
        exact J41 u0 _ _ _ h hw (lv_sub hl [0] rfl)
  have hl : lv_has ls 4 [(0, .ref (a 0)), (1, .int x1)] := hl
  rw [F_X8_overType] at h
  refine lv_aload_n hx hb dX8_overType_0 rfl (lv_at hl 0 rfl) ?_
  obtain ⟨r2, h1, h⟩ := b1E h
  refine r_callV (rest := []) C hw (c_X8_here l D cI cZ z base a u0 r2 h1) (cwV 0 C.1.2.2.2.2 gX8_overType_X8_here rfl rfl rfl (by decide +kernel) ⟨Nat.le_of_ble_eq_true rfl, Nat.le_of_ble_eq_true rfl⟩) (va_recv C.2.1 hw.1 (ci := 7) (q0 := 0) rfl (MWa_0 cI cZ a u0)) rfl hl.1 rfl (Nat.le_of_ble_eq_true rfl) dX8_overType_1 ⟨Nat.zero_le _, Nat.zero_le _⟩ (fun H locs hw => ?_)
  refine lv_istore_n (lv' := [(2, .int r2), (0, .ref (a 0)), (1, .int x1)]) hx hb dX8_overType_4 rfl hl (by decide) rfl (fun ls hl => ?_)
  refine lv_iload_n hx hb dX8_overType_5 rfl (lv_at hl 0 rfl) ?_
  refine lv_aload_n hx hb dX8_overType_6 rfl (lv_at hl 1 rfl) ?_
  refine r_get C hw hiX8_overType_X8 0 (MWa_0 cI cZ a u0) rfl 8 (by decide) (by decide +kernel) rfl dX8_overType_7 ?_
  refine lv_icmp_le (tgt := 41) hx hb dX8_overType_10 (by decide) (fun c3 => ?_) (fun c3 => ?_)
  · have h := itT c3 h
    exact J41 u0 _ _ _ h hw (lv_sub hl [1] rfl)
  · have h := itF c3 h
    refine lv_iload_n hx hb dX8_overType_13 rfl (lv_at hl 0 rfl) ?_
    refine lv_bipush (v := 64) hx hb dX8_overType_14 (by decide) ?_
    refine lv_icmp_lt (tgt := 30) hx hb dX8_overType_16 (by decide) (fun c4 => ?_) (fun c4 => ?_)
    · have h := itT c4 h
      exact J30 x1 r2 u0 _ _ _ h hw (lv_sub hl [1, 2, 0] rfl)
    · have h := itF c4 h
      refine lv_iload_n hx hb dX8_overType_19 rfl (lv_at hl 0 rfl) ?_
      refine lv_bipush (v := 64) hx hb dX8_overType_20 (by decide) ?_
      refine lv_aload_n hx hb dX8_overType_22 rfl (lv_at hl 1 rfl) ?_
      refine r_get C hw hiX8_overType_X8 0 (MWa_0 cI cZ a u0) rfl 8 (by decide) (by decide +kernel) rfl dX8_overType_23 ?_
      refine lv_iadd hx hb dX8_overType_26 ?_
      refine lv_icmp_le (tgt := 41) hx hb dX8_overType_27 (by decide) (fun c5 => ?_) (fun c5 => ?_)
      · have h := itT c5 h
        exact J41 u0 _ _ _ h hw (lv_sub hl [1] rfl)
      · have h := itF c5 h
        exact J30 x1 r2 u0 _ _ _ h hw (lv_sub hl [1, 2, 0] rfl)
