abbrev rmX8_readInstruction : Room := { frames := 3, cells := 0, slots := 0, locals := 63 }
theorem hiX8_readInstruction_X8 : ∀ w ∈ wsX80, w ∈ wsX8_readInstruction := by decide +kernel
set_option maxHeartbeats 4000000 in
set_option maxRecDepth 100000 in
theorem c_X8_readInstruction (l : Launch) (D : va_G) (cI cZ : ClassId) (z : Nat → Nat) (base : Nat) (a : Nat → Nat) (x1 : Int32) (x2 : Int32) (u0 : St) (ro : Int32) (uo : St) (h : F_X8_readInstruction x1 x2 u0 = some (ro, uo)) : MI l D [(cI, .int), (cZ, .boolean)] z base yX8_readInstruction wsX8_readInstruction rmX8_readInstruction [.ref (a 0), .int x1, .int x2] (MW cI cZ a u0) ro (MW cI cZ a uo) := by
  refine MI.ofZ (own := RX8) (cc := cX8_readInstruction) (maxL := 8) (by decide) rfl rfl (Nat.le_of_ble_eq_true rfl) ?_
  intro p e s m args below meth c A Q ls C hl hw hQ
  have hx := C.1.1
  have hb := C.1.2.1
  have J439 : ∀ (x3 x5 : Int32) (u0 : St) (H : Heap) (locs : List Loc) (ls : Array Slot), F_X8_readInstruction_439 x3 x5 u0 = some (ro, uo) → Wd D A s.heap H locs (MW cI cZ a u0) → lv_has ls 8 [(0, .ref (a 0)), (3, .int x3), (5, .int x5)] → W p l e rmX8_readInstruction s m args below meth c H locs 0 0 Q (F0 m 439 ls []) := by
    intro x3 x5 u0 H locs ls h hw hl
    rw [F_X8_readInstruction_439] at h
    refine lv_iload hx hb dX8_readInstruction_439 (lv_at hl 2 rfl) ?_
    refine lv_if_eq (tgt := 461) hx hb dX8_readInstruction_441 (by decide) (fun c1 => ?_) (fun c1 => ?_)
    · have h := itT c1 h
      refine lv_iload hx hb dX8_readInstruction_461 (lv_at hl 2 rfl) ?_
      obtain ⟨g2, h⟩ := boE h
      exact r_zret (f := MW cI cZ a) hQ g2 h hw dX8_readInstruction_463
    · have h := itF c1 h
      refine lv_aload_n hx hb dX8_readInstruction_444 rfl (lv_at hl 0 rfl) ?_
      refine r_get C hw hiX8_readInstruction_X8 0 (MWa_0 cI cZ a u0) rfl 3 (by decide) (by decide +kernel) rfl dX8_readInstruction_445 ?_
      refine lv_iload_n hx hb dX8_readInstruction_448 rfl (lv_at hl 1 rfl) ?_
      refine lv_iconst (v := 1) hx hb dX8_readInstruction_449 (by decide) ?_
      obtain ⟨g3, h⟩ := ixE h
      obtain ⟨u4, eu4⟩ : ∃ y : St, y = st u0 3 (x3).toNatClampNeg 1 := ⟨_, rfl⟩
      have h := nmE eu4 h
      refine r_zst (ws' := (MW cI cZ a u4)) C hw 3 1 (MWa_3 cI cZ a u0) rfl g3 rfl (by rw [eu4]; exact MWs_3 cI cZ a u0 _ 1) dX8_readInstruction_450 (fun H locs hw => ?_)
      refine lv_aload_n hx hb dX8_readInstruction_451 rfl (lv_at hl 0 rfl) ?_
      refine lv_dup hx hb dX8_readInstruction_452 rfl ?_
      refine r_get C hw hiX8_readInstruction_X8 0 (MWa_0 cI cZ a u4) rfl 26 (by decide) (by decide +kernel) rfl dX8_readInstruction_453 ?_
      refine lv_iconst (v := 1) hx hb dX8_readInstruction_456 (by decide) ?_
      refine lv_iadd hx hb dX8_readInstruction_457 ?_
      obtain ⟨u5, eu5⟩ : ∃ y : St, y = st u4 0 26 ((u4 0 26) + 1) := ⟨_, rfl⟩
      have h := nmE eu5 h
      refine r_put (ws' := (MW cI cZ a u5)) C hw hiX8_readInstruction_X8 tyX8 tyX8_ok nmX8 0 (MWa_0 cI cZ a u4) rfl 26 (by decide) (by decide +kernel) rfl (ty := .int) (by decide +kernel) rfl rfl (Nat.le_of_ble_eq_true rfl) (by rw [eu5]; exact MWs_0_26 cI cZ a u4 ((u4 0 26) + 1)) dX8_readInstruction_458 (fun H locs hw => ?_)
      refine lv_iload hx hb dX8_readInstruction_461 (lv_at hl 2 rfl) ?_
      obtain ⟨g6, h⟩ := boE h
      exact r_zret (f := MW cI cZ a) hQ g6 h hw dX8_readInstruction_463
  have J97 : ∀ (x3 t0 : Int32) (u0 : St) (H : Heap) (locs : List Loc) (ls : Array Slot), F_X8_readInstruction_97 x3 t0 u0 = some (ro, uo) → Wd D A s.heap H locs (MW cI cZ a u0) → lv_has ls 8 [(0, .ref (a 0)), (3, .int x3)] → W p l e rmX8_readInstruction s m args below meth c H locs 0 0 Q (F0 m 97 ls [.int t0]) := by
    intro x3 t0 u0 H locs ls h hw hl
    rw [F_X8_readInstruction_97] at h
    refine lv_istore (lv' := [(5, .int t0), (0, .ref (a 0)), (3, .int x3)]) hx hb dX8_readInstruction_97 hl (by decide) rfl (fun ls hl => ?_)
    refine lv_goto (tgt := 439) hx hb dX8_readInstruction_99 (by decide) ?_
    exact J439 x3 t0 u0 _ _ _ h hw (lv_sub hl [1, 2, 0] rfl)
  have J96 : ∀ (x3 : Int32) (u0 : St) (H : Heap) (locs : List Loc) (ls : Array Slot), F_X8_readInstruction_96 x3 u0 = some (ro, uo) → Wd D A s.heap H locs (MW cI cZ a u0) → lv_has ls 8 [(0, .ref (a 0)), (3, .int x3)] → W p l e rmX8_readInstruction s m args below meth c H locs 0 0 Q (F0 m 96 ls []) := by
    intro x3 u0 H locs ls h hw hl
    rw [F_X8_readInstruction_96] at h
    refine lv_iconst (v := 0) hx hb dX8_readInstruction_96 (by decide) ?_
    exact J97 x3 0 u0 _ _ _ h hw hl
  have J114 : ∀ (x1 x3 : Int32) (u0 : St) (H : Heap) (locs : List Loc) (ls : Array Slot), F_X8_readInstruction_114 x1 x3 u0 = some (ro, uo) → Wd D A s.heap H locs (MW cI cZ a u0) → lv_has ls 8 [(0, .ref (a 0)), (1, .int x1), (3, .int x3)] → W p l e rmX8_readInstruction s m args below meth c H locs 0 0 Q (F0 m 114 ls []) := by
    intro x1 x3 u0 H locs ls h hw hl
    rw [F_X8_readInstruction_114] at h
    refine lv_aload_n hx hb dX8_readInstruction_114 rfl (lv_at hl 0 rfl) ?_
    refine lv_iconst (v := 0) hx hb dX8_readInstruction_115 (by decide) ?_
    refine lv_aload_n hx hb dX8_readInstruction_116 rfl (lv_at hl 0 rfl) ?_
    refine r_get C hw hiX8_readInstruction_X8 0 (MWa_0 cI cZ a u0) rfl 20 (by decide) (by decide +kernel) rfl dX8_readInstruction_117 ?_
    refine lv_iload_n hx hb dX8_readInstruction_120 rfl (lv_at hl 1 rfl) ?_
    obtain ⟨g1, h⟩ := ixE h
    refine r_ald C hw 14 0 (MWa_14 cI cZ a u0) rfl g1 dX8_readInstruction_121 ?_
    refine lv_iconst (v := 1) hx hb dX8_readInstruction_122 (by decide) ?_
    refine lv_isub hx hb dX8_readInstruction_123 ?_
    obtain ⟨r3, u4, h2, h⟩ := b2E h
    refine r_callV (rest := []) C hw (c_X8_over l D cI cZ z base a 0 ((u0 14 (x1).toNatClampNeg) - 1) u0 r3 u4 h2) (cwV 2 C.1.2.2.2.2 gX8_readInstruction_X8_over rfl rfl rfl (by decide +kernel) ⟨Nat.le_of_ble_eq_true rfl, Nat.le_of_ble_eq_true rfl⟩) (va_recv C.2.1 hw.1 (ci := 7) (q0 := 0) rfl (MWa_0 cI cZ a u0)) rfl hl.1 rfl (Nat.le_of_ble_eq_true rfl) dX8_readInstruction_124 ⟨Nat.zero_le _, Nat.zero_le _⟩ (fun H locs hw => ?_)
    refine lv_istore (lv' := [(5, .int r3), (0, .ref (a 0)), (1, .int x1), (3, .int x3)]) hx hb dX8_readInstruction_127 hl (by decide) rfl (fun ls hl => ?_)
    refine lv_goto (tgt := 439) hx hb dX8_readInstruction_129 (by decide) ?_
    exact J439 x3 r3 u4 _ _ _ h hw (lv_sub hl [1, 3, 0] rfl)
  have J182 : ∀ (x3 t0 : Int32) (u0 : St) (H : Heap) (locs : List Loc) (ls : Array Slot), F_X8_readInstruction_182 x3 t0 u0 = some (ro, uo) → Wd D A s.heap H locs (MW cI cZ a u0) → lv_has ls 8 [(0, .ref (a 0)), (3, .int x3)] → W p l e rmX8_readInstruction s m args below meth c H locs 0 0 Q (F0 m 182 ls [.int t0]) := by
    intro x3 t0 u0 H locs ls h hw hl
    rw [F_X8_readInstruction_182] at h
    refine lv_istore (lv' := [(5, .int t0), (0, .ref (a 0)), (3, .int x3)]) hx hb dX8_readInstruction_182 hl (by decide) rfl (fun ls hl => ?_)
    refine lv_goto (tgt := 439) hx hb dX8_readInstruction_184 (by decide) ?_
    exact J439 x3 t0 u0 _ _ _ h hw (lv_sub hl [1, 2, 0] rfl)
  have J181 : ∀ (x3 : Int32) (u0 : St) (H : Heap) (locs : List Loc) (ls : Array Slot), F_X8_readInstruction_181 x3 u0 = some (ro, uo) → Wd D A s.heap H locs (MW cI cZ a u0) → lv_has ls 8 [(0, .ref (a 0)), (3, .int x3)] → W p l e rmX8_readInstruction s m args below meth c H locs 0 0 Q (F0 m 181 ls []) := by
    intro x3 u0 H locs ls h hw hl
    rw [F_X8_readInstruction_181] at h
    refine lv_iconst (v := 0) hx hb dX8_readInstruction_181 (by decide) ?_
    exact J182 x3 0 u0 _ _ _ h hw hl
  have J146 : ∀ (x3 : Int32) (u0 : St) (H : Heap) (locs : List Loc) (ls : Array Slot), F_X8_readInstruction_146 x3 u0 = some (ro, uo) → Wd D A s.heap H locs (MW cI cZ a u0) → lv_has ls 8 [(0, .ref (a 0)), (3, .int x3)] → W p l e rmX8_readInstruction s m args below meth c H locs 0 0 Q (F0 m 146 ls []) := by
    intro x3 u0 H locs ls h hw hl
    rw [F_X8_readInstruction_146] at h
    refine lv_aload_n hx hb dX8_readInstruction_146 rfl (lv_at hl 0 rfl) ?_
    refine lv_iconst (v := 0) hx hb dX8_readInstruction_147 (by decide) ?_
    refine lv_iconst (v := 5) hx hb dX8_readInstruction_148 (by decide) ?_
    obtain ⟨r2, u3, h1, h⟩ := b2E h
    refine r_callV (rest := []) C hw (c_X8_over l D cI cZ z base a 0 5 u0 r2 u3 h1) (cwV 2 C.1.2.2.2.2 gX8_readInstruction_X8_over rfl rfl rfl (by decide +kernel) ⟨Nat.le_of_ble_eq_true rfl, Nat.le_of_ble_eq_true rfl⟩) (va_recv C.2.1 hw.1 (ci := 7) (q0 := 0) rfl (MWa_0 cI cZ a u0)) rfl hl.1 rfl (Nat.le_of_ble_eq_true rfl) dX8_readInstruction_149 ⟨Nat.zero_le _, Nat.zero_le _⟩ (fun H locs hw => ?_)
    refine lv_if_eq (tgt := 181) hx hb dX8_readInstruction_152 (by decide) (fun c4 => ?_) (fun c4 => ?_)
    · have h := itT c4 h
      exact J181 x3 u3 _ _ _ h hw hl
    · have h := itF c4 h
      refine lv_aload_n hx hb dX8_readInstruction_155 rfl (lv_at hl 0 rfl) ?_
      refine lv_iconst (v := 0) hx hb dX8_readInstruction_156 (by decide) ?_
      refine lv_sipush (v := 255) hx hb dX8_readInstruction_157 (by decide) ?_
      obtain ⟨r6, u7, h5, h⟩ := b2E h
      refine r_callV (rest := []) C hw (c_X8_over l D cI cZ z base a 0 255 u3 r6 u7 h5) (cwV 2 C.1.2.2.2.2 gX8_readInstruction_X8_over rfl rfl rfl (by decide +kernel) ⟨Nat.le_of_ble_eq_true rfl, Nat.le_of_ble_eq_true rfl⟩) (va_recv C.2.1 hw.1 (ci := 7) (q0 := 0) rfl (MWa_0 cI cZ a u3)) rfl hl.1 rfl (Nat.le_of_ble_eq_true rfl) dX8_readInstruction_160 ⟨Nat.zero_le _, Nat.zero_le _⟩ (fun H locs hw => ?_)
      refine lv_if_eq (tgt := 181) hx hb dX8_readInstruction_163 (by decide) (fun c8 => ?_) (fun c8 => ?_)
      · have h := itT c8 h
        exact J181 x3 u7 _ _ _ h hw hl
      · have h := itF c8 h
        refine lv_aload_n hx hb dX8_readInstruction_166 rfl (lv_at hl 0 rfl) ?_
        refine lv_iconst (v := 0) hx hb dX8_readInstruction_167 (by decide) ?_
        refine lv_sipush (v := 255) hx hb dX8_readInstruction_168 (by decide) ?_
        obtain ⟨r10, u11, h9, h⟩ := b2E h
        refine r_callV (rest := []) C hw (c_X8_over l D cI cZ z base a 0 255 u7 r10 u11 h9) (cwV 2 C.1.2.2.2.2 gX8_readInstruction_X8_over rfl rfl rfl (by decide +kernel) ⟨Nat.le_of_ble_eq_true rfl, Nat.le_of_ble_eq_true rfl⟩) (va_recv C.2.1 hw.1 (ci := 7) (q0 := 0) rfl (MWa_0 cI cZ a u7)) rfl hl.1 rfl (Nat.le_of_ble_eq_true rfl) dX8_readInstruction_171 ⟨Nat.zero_le _, Nat.zero_le _⟩ (fun H locs hw => ?_)
        refine lv_if_eq (tgt := 181) hx hb dX8_readInstruction_174 (by decide) (fun c12 => ?_) (fun c12 => ?_)
        · have h := itT c12 h
          exact J181 x3 u11 _ _ _ h hw hl
        · have h := itF c12 h
          refine lv_iconst (v := 1) hx hb dX8_readInstruction_177 (by decide) ?_
          refine lv_goto (tgt := 182) hx hb dX8_readInstruction_178 (by decide) ?_
          exact J182 x3 1 u11 _ _ _ h hw hl
  have J228 : ∀ (x3 t0 : Int32) (u0 : St) (H : Heap) (locs : List Loc) (ls : Array Slot), F_X8_readInstruction_228 x3 t0 u0 = some (ro, uo) → Wd D A s.heap H locs (MW cI cZ a u0) → lv_has ls 8 [(0, .ref (a 0)), (3, .int x3)] → W p l e rmX8_readInstruction s m args below meth c H locs 0 0 Q (F0 m 228 ls [.int t0]) := by
    intro x3 t0 u0 H locs ls h hw hl
    rw [F_X8_readInstruction_228] at h
    refine lv_istore (lv' := [(5, .int t0), (0, .ref (a 0)), (3, .int x3)]) hx hb dX8_readInstruction_228 hl (by decide) rfl (fun ls hl => ?_)
    refine lv_goto (tgt := 439) hx hb dX8_readInstruction_230 (by decide) ?_
    exact J439 x3 t0 u0 _ _ _ h hw (lv_sub hl [1, 2, 0] rfl)
  have J227 : ∀ (x3 : Int32) (u0 : St) (H : Heap) (locs : List Loc) (ls : Array Slot), F_X8_readInstruction_227 x3 u0 = some (ro, uo) → Wd D A s.heap H locs (MW cI cZ a u0) → lv_has ls 8 [(0, .ref (a 0)), (3, .int x3)] → W p l e rmX8_readInstruction s m args below meth c H locs 0 0 Q (F0 m 227 ls []) := by
    intro x3 u0 H locs ls h hw hl
    rw [F_X8_readInstruction_227] at h
    refine lv_iconst (v := 0) hx hb dX8_readInstruction_227 (by decide) ?_
    exact J228 x3 0 u0 _ _ _ h hw hl
  have J254 : ∀ (x3 : Int32) (u0 : St) (H : Heap) (locs : List Loc) (ls : Array Slot), F_X8_readInstruction_254 x3 u0 = some (ro, uo) → Wd D A s.heap H locs (MW cI cZ a u0) → lv_has ls 8 [(0, .ref (a 0)), (3, .int x3)] → W p l e rmX8_readInstruction s m args below meth c H locs 0 0 Q (F0 m 254 ls []) := by
    intro x3 u0 H locs ls h hw hl
    rw [F_X8_readInstruction_254] at h
    refine lv_aload_n hx hb dX8_readInstruction_254 rfl (lv_at hl 0 rfl) ?_
    obtain ⟨r2, u3, h1, h⟩ := b2E h
    refine r_callV (rest := []) C hw (c_X8_overClass l D cI cZ z base a u0 r2 u3 h1) (cwV 0 C.1.2.2.2.2 gX8_readInstruction_X8_overClass rfl rfl rfl (by decide +kernel) ⟨Nat.le_of_ble_eq_true rfl, Nat.le_of_ble_eq_true rfl⟩) (va_recv C.2.1 hw.1 (ci := 7) (q0 := 0) rfl (MWa_0 cI cZ a u0)) rfl hl.1 rfl (Nat.le_of_ble_eq_true rfl) dX8_readInstruction_255 ⟨Nat.zero_le _, Nat.zero_le _⟩ (fun H locs hw => ?_)
    refine lv_istore (lv' := [(5, .int r2), (0, .ref (a 0)), (3, .int x3)]) hx hb dX8_readInstruction_258 hl (by decide) rfl (fun ls hl => ?_)
    refine lv_goto (tgt := 439) hx hb dX8_readInstruction_260 (by decide) ?_
    exact J439 x3 r2 u3 _ _ _ h hw (lv_sub hl [1, 2, 0] rfl)
  have J308 : ∀ (x3 t0 : Int32) (u0 : St) (H : Heap) (locs : List Loc) (ls : Array Slot), F_X8_readInstruction_308 x3 t0 u0 = some (ro, uo) → Wd D A s.heap H locs (MW cI cZ a u0) → lv_has ls 8 [(0, .ref (a 0)), (3, .int x3)] → W p l e rmX8_readInstruction s m args below meth c H locs 0 0 Q (F0 m 308 ls [.int t0]) := by
    intro x3 t0 u0 H locs ls h hw hl
    rw [F_X8_readInstruction_308] at h
    refine lv_istore (lv' := [(5, .int t0), (0, .ref (a 0)), (3, .int x3)]) hx hb dX8_readInstruction_308 hl (by decide) rfl (fun ls hl => ?_)
    refine lv_goto (tgt := 439) hx hb dX8_readInstruction_310 (by decide) ?_
    exact J439 x3 t0 u0 _ _ _ h hw (lv_sub hl [1, 2, 0] rfl)
  have J307 : ∀ (x3 : Int32) (u0 : St) (H : Heap) (locs : List Loc) (ls : Array Slot), F_X8_readInstruction_307 x3 u0 = some (ro, uo) → Wd D A s.heap H locs (MW cI cZ a u0) → lv_has ls 8 [(0, .ref (a 0)), (3, .int x3)] → W p l e rmX8_readInstruction s m args below meth c H locs 0 0 Q (F0 m 307 ls []) := by
    intro x3 u0 H locs ls h hw hl
    rw [F_X8_readInstruction_307] at h
    refine lv_iconst (v := 0) hx hb dX8_readInstruction_307 (by decide) ?_
    exact J308 x3 0 u0 _ _ _ h hw hl
  have J277 : ∀ (x3 : Int32) (u0 : St) (H : Heap) (locs : List Loc) (ls : Array Slot), F_X8_readInstruction_277 x3 u0 = some (ro, uo) → Wd D A s.heap H locs (MW cI cZ a u0) → lv_has ls 8 [(0, .ref (a 0)), (3, .int x3)] → W p l e rmX8_readInstruction s m args below meth c H locs 0 0 Q (F0 m 277 ls []) := by
    intro x3 u0 H locs ls h hw hl
    rw [F_X8_readInstruction_277] at h
    refine lv_aload_n hx hb dX8_readInstruction_277 rfl (lv_at hl 0 rfl) ?_
    obtain ⟨r2, u3, h1, h⟩ := b2E h
    refine r_callV (rest := []) C hw (c_X8_overClass l D cI cZ z base a u0 r2 u3 h1) (cwV 0 C.1.2.2.2.2 gX8_readInstruction_X8_overClass rfl rfl rfl (by decide +kernel) ⟨Nat.le_of_ble_eq_true rfl, Nat.le_of_ble_eq_true rfl⟩) (va_recv C.2.1 hw.1 (ci := 7) (q0 := 0) rfl (MWa_0 cI cZ a u0)) rfl hl.1 rfl (Nat.le_of_ble_eq_true rfl) dX8_readInstruction_278 ⟨Nat.zero_le _, Nat.zero_le _⟩ (fun H locs hw => ?_)
    refine lv_if_eq (tgt := 307) hx hb dX8_readInstruction_281 (by decide) (fun c4 => ?_) (fun c4 => ?_)
    · have h := itT c4 h
      exact J307 x3 u3 _ _ _ h hw hl
    · have h := itF c4 h
      refine lv_aload_n hx hb dX8_readInstruction_284 rfl (lv_at hl 0 rfl) ?_
      refine lv_iconst (v := 0) hx hb dX8_readInstruction_285 (by decide) ?_
      refine lv_aload_n hx hb dX8_readInstruction_286 rfl (lv_at hl 0 rfl) ?_
      refine r_get C hw hiX8_readInstruction_X8 0 (MWa_0 cI cZ a u3) rfl 10 (by decide) (by decide +kernel) rfl dX8_readInstruction_287 ?_
      refine lv_aload_n hx hb dX8_readInstruction_290 rfl (lv_at hl 0 rfl) ?_
      obtain ⟨r6, h5, h⟩ := b1E h
      refine r_callV (rest := [.ref (a 5), .int 0, .ref (a 0)]) C hw (c_X8_last l D cI cZ z base a u3 r6 h5) (cwV 0 C.1.2.2.2.2 gX8_readInstruction_X8_last rfl rfl rfl (by decide +kernel) ⟨Nat.le_of_ble_eq_true rfl, Nat.le_of_ble_eq_true rfl⟩) (va_recv C.2.1 hw.1 (ci := 7) (q0 := 0) rfl (MWa_0 cI cZ a u3)) rfl hl.1 rfl (Nat.le_of_ble_eq_true rfl) dX8_readInstruction_291 ⟨Nat.zero_le _, Nat.zero_le _⟩ (fun H locs hw => ?_)
      obtain ⟨g7, h⟩ := ixE h
      refine r_ald C hw 5 0 (MWa_5 cI cZ a u3) rfl g7 dX8_readInstruction_294 ?_
      refine lv_iconst (v := 1) hx hb dX8_readInstruction_295 (by decide) ?_
      refine lv_isub hx hb dX8_readInstruction_296 ?_
      obtain ⟨r9, u10, h8, h⟩ := b2E h
      refine r_callV (rest := []) C hw (c_X8_over l D cI cZ z base a 0 ((u3 5 (r6).toNatClampNeg) - 1) u3 r9 u10 h8) (cwV 2 C.1.2.2.2.2 gX8_readInstruction_X8_over rfl rfl rfl (by decide +kernel) ⟨Nat.le_of_ble_eq_true rfl, Nat.le_of_ble_eq_true rfl⟩) (va_recv C.2.1 hw.1 (ci := 7) (q0 := 0) rfl (MWa_0 cI cZ a u3)) rfl hl.1 rfl (Nat.le_of_ble_eq_true rfl) dX8_readInstruction_297 ⟨Nat.zero_le _, Nat.zero_le _⟩ (fun H locs hw => ?_)
      refine lv_if_eq (tgt := 307) hx hb dX8_readInstruction_300 (by decide) (fun c11 => ?_) (fun c11 => ?_)
      · have h := itT c11 h
        exact J307 x3 u10 _ _ _ h hw hl
      · have h := itF c11 h
        refine lv_iconst (v := 1) hx hb dX8_readInstruction_303 (by decide) ?_
        refine lv_goto (tgt := 308) hx hb dX8_readInstruction_304 (by decide) ?_
        exact J308 x3 1 u10 _ _ _ h hw hl
  have J437 : ∀ (x3 t0 : Int32) (u0 : St) (H : Heap) (locs : List Loc) (ls : Array Slot), F_X8_readInstruction_437 x3 t0 u0 = some (ro, uo) → Wd D A s.heap H locs (MW cI cZ a u0) → lv_has ls 8 [(0, .ref (a 0)), (3, .int x3)] → W p l e rmX8_readInstruction s m args below meth c H locs 0 0 Q (F0 m 437 ls [.int t0]) := by
    intro x3 t0 u0 H locs ls h hw hl
    rw [F_X8_readInstruction_437] at h
    refine lv_istore (lv' := [(5, .int t0), (0, .ref (a 0)), (3, .int x3)]) hx hb dX8_readInstruction_437 hl (by decide) rfl (fun ls hl => ?_)
    exact J439 x3 t0 u0 _ _ _ h hw (lv_sub hl [1, 2, 0] rfl)
  have J411 : ∀ (x3 t0 : Int32) (u0 : St) (H : Heap) (locs : List Loc) (ls : Array Slot), F_X8_readInstruction_411 x3 t0 u0 = some (ro, uo) → Wd D A s.heap H locs (MW cI cZ a u0) → lv_has ls 8 [(0, .ref (a 0)), (3, .int x3)] → W p l e rmX8_readInstruction s m args below meth c H locs 0 0 Q (F0 m 411 ls [.int t0]) := by
    intro x3 t0 u0 H locs ls h hw hl
    rw [F_X8_readInstruction_411] at h
    refine lv_istore (lv' := [(7, .int t0), (0, .ref (a 0)), (3, .int x3)]) hx hb dX8_readInstruction_411 hl (by decide) rfl (fun ls hl => ?_)
    refine lv_iload hx hb dX8_readInstruction_413 (lv_at hl 0 rfl) ?_
    refine lv_if_eq (tgt := 429) hx hb dX8_readInstruction_415 (by decide) (fun c1 => ?_) (fun c1 => ?_)
    · have h := itT c1 h
      refine lv_aload_n hx hb dX8_readInstruction_429 rfl (lv_at hl 1 rfl) ?_
      refine lv_aload_n hx hb dX8_readInstruction_430 rfl (lv_at hl 1 rfl) ?_
      refine r_get C hw hiX8_readInstruction_X8 0 (MWa_0 cI cZ a u0) rfl 5 (by decide) (by decide +kernel) rfl dX8_readInstruction_431 ?_
      obtain ⟨r3, u4, h2, h⟩ := b2E h
      refine r_callV (rest := []) C hw (c_X8_bad l D cI cZ z base a (u0 0 5) u0 r3 u4 h2) (cwV 1 C.1.2.2.2.2 gX8_readInstruction_X8_bad rfl rfl rfl (by decide +kernel) ⟨Nat.le_of_ble_eq_true rfl, Nat.le_of_ble_eq_true rfl⟩) (va_recv C.2.1 hw.1 (ci := 7) (q0 := 0) rfl (MWa_0 cI cZ a u0)) rfl hl.1 rfl (Nat.le_of_ble_eq_true rfl) dX8_readInstruction_434 ⟨Nat.zero_le _, Nat.zero_le _⟩ (fun H locs hw => ?_)
      exact J437 x3 r3 u4 _ _ _ h hw (lv_sub hl [1, 2] rfl)
    · have h := itF c1 h
      refine lv_aload_n hx hb dX8_readInstruction_418 rfl (lv_at hl 1 rfl) ?_
      refine lv_iconst (v := 0) hx hb dX8_readInstruction_419 (by decide) ?_
      refine lv_sipush (v := 255) hx hb dX8_readInstruction_420 (by decide) ?_
      obtain ⟨r6, u7, h5, h⟩ := b2E h
      refine r_callV (rest := []) C hw (c_X8_over l D cI cZ z base a 0 255 u0 r6 u7 h5) (cwV 2 C.1.2.2.2.2 gX8_readInstruction_X8_over rfl rfl rfl (by decide +kernel) ⟨Nat.le_of_ble_eq_true rfl, Nat.le_of_ble_eq_true rfl⟩) (va_recv C.2.1 hw.1 (ci := 7) (q0 := 0) rfl (MWa_0 cI cZ a u0)) rfl hl.1 rfl (Nat.le_of_ble_eq_true rfl) dX8_readInstruction_423 ⟨Nat.zero_le _, Nat.zero_le _⟩ (fun H locs hw => ?_)
      refine lv_goto (tgt := 437) hx hb dX8_readInstruction_426 (by decide) ?_
      exact J437 x3 r6 u7 _ _ _ h hw (lv_sub hl [1, 2] rfl)
  have J410 : ∀ (x3 : Int32) (u0 : St) (H : Heap) (locs : List Loc) (ls : Array Slot), F_X8_readInstruction_410 x3 u0 = some (ro, uo) → Wd D A s.heap H locs (MW cI cZ a u0) → lv_has ls 8 [(0, .ref (a 0)), (3, .int x3)] → W p l e rmX8_readInstruction s m args below meth c H locs 0 0 Q (F0 m 410 ls []) := by
    intro x3 u0 H locs ls h hw hl
    rw [F_X8_readInstruction_410] at h
    refine lv_iconst (v := 0) hx hb dX8_readInstruction_410 (by decide) ?_
    exact J411 x3 0 u0 _ _ _ h hw hl
  have J233 : ∀ (x3 x4 x5 : Int32) (u0 : St) (H : Heap) (locs : List Loc) (ls : Array Slot), F_X8_readInstruction_233 x3 x4 x5 u0 = some (ro, uo) → Wd D A s.heap H locs (MW cI cZ a u0) → lv_has ls 8 [(0, .ref (a 0)), (3, .int x3), (4, .int x4), (5, .int x5)] → W p l e rmX8_readInstruction s m args below meth c H locs 0 0 Q (F0 m 233 ls []) := by
    intro x3 x4 x5 u0 H locs ls h hw hl
    rw [F_X8_readInstruction_233] at h
    refine lv_iload hx hb dX8_readInstruction_233 (lv_at hl 2 rfl) ?_
    refine lv_bipush (v := 26) hx hb dX8_readInstruction_235 (by decide) ?_
    refine lv_icmp_eq (tgt := 254) hx hb dX8_readInstruction_237 (by decide) (fun c1 => ?_) (fun c1 => ?_)
    · have h := itT c1 h
      exact J254 x3 u0 _ _ _ h hw (lv_sub hl [0, 1] rfl)
    · have h := itF c1 h
      refine lv_iload hx hb dX8_readInstruction_240 (lv_at hl 2 rfl) ?_
      refine lv_bipush (v := 29) hx hb dX8_readInstruction_242 (by decide) ?_
      refine lv_icmp_eq (tgt := 254) hx hb dX8_readInstruction_244 (by decide) (fun c2 => ?_) (fun c2 => ?_)
      · have h := itT c2 h
        exact J254 x3 u0 _ _ _ h hw (lv_sub hl [0, 1] rfl)
      · have h := itF c2 h
        refine lv_iload hx hb dX8_readInstruction_247 (lv_at hl 2 rfl) ?_
        refine lv_bipush (v := 30) hx hb dX8_readInstruction_249 (by decide) ?_
        refine lv_icmp_ne (tgt := 263) hx hb dX8_readInstruction_251 (by decide) (fun c3 => ?_) (fun c3 => ?_)
        · have h := itF c3 h
          refine lv_iload hx hb dX8_readInstruction_263 (lv_at hl 2 rfl) ?_
          refine lv_bipush (v := 27) hx hb dX8_readInstruction_265 (by decide) ?_
          refine lv_icmp_eq (tgt := 277) hx hb dX8_readInstruction_267 (by decide) (fun c4 => ?_) (fun c4 => ?_)
          · have h := itT c4 h
            exact J277 x3 u0 _ _ _ h hw (lv_sub hl [0, 1] rfl)
          · have h := itF c4 h
            refine lv_iload hx hb dX8_readInstruction_270 (lv_at hl 2 rfl) ?_
            refine lv_bipush (v := 28) hx hb dX8_readInstruction_272 (by decide) ?_
            refine lv_icmp_ne (tgt := 313) hx hb dX8_readInstruction_274 (by decide) (fun c5 => ?_) (fun c5 => ?_)
            · have h := itF c5 h
              refine lv_iload hx hb dX8_readInstruction_313 (lv_at hl 2 rfl) ?_
              refine lv_bipush (v := 31) hx hb dX8_readInstruction_315 (by decide) ?_
              refine lv_icmp_ne (tgt := 334) hx hb dX8_readInstruction_317 (by decide) (fun c6 => ?_) (fun c6 => ?_)
              · have h := itF c6 h
                refine lv_iload hx hb dX8_readInstruction_334 (lv_at hl 2 rfl) ?_
                refine lv_bipush (v := 35) hx hb dX8_readInstruction_336 (by decide) ?_
                refine lv_icmp_ne (tgt := 354) hx hb dX8_readInstruction_338 (by decide) (fun c7 => ?_) (fun c7 => ?_)
                · have h := itF c7 h
                  refine lv_iload hx hb dX8_readInstruction_354 (lv_at hl 2 rfl) ?_
                  refine lv_bipush (v := 36) hx hb dX8_readInstruction_356 (by decide) ?_
                  refine lv_icmp_ne (tgt := 439) hx hb dX8_readInstruction_358 (by decide) (fun c8 => ?_) (fun c8 => ?_)
                  · have h := itF c8 h
                    exact J439 x3 x5 u0 _ _ _ h hw (lv_sub hl [0, 1, 3] rfl)
                  · have h := itT c8 h
                    refine lv_aload_n hx hb dX8_readInstruction_361 rfl (lv_at hl 0 rfl) ?_
                    obtain ⟨r10, u11, h9, h⟩ := b2E h
                    refine r_callV (rest := []) C hw (c_X8_overClass l D cI cZ z base a u0 r10 u11 h9) (cwV 0 C.1.2.2.2.2 gX8_readInstruction_X8_overClass rfl rfl rfl (by decide +kernel) ⟨Nat.le_of_ble_eq_true rfl, Nat.le_of_ble_eq_true rfl⟩) (va_recv C.2.1 hw.1 (ci := 7) (q0 := 0) rfl (MWa_0 cI cZ a u0)) rfl hl.1 rfl (Nat.le_of_ble_eq_true rfl) dX8_readInstruction_362 ⟨Nat.zero_le _, Nat.zero_le _⟩ (fun H locs hw => ?_)
                    refine lv_istore (lv' := [(5, .int r10), (0, .ref (a 0)), (3, .int x3), (4, .int x4)]) hx hb dX8_readInstruction_365 hl (by decide) rfl (fun ls hl => ?_)
                    refine lv_iload hx hb dX8_readInstruction_367 (lv_at hl 0 rfl) ?_
                    refine lv_if_eq (tgt := 439) hx hb dX8_readInstruction_369 (by decide) (fun c12 => ?_) (fun c12 => ?_)
                    · have h := itT c12 h
                      exact J439 x3 r10 u11 _ _ _ h hw (lv_sub hl [1, 2, 0] rfl)
                    · have h := itF c12 h
                      refine lv_aload_n hx hb dX8_readInstruction_372 rfl (lv_at hl 1 rfl) ?_
                      obtain ⟨r14, h13, h⟩ := b1E h
                      refine r_callV (rest := []) C hw (c_X8_last l D cI cZ z base a u11 r14 h13) (cwV 0 C.1.2.2.2.2 gX8_readInstruction_X8_last rfl rfl rfl (by decide +kernel) ⟨Nat.le_of_ble_eq_true rfl, Nat.le_of_ble_eq_true rfl⟩) (va_recv C.2.1 hw.1 (ci := 7) (q0 := 0) rfl (MWa_0 cI cZ a u11)) rfl hl.1 rfl (Nat.le_of_ble_eq_true rfl) dX8_readInstruction_373 ⟨Nat.zero_le _, Nat.zero_le _⟩ (fun H locs hw => ?_)
                      refine lv_istore (lv' := [(6, .int r14), (5, .int r10), (0, .ref (a 0)), (3, .int x3), (4, .int x4)]) hx hb dX8_readInstruction_376 hl (by decide) rfl (fun ls hl => ?_)
                      refine lv_aload_n hx hb dX8_readInstruction_378 rfl (lv_at hl 2 rfl) ?_
                      obtain ⟨r16, h15, h⟩ := b1E h
                      refine r_callV (rest := []) C hw (c_X8_here l D cI cZ z base a u11 r16 h15) (cwV 0 C.1.2.2.2.2 gX8_readInstruction_X8_here rfl rfl rfl (by decide +kernel) ⟨Nat.le_of_ble_eq_true rfl, Nat.le_of_ble_eq_true rfl⟩) (va_recv C.2.1 hw.1 (ci := 7) (q0 := 0) rfl (MWa_0 cI cZ a u11)) rfl hl.1 rfl (Nat.le_of_ble_eq_true rfl) dX8_readInstruction_379 ⟨Nat.zero_le _, Nat.zero_le _⟩ (fun H locs hw => ?_)
                      refine lv_bipush (v := 16) hx hb dX8_readInstruction_382 (by decide) ?_
                      refine lv_icmp_ge (tgt := 410) hx hb dX8_readInstruction_384 (by decide) (fun c17 => ?_) (fun c17 => ?_)
                      · have h := itT c17 h
                        exact J410 x3 u11 _ _ _ h hw (lv_sub hl [2, 3] rfl)
                      · have h := itF c17 h
                        refine lv_aload_n hx hb dX8_readInstruction_387 rfl (lv_at hl 2 rfl) ?_
                        refine r_get C hw hiX8_readInstruction_X8 0 (MWa_0 cI cZ a u11) rfl 12 (by decide) (by decide +kernel) rfl dX8_readInstruction_388 ?_
                        refine lv_bipush (v := 16) hx hb dX8_readInstruction_391 (by decide) ?_
                        refine lv_iload hx hb dX8_readInstruction_393 (lv_at hl 0 rfl) ?_
                        refine lv_imul hx hb dX8_readInstruction_395 ?_
                        refine lv_aload_n hx hb dX8_readInstruction_396 rfl (lv_at hl 2 rfl) ?_
                        obtain ⟨r19, h18, h⟩ := b1E h
                        refine r_callV (rest := [.int (16 * r14), .ref (a 7)]) C hw (c_X8_here l D cI cZ z base a u11 r19 h18) (cwV 0 C.1.2.2.2.2 gX8_readInstruction_X8_here rfl rfl rfl (by decide +kernel) ⟨Nat.le_of_ble_eq_true rfl, Nat.le_of_ble_eq_true rfl⟩) (va_recv C.2.1 hw.1 (ci := 7) (q0 := 0) rfl (MWa_0 cI cZ a u11)) rfl hl.1 rfl (Nat.le_of_ble_eq_true rfl) dX8_readInstruction_397 ⟨Nat.zero_le _, Nat.zero_le _⟩ (fun H locs hw => ?_)
                        refine lv_iadd hx hb dX8_readInstruction_400 ?_
                        obtain ⟨g20, h⟩ := ixE h
                        refine r_ald C hw 7 0 (MWa_7 cI cZ a u11) rfl g20 dX8_readInstruction_401 ?_
                        refine lv_iconst (v := (-1)) hx hb dX8_readInstruction_402 (by decide) ?_
                        refine lv_icmp_eq (tgt := 410) hx hb dX8_readInstruction_403 (by decide) (fun c21 => ?_) (fun c21 => ?_)
                        · have h := itT c21 h
                          exact J410 x3 u11 _ _ _ h hw (lv_sub hl [2, 3] rfl)
                        · have h := itF c21 h
                          refine lv_iconst (v := 1) hx hb dX8_readInstruction_406 (by decide) ?_
                          refine lv_goto (tgt := 411) hx hb dX8_readInstruction_407 (by decide) ?_
                          exact J411 x3 1 u11 _ _ _ h hw (lv_sub hl [2, 3] rfl)
                · have h := itT c7 h
                  refine lv_aload_n hx hb dX8_readInstruction_341 rfl (lv_at hl 0 rfl) ?_
                  refine lv_iconst (v := 0) hx hb dX8_readInstruction_342 (by decide) ?_
                  refine lv_sipush (v := 255) hx hb dX8_readInstruction_343 (by decide) ?_
                  obtain ⟨r23, u24, h22, h⟩ := b2E h
                  refine r_callV (rest := []) C hw (c_X8_over l D cI cZ z base a 0 255 u0 r23 u24 h22) (cwV 2 C.1.2.2.2.2 gX8_readInstruction_X8_over rfl rfl rfl (by decide +kernel) ⟨Nat.le_of_ble_eq_true rfl, Nat.le_of_ble_eq_true rfl⟩) (va_recv C.2.1 hw.1 (ci := 7) (q0 := 0) rfl (MWa_0 cI cZ a u0)) rfl hl.1 rfl (Nat.le_of_ble_eq_true rfl) dX8_readInstruction_346 ⟨Nat.zero_le _, Nat.zero_le _⟩ (fun H locs hw => ?_)
                  refine lv_istore (lv' := [(5, .int r23), (0, .ref (a 0)), (3, .int x3), (4, .int x4)]) hx hb dX8_readInstruction_349 hl (by decide) rfl (fun ls hl => ?_)
                  refine lv_goto (tgt := 439) hx hb dX8_readInstruction_351 (by decide) ?_
                  exact J439 x3 r23 u24 _ _ _ h hw (lv_sub hl [1, 2, 0] rfl)
              · have h := itT c6 h
                refine lv_aload_n hx hb dX8_readInstruction_320 rfl (lv_at hl 0 rfl) ?_
                refine lv_iconst (v := 0) hx hb dX8_readInstruction_321 (by decide) ?_
                refine lv_aload_n hx hb dX8_readInstruction_322 rfl (lv_at hl 0 rfl) ?_
                refine r_get C hw hiX8_readInstruction_X8 0 (MWa_0 cI cZ a u0) rfl 8 (by decide) (by decide +kernel) rfl dX8_readInstruction_323 ?_
                obtain ⟨r26, u27, h25, h⟩ := b2E h
                refine r_callV (rest := []) C hw (c_X8_over l D cI cZ z base a 0 (u0 0 8) u0 r26 u27 h25) (cwV 2 C.1.2.2.2.2 gX8_readInstruction_X8_over rfl rfl rfl (by decide +kernel) ⟨Nat.le_of_ble_eq_true rfl, Nat.le_of_ble_eq_true rfl⟩) (va_recv C.2.1 hw.1 (ci := 7) (q0 := 0) rfl (MWa_0 cI cZ a u0)) rfl hl.1 rfl (Nat.le_of_ble_eq_true rfl) dX8_readInstruction_326 ⟨Nat.zero_le _, Nat.zero_le _⟩ (fun H locs hw => ?_)
                refine lv_istore (lv' := [(5, .int r26), (0, .ref (a 0)), (3, .int x3), (4, .int x4)]) hx hb dX8_readInstruction_329 hl (by decide) rfl (fun ls hl => ?_)
                refine lv_goto (tgt := 439) hx hb dX8_readInstruction_331 (by decide) ?_
                exact J439 x3 r26 u27 _ _ _ h hw (lv_sub hl [1, 2, 0] rfl)
            · have h := itT c5 h
              exact J277 x3 u0 _ _ _ h hw (lv_sub hl [0, 1] rfl)
        · have h := itT c3 h
          exact J254 x3 u0 _ _ _ h hw (lv_sub hl [0, 1] rfl)
  have hl : lv_has ls 8 [(0, .ref (a 0)), (1, .int x1), (2, .int x2)] := hl
  rw [F_X8_readInstruction] at h
  refine lv_aload_n hx hb dX8_readInstruction_0 rfl (lv_at hl 0 rfl) ?_
  refine r_get C hw hiX8_readInstruction_X8 0 (MWa_0 cI cZ a u0) rfl 5 (by decide) (by decide +kernel) rfl dX8_readInstruction_1 ?_
  refine lv_topi (fun v1 ev1 => ?_)
  have h := nmE ev1 h
  refine lv_istore_n (lv' := [(3, .int v1), (0, .ref (a 0)), (1, .int x1), (2, .int x2)]) hx hb dX8_readInstruction_4 rfl hl (by decide) rfl (fun ls hl => ?_)
  refine lv_aload_n hx hb dX8_readInstruction_5 rfl (lv_at hl 1 rfl) ?_
  refine lv_iconst (v := 0) hx hb dX8_readInstruction_6 (by decide) ?_
  refine lv_bipush (v := 41) hx hb dX8_readInstruction_7 (by decide) ?_
  obtain ⟨r3, u4, h2, h⟩ := b2E h
  refine r_callV (rest := []) C hw (c_X8_over l D cI cZ z base a 0 41 u0 r3 u4 h2) (cwV 2 C.1.2.2.2.2 gX8_readInstruction_X8_over rfl rfl rfl (by decide +kernel) ⟨Nat.le_of_ble_eq_true rfl, Nat.le_of_ble_eq_true rfl⟩) (va_recv C.2.1 hw.1 (ci := 7) (q0 := 0) rfl (MWa_0 cI cZ a u0)) rfl hl.1 rfl (Nat.le_of_ble_eq_true rfl) dX8_readInstruction_9 ⟨Nat.zero_le _, Nat.zero_le _⟩ (fun H locs hw => ?_)
  refine lv_if_ne (tgt := 17) hx hb dX8_readInstruction_12 (by decide) (fun c5 => ?_) (fun c5 => ?_)
  · have h := itF c5 h
    refine lv_aload_n hx hb dX8_readInstruction_17 rfl (lv_at hl 1 rfl) ?_
    obtain ⟨r7, h6, h⟩ := b1E h
    refine r_callV (rest := []) C hw (c_X8_last l D cI cZ z base a u4 r7 h6) (cwV 0 C.1.2.2.2.2 gX8_readInstruction_X8_last rfl rfl rfl (by decide +kernel) ⟨Nat.le_of_ble_eq_true rfl, Nat.le_of_ble_eq_true rfl⟩) (va_recv C.2.1 hw.1 (ci := 7) (q0 := 0) rfl (MWa_0 cI cZ a u4)) rfl hl.1 rfl (Nat.le_of_ble_eq_true rfl) dX8_readInstruction_18 ⟨Nat.zero_le _, Nat.zero_le _⟩ (fun H locs hw => ?_)
    refine lv_istore (lv' := [(4, .int r7), (3, .int v1), (0, .ref (a 0)), (1, .int x1), (2, .int x2)]) hx hb dX8_readInstruction_21 hl (by decide) rfl (fun ls hl => ?_)
    refine lv_iload_n hx hb dX8_readInstruction_23 rfl (lv_at hl 1 rfl) ?_
    refine lv_iload hx hb dX8_readInstruction_24 (lv_at hl 0 rfl) ?_
    obtain ⟨r9, h8, h⟩ := b1E h
    refine r_callS (rest := [.int v1]) C hw (c_X8_wide l D cI cZ z base a r7 u4 r9 h8) (va_cwS 1 C.1.2.2.2.2 gX8_readInstruction_X8_wide rfl rfl rfl (by decide +kernel) ⟨Nat.le_of_ble_eq_true rfl, Nat.le_of_ble_eq_true rfl⟩) rfl hl.1 rfl (Nat.le_of_ble_eq_true rfl) dX8_readInstruction_26 ⟨Nat.zero_le _, Nat.zero_le _⟩ (fun H locs hw => ?_)
    refine lv_iadd hx hb dX8_readInstruction_29 ?_
    refine lv_iload_n hx hb dX8_readInstruction_30 rfl (lv_at hl 4 rfl) ?_
    refine lv_icmp_le (tgt := 40) hx hb dX8_readInstruction_31 (by decide) (fun c10 => ?_) (fun c10 => ?_)
    · have h := itT c10 h
      refine lv_iconst (v := 1) hx hb dX8_readInstruction_40 (by decide) ?_
      refine lv_istore (lv' := [(5, .int 1), (4, .int r7), (3, .int v1), (0, .ref (a 0)), (1, .int x1), (2, .int x2)]) hx hb dX8_readInstruction_41 hl (by decide) rfl (fun ls hl => ?_)
      refine lv_iload hx hb dX8_readInstruction_43 (lv_at hl 1 rfl) ?_
      refine lv_if_ne (tgt := 102) hx hb dX8_readInstruction_45 (by decide) (fun c11 => ?_) (fun c11 => ?_)
      · have h := itF c11 h
        refine lv_iload hx hb dX8_readInstruction_102 (lv_at hl 1 rfl) ?_
        refine lv_iconst (v := 2) hx hb dX8_readInstruction_104 (by decide) ?_
        refine lv_icmp_eq (tgt := 114) hx hb dX8_readInstruction_105 (by decide) (fun c12 => ?_) (fun c12 => ?_)
        · have h := itT c12 h
          exact J114 x1 v1 u4 _ _ _ h hw (lv_sub hl [3, 4, 2] rfl)
        · have h := itF c12 h
          refine lv_iload hx hb dX8_readInstruction_108 (lv_at hl 1 rfl) ?_
          refine lv_iconst (v := 3) hx hb dX8_readInstruction_110 (by decide) ?_
          refine lv_icmp_ne (tgt := 132) hx hb dX8_readInstruction_111 (by decide) (fun c13 => ?_) (fun c13 => ?_)
          · have h := itF c13 h
            refine lv_iload hx hb dX8_readInstruction_132 (lv_at hl 1 rfl) ?_
            refine lv_bipush (v := 19) hx hb dX8_readInstruction_134 (by decide) ?_
            refine lv_icmp_eq (tgt := 146) hx hb dX8_readInstruction_136 (by decide) (fun c14 => ?_) (fun c14 => ?_)
            · have h := itT c14 h
              exact J146 v1 u4 _ _ _ h hw (lv_sub hl [3, 2] rfl)
            · have h := itF c14 h
              refine lv_iload hx hb dX8_readInstruction_139 (lv_at hl 1 rfl) ?_
              refine lv_bipush (v := 20) hx hb dX8_readInstruction_141 (by decide) ?_
              refine lv_icmp_ne (tgt := 187) hx hb dX8_readInstruction_143 (by decide) (fun c15 => ?_) (fun c15 => ?_)
              · have h := itF c15 h
                refine lv_iload hx hb dX8_readInstruction_187 (lv_at hl 1 rfl) ?_
                refine lv_bipush (v := 21) hx hb dX8_readInstruction_189 (by decide) ?_
                refine lv_icmp_lt (tgt := 233) hx hb dX8_readInstruction_191 (by decide) (fun c16 => ?_) (fun c16 => ?_)
                · have h := itT c16 h
                  exact J233 v1 r7 1 u4 _ _ _ h hw (lv_sub hl [3, 2, 1, 0] rfl)
                · have h := itF c16 h
                  refine lv_iload hx hb dX8_readInstruction_194 (lv_at hl 1 rfl) ?_
                  refine lv_bipush (v := 25) hx hb dX8_readInstruction_196 (by decide) ?_
                  refine lv_icmp_gt (tgt := 233) hx hb dX8_readInstruction_198 (by decide) (fun c17 => ?_) (fun c17 => ?_)
                  · have h := itT c17 h
                    exact J233 v1 r7 1 u4 _ _ _ h hw (lv_sub hl [3, 2, 1, 0] rfl)
                  · have h := itF c17 h
                    refine lv_aload_n hx hb dX8_readInstruction_201 rfl (lv_at hl 3 rfl) ?_
                    refine lv_iconst (v := 0) hx hb dX8_readInstruction_202 (by decide) ?_
                    refine lv_sipush (v := 255) hx hb dX8_readInstruction_203 (by decide) ?_
                    obtain ⟨r19, u20, h18, h⟩ := b2E h
                    refine r_callV (rest := []) C hw (c_X8_over l D cI cZ z base a 0 255 u4 r19 u20 h18) (cwV 2 C.1.2.2.2.2 gX8_readInstruction_X8_over rfl rfl rfl (by decide +kernel) ⟨Nat.le_of_ble_eq_true rfl, Nat.le_of_ble_eq_true rfl⟩) (va_recv C.2.1 hw.1 (ci := 7) (q0 := 0) rfl (MWa_0 cI cZ a u4)) rfl hl.1 rfl (Nat.le_of_ble_eq_true rfl) dX8_readInstruction_206 ⟨Nat.zero_le _, Nat.zero_le _⟩ (fun H locs hw => ?_)
                    refine lv_if_eq (tgt := 227) hx hb dX8_readInstruction_209 (by decide) (fun c21 => ?_) (fun c21 => ?_)
                    · have h := itT c21 h
                      exact J227 v1 u20 _ _ _ h hw (lv_sub hl [3, 2] rfl)
                    · have h := itF c21 h
                      refine lv_aload_n hx hb dX8_readInstruction_212 rfl (lv_at hl 3 rfl) ?_
                      refine lv_iconst (v := 0) hx hb dX8_readInstruction_213 (by decide) ?_
                      refine lv_sipush (v := 255) hx hb dX8_readInstruction_214 (by decide) ?_
                      obtain ⟨r23, u24, h22, h⟩ := b2E h
                      refine r_callV (rest := []) C hw (c_X8_over l D cI cZ z base a 0 255 u20 r23 u24 h22) (cwV 2 C.1.2.2.2.2 gX8_readInstruction_X8_over rfl rfl rfl (by decide +kernel) ⟨Nat.le_of_ble_eq_true rfl, Nat.le_of_ble_eq_true rfl⟩) (va_recv C.2.1 hw.1 (ci := 7) (q0 := 0) rfl (MWa_0 cI cZ a u20)) rfl hl.1 rfl (Nat.le_of_ble_eq_true rfl) dX8_readInstruction_217 ⟨Nat.zero_le _, Nat.zero_le _⟩ (fun H locs hw => ?_)
                      refine lv_if_eq (tgt := 227) hx hb dX8_readInstruction_220 (by decide) (fun c25 => ?_) (fun c25 => ?_)
                      · have h := itT c25 h
                        exact J227 v1 u24 _ _ _ h hw (lv_sub hl [3, 2] rfl)
                      · have h := itF c25 h
                        refine lv_iconst (v := 1) hx hb dX8_readInstruction_223 (by decide) ?_
                        refine lv_goto (tgt := 228) hx hb dX8_readInstruction_224 (by decide) ?_
                        exact J228 v1 1 u24 _ _ _ h hw (lv_sub hl [3, 2] rfl)
              · have h := itT c15 h
                exact J146 v1 u4 _ _ _ h hw (lv_sub hl [3, 2] rfl)
          · have h := itT c13 h
            exact J114 x1 v1 u4 _ _ _ h hw (lv_sub hl [3, 4, 2] rfl)
      · have h := itT c11 h
        refine lv_aload_n hx hb dX8_readInstruction_48 rfl (lv_at hl 3 rfl) ?_
        refine lv_iconst (v := 0) hx hb dX8_readInstruction_49 (by decide) ?_
        refine lv_sipush (v := 255) hx hb dX8_readInstruction_50 (by decide) ?_
        obtain ⟨r27, u28, h26, h⟩ := b2E h
        refine r_callV (rest := []) C hw (c_X8_over l D cI cZ z base a 0 255 u4 r27 u28 h26) (cwV 2 C.1.2.2.2.2 gX8_readInstruction_X8_over rfl rfl rfl (by decide +kernel) ⟨Nat.le_of_ble_eq_true rfl, Nat.le_of_ble_eq_true rfl⟩) (va_recv C.2.1 hw.1 (ci := 7) (q0 := 0) rfl (MWa_0 cI cZ a u4)) rfl hl.1 rfl (Nat.le_of_ble_eq_true rfl) dX8_readInstruction_53 ⟨Nat.zero_le _, Nat.zero_le _⟩ (fun H locs hw => ?_)
        refine lv_if_eq (tgt := 96) hx hb dX8_readInstruction_56 (by decide) (fun c29 => ?_) (fun c29 => ?_)
        · have h := itT c29 h
          exact J96 v1 u28 _ _ _ h hw (lv_sub hl [3, 2] rfl)
        · have h := itF c29 h
          refine lv_aload_n hx hb dX8_readInstruction_59 rfl (lv_at hl 3 rfl) ?_
          refine lv_iconst (v := 0) hx hb dX8_readInstruction_60 (by decide) ?_
          refine lv_sipush (v := 255) hx hb dX8_readInstruction_61 (by decide) ?_
          obtain ⟨r31, u32, h30, h⟩ := b2E h
          refine r_callV (rest := []) C hw (c_X8_over l D cI cZ z base a 0 255 u28 r31 u32 h30) (cwV 2 C.1.2.2.2.2 gX8_readInstruction_X8_over rfl rfl rfl (by decide +kernel) ⟨Nat.le_of_ble_eq_true rfl, Nat.le_of_ble_eq_true rfl⟩) (va_recv C.2.1 hw.1 (ci := 7) (q0 := 0) rfl (MWa_0 cI cZ a u28)) rfl hl.1 rfl (Nat.le_of_ble_eq_true rfl) dX8_readInstruction_64 ⟨Nat.zero_le _, Nat.zero_le _⟩ (fun H locs hw => ?_)
          refine lv_if_eq (tgt := 96) hx hb dX8_readInstruction_67 (by decide) (fun c33 => ?_) (fun c33 => ?_)
          · have h := itT c33 h
            exact J96 v1 u32 _ _ _ h hw (lv_sub hl [3, 2] rfl)
          · have h := itF c33 h
            refine lv_aload_n hx hb dX8_readInstruction_70 rfl (lv_at hl 3 rfl) ?_
            refine lv_iconst (v := 0) hx hb dX8_readInstruction_71 (by decide) ?_
            refine lv_sipush (v := 255) hx hb dX8_readInstruction_72 (by decide) ?_
            obtain ⟨r35, u36, h34, h⟩ := b2E h
            refine r_callV (rest := []) C hw (c_X8_over l D cI cZ z base a 0 255 u32 r35 u36 h34) (cwV 2 C.1.2.2.2.2 gX8_readInstruction_X8_over rfl rfl rfl (by decide +kernel) ⟨Nat.le_of_ble_eq_true rfl, Nat.le_of_ble_eq_true rfl⟩) (va_recv C.2.1 hw.1 (ci := 7) (q0 := 0) rfl (MWa_0 cI cZ a u32)) rfl hl.1 rfl (Nat.le_of_ble_eq_true rfl) dX8_readInstruction_75 ⟨Nat.zero_le _, Nat.zero_le _⟩ (fun H locs hw => ?_)
            refine lv_if_eq (tgt := 96) hx hb dX8_readInstruction_78 (by decide) (fun c37 => ?_) (fun c37 => ?_)
            · have h := itT c37 h
              exact J96 v1 u36 _ _ _ h hw (lv_sub hl [3, 2] rfl)
            · have h := itF c37 h
              refine lv_aload_n hx hb dX8_readInstruction_81 rfl (lv_at hl 3 rfl) ?_
              refine lv_iconst (v := 0) hx hb dX8_readInstruction_82 (by decide) ?_
              refine lv_sipush (v := 255) hx hb dX8_readInstruction_83 (by decide) ?_
              obtain ⟨r39, u40, h38, h⟩ := b2E h
              refine r_callV (rest := []) C hw (c_X8_over l D cI cZ z base a 0 255 u36 r39 u40 h38) (cwV 2 C.1.2.2.2.2 gX8_readInstruction_X8_over rfl rfl rfl (by decide +kernel) ⟨Nat.le_of_ble_eq_true rfl, Nat.le_of_ble_eq_true rfl⟩) (va_recv C.2.1 hw.1 (ci := 7) (q0 := 0) rfl (MWa_0 cI cZ a u36)) rfl hl.1 rfl (Nat.le_of_ble_eq_true rfl) dX8_readInstruction_86 ⟨Nat.zero_le _, Nat.zero_le _⟩ (fun H locs hw => ?_)
              refine lv_if_eq (tgt := 96) hx hb dX8_readInstruction_89 (by decide) (fun c41 => ?_) (fun c41 => ?_)
              · have h := itT c41 h
                exact J96 v1 u40 _ _ _ h hw (lv_sub hl [3, 2] rfl)
              · have h := itF c41 h
                refine lv_iconst (v := 1) hx hb dX8_readInstruction_92 (by decide) ?_
                refine lv_goto (tgt := 97) hx hb dX8_readInstruction_93 (by decide) ?_
                exact J97 v1 1 u40 _ _ _ h hw (lv_sub hl [3, 2] rfl)
    · have h := itF c10 h
      refine lv_aload_n hx hb dX8_readInstruction_34 rfl (lv_at hl 2 rfl) ?_
      refine lv_iload_n hx hb dX8_readInstruction_35 rfl (lv_at hl 1 rfl) ?_
      obtain ⟨r43, u44, h42, h⟩ := b2E h
      refine r_callV (rest := []) C hw (c_X8_bad l D cI cZ z base a v1 u4 r43 u44 h42) (cwV 1 C.1.2.2.2.2 gX8_readInstruction_X8_bad rfl rfl rfl (by decide +kernel) ⟨Nat.le_of_ble_eq_true rfl, Nat.le_of_ble_eq_true rfl⟩) (va_recv C.2.1 hw.1 (ci := 7) (q0 := 0) rfl (MWa_0 cI cZ a u4)) rfl hl.1 rfl (Nat.le_of_ble_eq_true rfl) dX8_readInstruction_36 ⟨Nat.zero_le _, Nat.zero_le _⟩ (fun H locs hw => ?_)
      obtain ⟨g45, h⟩ := boE h
      exact r_zret (f := MW cI cZ a) hQ g45 h hw dX8_readInstruction_39
  · have h := itT c5 h
    refine lv_iconst (v := 0) hx hb dX8_readInstruction_15 (by decide) ?_
    exact r_zret (f := MW cI cZ a) hQ (by decide) h hw dX8_readInstruction_16
