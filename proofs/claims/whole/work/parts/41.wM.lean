abbrev rmX8_readClass : Room := { frames := 2, cells := 0, slots := 0, locals := 44 }
theorem hiX8_readClass_X8 : ∀ w ∈ wsX80, w ∈ wsX8_readClass := by decide +kernel
set_option maxHeartbeats 4000000 in
set_option maxRecDepth 100000 in
theorem c_X8_readClass (l : Launch) (D : va_G) (cI cZ : ClassId) (z : Nat → Nat) (base : Nat) (a : Nat → Nat) (x1 : Int32) (u0 : St) (ro : Int32) (uo : St) (h : F_X8_readClass x1 u0 = some (ro, uo)) : MI l D [(cI, .int), (cZ, .boolean)] z base yX8_readClass wsX8_readClass rmX8_readClass [.ref (a 0), .int x1] (MW cI cZ a u0) ro (MW cI cZ a uo) := by
  refine MI.ofZ (own := RX8) (cc := cX8_readClass) (maxL := 8) (by decide) rfl rfl (Nat.le_of_ble_eq_true rfl) ?_
  intro p e s m args below meth c A Q ls C hl hw hQ
  have hx := C.1.1
  have hb := C.1.2.1
  have J279 : ∀ n279 : Nat, ∀ (x1 x4 x5 x6 : Int32) (u0 : St) (H : Heap) (locs : List Loc) (ls : Array Slot), F_X8_readClass_279 n279 x1 x4 x5 x6 u0 = some (ro, uo) → Wd D A s.heap H locs (MW cI cZ a u0) → lv_has ls 8 [(0, .ref (a 0)), (1, .int x1), (4, .int x4), (5, .int x5), (6, .int x6)] → W p l e rmX8_readClass s m args below meth c H locs 0 0 Q (F0 m 279 ls []) := by
    intro n279
    induction n279 with
    | zero => intro x1 x4 x5 x6 u0 H locs ls h; rw [F_X8_readClass_279] at h; cases h
    | succ n279 ih279 =>
      intro x1 x4 x5 x6 u0 H locs ls h hw hl
      rw [F_X8_readClass_279] at h
      refine lv_iload hx hb dX8_readClass_279 (lv_at hl 4 rfl) ?_
      refine lv_iload hx hb dX8_readClass_281 (lv_at hl 2 rfl) ?_
      refine lv_icmp_ge (tgt := 364) hx hb dX8_readClass_283 (by decide) (fun c1 => ?_) (fun c1 => ?_)
      · have h := itT c1 h
        refine lv_iconst (v := 1) hx hb dX8_readClass_364 (by decide) ?_
        exact r_zret (f := MW cI cZ a) hQ (by decide) h hw dX8_readClass_365
      · have h := itF c1 h
        refine lv_aload_n hx hb dX8_readClass_286 rfl (lv_at hl 0 rfl) ?_
        refine lv_iload hx hb dX8_readClass_287 (lv_at hl 3 rfl) ?_
        refine lv_bipush (v := 15) hx hb dX8_readClass_289 (by decide) ?_
        obtain ⟨r3, u4, h2, h⟩ := b2E h
        refine r_callV (rest := []) C hw (c_X8_over l D cI cZ z base a x5 15 u0 r3 u4 h2) (cwV 2 C.1.2.2.2.2 gX8_readClass_X8_over rfl rfl rfl (by decide +kernel) ⟨Nat.le_of_ble_eq_true rfl, Nat.le_of_ble_eq_true rfl⟩) (va_recv C.2.1 hw.1 (ci := 7) (q0 := 0) rfl (MWa_0 cI cZ a u0)) rfl hl.1 rfl (Nat.le_of_ble_eq_true rfl) dX8_readClass_291 ⟨Nat.zero_le _, Nat.zero_le _⟩ (fun H locs hw => ?_)
        refine lv_if_ne (tgt := 299) hx hb dX8_readClass_294 (by decide) (fun c5 => ?_) (fun c5 => ?_)
        · have h := itF c5 h
          refine lv_aload_n hx hb dX8_readClass_299 rfl (lv_at hl 0 rfl) ?_
          obtain ⟨r7, h6, h⟩ := b1E h
          refine r_callV (rest := []) C hw (c_X8_last l D cI cZ z base a u4 r7 h6) (cwV 0 C.1.2.2.2.2 gX8_readClass_X8_last rfl rfl rfl (by decide +kernel) ⟨Nat.le_of_ble_eq_true rfl, Nat.le_of_ble_eq_true rfl⟩) (va_recv C.2.1 hw.1 (ci := 7) (q0 := 0) rfl (MWa_0 cI cZ a u4)) rfl hl.1 rfl (Nat.le_of_ble_eq_true rfl) dX8_readClass_300 ⟨Nat.zero_le _, Nat.zero_le _⟩ (fun H locs hw => ?_)
          refine lv_istore (lv' := [(7, .int r7), (0, .ref (a 0)), (1, .int x1), (4, .int x4), (5, .int x5), (6, .int x6)]) hx hb dX8_readClass_303 hl (by decide) rfl (fun ls hl => ?_)
          refine lv_iload hx hb dX8_readClass_305 (lv_at hl 0 rfl) ?_
          refine lv_iconst (v := 1) hx hb dX8_readClass_307 (by decide) ?_
          refine lv_iadd hx hb dX8_readClass_308 ?_
          refine lv_topi (fun v8 ev8 => ?_)
          have h := nmE ev8 h
          refine lv_istore (lv' := [(5, .int v8), (7, .int r7), (0, .ref (a 0)), (1, .int x1), (4, .int x4), (6, .int x6)]) hx hb dX8_readClass_309 hl (by decide) rfl (fun ls hl => ?_)
          refine lv_aload_n hx hb dX8_readClass_311 rfl (lv_at hl 2 rfl) ?_
          refine lv_iconst (v := 0) hx hb dX8_readClass_312 (by decide) ?_
          refine lv_sipush (v := 255) hx hb dX8_readClass_313 (by decide) ?_
          obtain ⟨r10, u11, h9, h⟩ := b2E h
          refine r_callV (rest := []) C hw (c_X8_over l D cI cZ z base a 0 255 u4 r10 u11 h9) (cwV 2 C.1.2.2.2.2 gX8_readClass_X8_over rfl rfl rfl (by decide +kernel) ⟨Nat.le_of_ble_eq_true rfl, Nat.le_of_ble_eq_true rfl⟩) (va_recv C.2.1 hw.1 (ci := 7) (q0 := 0) rfl (MWa_0 cI cZ a u4)) rfl hl.1 rfl (Nat.le_of_ble_eq_true rfl) dX8_readClass_316 ⟨Nat.zero_le _, Nat.zero_le _⟩ (fun H locs hw => ?_)
          refine lv_if_ne (tgt := 324) hx hb dX8_readClass_319 (by decide) (fun c12 => ?_) (fun c12 => ?_)
          · have h := itF c12 h
            refine lv_aload_n hx hb dX8_readClass_324 rfl (lv_at hl 2 rfl) ?_
            refine r_get C hw hiX8_readClass_X8 0 (MWa_0 cI cZ a u11) rfl 12 (by decide) (by decide +kernel) rfl dX8_readClass_325 ?_
            refine lv_bipush (v := 16) hx hb dX8_readClass_328 (by decide) ?_
            refine lv_iload_n hx hb dX8_readClass_330 rfl (lv_at hl 3 rfl) ?_
            refine lv_imul hx hb dX8_readClass_331 ?_
            refine lv_iload hx hb dX8_readClass_332 (lv_at hl 1 rfl) ?_
            refine lv_iadd hx hb dX8_readClass_334 ?_
            refine lv_aload_n hx hb dX8_readClass_335 rfl (lv_at hl 2 rfl) ?_
            obtain ⟨r14, h13, h⟩ := b1E h
            refine r_callV (rest := [.int ((16 * x1) + r7), .ref (a 7)]) C hw (c_X8_last l D cI cZ z base a u11 r14 h13) (cwV 0 C.1.2.2.2.2 gX8_readClass_X8_last rfl rfl rfl (by decide +kernel) ⟨Nat.le_of_ble_eq_true rfl, Nat.le_of_ble_eq_true rfl⟩) (va_recv C.2.1 hw.1 (ci := 7) (q0 := 0) rfl (MWa_0 cI cZ a u11)) rfl hl.1 rfl (Nat.le_of_ble_eq_true rfl) dX8_readClass_336 ⟨Nat.zero_le _, Nat.zero_le _⟩ (fun H locs hw => ?_)
            obtain ⟨g15, h⟩ := ixE h
            obtain ⟨u16, eu16⟩ : ∃ y : St, y = st u11 7 (((16 * x1) + r7)).toNatClampNeg r14 := ⟨_, rfl⟩
            have h := nmE eu16 h
            refine r_ast (ws' := (MW cI cZ a u16)) C hw 7 0 (MWa_7 cI cZ a u11) rfl g15 (by rw [eu16]; exact MWs_7 cI cZ a u11 _ r14) dX8_readClass_339 (fun H locs hw => ?_)
            refine lv_aload_n hx hb dX8_readClass_340 rfl (lv_at hl 2 rfl) ?_
            refine r_get C hw hiX8_readClass_X8 0 (MWa_0 cI cZ a u16) rfl 13 (by decide) (by decide +kernel) rfl dX8_readClass_341 ?_
            refine lv_bipush (v := 16) hx hb dX8_readClass_344 (by decide) ?_
            refine lv_iload_n hx hb dX8_readClass_346 rfl (lv_at hl 3 rfl) ?_
            refine lv_imul hx hb dX8_readClass_347 ?_
            refine lv_iload hx hb dX8_readClass_348 (lv_at hl 1 rfl) ?_
            refine lv_iadd hx hb dX8_readClass_350 ?_
            refine lv_aload_n hx hb dX8_readClass_351 rfl (lv_at hl 2 rfl) ?_
            refine r_get C hw hiX8_readClass_X8 0 (MWa_0 cI cZ a u16) rfl 5 (by decide) (by decide +kernel) rfl dX8_readClass_352 ?_
            refine lv_iconst (v := 1) hx hb dX8_readClass_355 (by decide) ?_
            refine lv_isub hx hb dX8_readClass_356 ?_
            obtain ⟨g17, h⟩ := ixE h
            obtain ⟨u18, eu18⟩ : ∃ y : St, y = st u16 8 (((16 * x1) + r7)).toNatClampNeg ((u16 0 5) - 1) := ⟨_, rfl⟩
            have h := nmE eu18 h
            refine r_ast (ws' := (MW cI cZ a u18)) C hw 8 0 (MWa_8 cI cZ a u16) rfl g17 (by rw [eu18]; exact MWs_8 cI cZ a u16 _ ((u16 0 5) - 1)) dX8_readClass_357 (fun H locs hw => ?_)
            obtain ⟨v19, ev19⟩ : ∃ y : Int32, y = x6 + 1 := ⟨_, rfl⟩
            have h := nmE ev19 h
            refine lv_iinc (v := v19) (lv' := [(6, .int v19), (5, .int v8), (7, .int r7), (0, .ref (a 0)), (1, .int x1), (4, .int x4)]) hx hb dX8_readClass_358 hl (k := 5) rfl (by rw [ev19]; rfl) (by decide) rfl (fun ls hl => ?_)
            refine lv_goto (tgt := 279) hx hb dX8_readClass_361 (by decide) ?_
            exact ih279 x1 x4 v8 v19 u18 _ _ _ h hw (lv_sub hl [3, 4, 5, 1, 0] rfl)
          · have h := itT c12 h
            refine lv_iconst (v := 0) hx hb dX8_readClass_322 (by decide) ?_
            exact r_zret (f := MW cI cZ a) hQ (by decide) h hw dX8_readClass_323
        · have h := itT c5 h
          refine lv_iconst (v := 0) hx hb dX8_readClass_297 (by decide) ?_
          exact r_zret (f := MW cI cZ a) hQ (by decide) h hw dX8_readClass_298
  have J197 : ∀ n197 : Nat, ∀ (x1 x2 x4 : Int32) (u0 : St) (H : Heap) (locs : List Loc) (ls : Array Slot), F_X8_readClass_197 n197 x1 x2 x4 u0 = some (ro, uo) → Wd D A s.heap H locs (MW cI cZ a u0) → lv_has ls 8 [(0, .ref (a 0)), (1, .int x1), (2, .int x2), (4, .int x4)] → W p l e rmX8_readClass s m args below meth c H locs 0 0 Q (F0 m 197 ls []) := by
    intro n197
    induction n197 with
    | zero => intro x1 x2 x4 u0 H locs ls h; rw [F_X8_readClass_197] at h; cases h
    | succ n197 ih197 =>
      have J235 : ∀ (x1 x2 x4 t0 t1 : Int32) (u0 : St) (H : Heap) (locs : List Loc) (ls : Array Slot), F_X8_readClass_235 (F_X8_readClass_197 n197) x1 x2 x4 t0 t1 u0 = some (ro, uo) → Wd D A s.heap H locs (MW cI cZ a u0) → lv_has ls 8 [(0, .ref (a 0)), (1, .int x1), (2, .int x2), (4, .int x4)] → W p l e rmX8_readClass s m args below meth c H locs 0 0 Q (F0 m 235 ls [.int t0, .int t1, .ref (a 7)]) := by
        intro x1 x2 x4 t0 t1 u0 H locs ls h hw hl
        rw [F_X8_readClass_235] at h
        obtain ⟨g1, h⟩ := ixE h
        obtain ⟨u2, eu2⟩ : ∃ y : St, y = st u0 7 (t1).toNatClampNeg t0 := ⟨_, rfl⟩
        have h := nmE eu2 h
        refine r_ast (ws' := (MW cI cZ a u2)) C hw 7 0 (MWa_7 cI cZ a u0) rfl g1 (by rw [eu2]; exact MWs_7 cI cZ a u0 _ t0) dX8_readClass_235 (fun H locs hw => ?_)
        refine lv_aload_n hx hb dX8_readClass_236 rfl (lv_at hl 0 rfl) ?_
        refine r_get C hw hiX8_readClass_X8 0 (MWa_0 cI cZ a u2) rfl 13 (by decide) (by decide +kernel) rfl dX8_readClass_237 ?_
        refine lv_bipush (v := 16) hx hb dX8_readClass_240 (by decide) ?_
        refine lv_iload_n hx hb dX8_readClass_242 rfl (lv_at hl 1 rfl) ?_
        refine lv_imul hx hb dX8_readClass_243 ?_
        refine lv_iload hx hb dX8_readClass_244 (lv_at hl 3 rfl) ?_
        refine lv_iadd hx hb dX8_readClass_246 ?_
        refine lv_iconst (v := (-1)) hx hb dX8_readClass_247 (by decide) ?_
        obtain ⟨g3, h⟩ := ixE h
        obtain ⟨u4, eu4⟩ : ∃ y : St, y = st u2 8 (((16 * x1) + x4)).toNatClampNeg (-1) := ⟨_, rfl⟩
        have h := nmE eu4 h
        refine r_ast (ws' := (MW cI cZ a u4)) C hw 8 0 (MWa_8 cI cZ a u2) rfl g3 (by rw [eu4]; exact MWs_8 cI cZ a u2 _ (-1)) dX8_readClass_248 (fun H locs hw => ?_)
        obtain ⟨v5, ev5⟩ : ∃ y : Int32, y = x4 + 1 := ⟨_, rfl⟩
        have h := nmE ev5 h
        refine lv_iinc (v := v5) (lv' := [(4, .int v5), (0, .ref (a 0)), (1, .int x1), (2, .int x2)]) hx hb dX8_readClass_249 hl (k := 3) rfl (by rw [ev5]; rfl) (by decide) rfl (fun ls hl => ?_)
        refine lv_goto (tgt := 197) hx hb dX8_readClass_252 (by decide) ?_
        exact ih197 x1 x2 v5 u4 _ _ _ h hw (lv_sub hl [1, 2, 3, 0] rfl)
      intro x1 x2 x4 u0 H locs ls h hw hl
      rw [F_X8_readClass_197] at h
      refine lv_iload hx hb dX8_readClass_197 (lv_at hl 3 rfl) ?_
      refine lv_bipush (v := 16) hx hb dX8_readClass_199 (by decide) ?_
      refine lv_icmp_ge (tgt := 255) hx hb dX8_readClass_201 (by decide) (fun c1 => ?_) (fun c1 => ?_)
      · have h := itT c1 h
        refine lv_aload_n hx hb dX8_readClass_255 rfl (lv_at hl 0 rfl) ?_
        refine lv_iconst (v := 0) hx hb dX8_readClass_256 (by decide) ?_
        refine lv_bipush (v := 16) hx hb dX8_readClass_257 (by decide) ?_
        obtain ⟨r3, u4, h2, h⟩ := b2E h
        refine r_callV (rest := []) C hw (c_X8_over l D cI cZ z base a 0 16 u0 r3 u4 h2) (cwV 2 C.1.2.2.2.2 gX8_readClass_X8_over rfl rfl rfl (by decide +kernel) ⟨Nat.le_of_ble_eq_true rfl, Nat.le_of_ble_eq_true rfl⟩) (va_recv C.2.1 hw.1 (ci := 7) (q0 := 0) rfl (MWa_0 cI cZ a u0)) rfl hl.1 rfl (Nat.le_of_ble_eq_true rfl) dX8_readClass_259 ⟨Nat.zero_le _, Nat.zero_le _⟩ (fun H locs hw => ?_)
        refine lv_if_ne (tgt := 267) hx hb dX8_readClass_262 (by decide) (fun c5 => ?_) (fun c5 => ?_)
        · have h := itF c5 h
          refine lv_aload_n hx hb dX8_readClass_267 rfl (lv_at hl 0 rfl) ?_
          obtain ⟨r7, h6, h⟩ := b1E h
          refine r_callV (rest := []) C hw (c_X8_last l D cI cZ z base a u4 r7 h6) (cwV 0 C.1.2.2.2.2 gX8_readClass_X8_last rfl rfl rfl (by decide +kernel) ⟨Nat.le_of_ble_eq_true rfl, Nat.le_of_ble_eq_true rfl⟩) (va_recv C.2.1 hw.1 (ci := 7) (q0 := 0) rfl (MWa_0 cI cZ a u4)) rfl hl.1 rfl (Nat.le_of_ble_eq_true rfl) dX8_readClass_268 ⟨Nat.zero_le _, Nat.zero_le _⟩ (fun H locs hw => ?_)
          refine lv_istore (lv' := [(4, .int r7), (0, .ref (a 0)), (1, .int x1), (2, .int x2)]) hx hb dX8_readClass_271 hl (by decide) rfl (fun ls hl => ?_)
          refine lv_iconst (v := 0) hx hb dX8_readClass_273 (by decide) ?_
          refine lv_istore (lv' := [(5, .int 0), (4, .int r7), (0, .ref (a 0)), (1, .int x1), (2, .int x2)]) hx hb dX8_readClass_274 hl (by decide) rfl (fun ls hl => ?_)
          refine lv_iconst (v := 0) hx hb dX8_readClass_276 (by decide) ?_
          refine lv_istore (lv' := [(6, .int 0), (5, .int 0), (4, .int r7), (0, .ref (a 0)), (1, .int x1), (2, .int x2)]) hx hb dX8_readClass_277 hl (by decide) rfl (fun ls hl => ?_)
          exact J279 fu x1 r7 0 0 u4 _ _ _ h hw (lv_sub hl [3, 4, 2, 1, 0] rfl)
        · have h := itT c5 h
          refine lv_iconst (v := 0) hx hb dX8_readClass_265 (by decide) ?_
          exact r_zret (f := MW cI cZ a) hQ (by decide) h hw dX8_readClass_266
      · have h := itF c1 h
        refine lv_aload_n hx hb dX8_readClass_204 rfl (lv_at hl 0 rfl) ?_
        refine r_get C hw hiX8_readClass_X8 0 (MWa_0 cI cZ a u0) rfl 12 (by decide) (by decide +kernel) rfl dX8_readClass_205 ?_
        refine lv_bipush (v := 16) hx hb dX8_readClass_208 (by decide) ?_
        refine lv_iload_n hx hb dX8_readClass_210 rfl (lv_at hl 1 rfl) ?_
        refine lv_imul hx hb dX8_readClass_211 ?_
        refine lv_iload hx hb dX8_readClass_212 (lv_at hl 3 rfl) ?_
        refine lv_iadd hx hb dX8_readClass_214 ?_
        refine lv_iload_n hx hb dX8_readClass_215 rfl (lv_at hl 2 rfl) ?_
        refine lv_if_ge (tgt := 223) hx hb dX8_readClass_216 (by decide) (fun c8 => ?_) (fun c8 => ?_)
        · have h := itT c8 h
          refine lv_aload_n hx hb dX8_readClass_223 rfl (lv_at hl 0 rfl) ?_
          refine r_get C hw hiX8_readClass_X8 0 (MWa_0 cI cZ a u0) rfl 12 (by decide) (by decide +kernel) rfl dX8_readClass_224 ?_
          refine lv_bipush (v := 16) hx hb dX8_readClass_227 (by decide) ?_
          refine lv_iload_n hx hb dX8_readClass_229 rfl (lv_at hl 2 rfl) ?_
          refine lv_imul hx hb dX8_readClass_230 ?_
          refine lv_iload hx hb dX8_readClass_231 (lv_at hl 3 rfl) ?_
          refine lv_iadd hx hb dX8_readClass_233 ?_
          obtain ⟨g9, h⟩ := ixE h
          refine r_ald C hw 7 0 (MWa_7 cI cZ a u0) rfl g9 dX8_readClass_234 ?_
          exact J235 x1 x2 x4 (u0 7 (((16 * x2) + x4)).toNatClampNeg) ((16 * x1) + x4) u0 _ _ _ h hw hl
        · have h := itF c8 h
          refine lv_iconst (v := (-1)) hx hb dX8_readClass_219 (by decide) ?_
          refine lv_goto (tgt := 235) hx hb dX8_readClass_220 (by decide) ?_
          exact J235 x1 x2 x4 (-1) ((16 * x1) + x4) u0 _ _ _ h hw hl
  have J151 : ∀ n151 : Nat, ∀ (x1 x2 x4 : Int32) (u0 : St) (H : Heap) (locs : List Loc) (ls : Array Slot), F_X8_readClass_151 n151 x1 x2 x4 u0 = some (ro, uo) → Wd D A s.heap H locs (MW cI cZ a u0) → lv_has ls 8 [(0, .ref (a 0)), (1, .int x1), (2, .int x2), (4, .int x4)] → W p l e rmX8_readClass s m args below meth c H locs 0 0 Q (F0 m 151 ls []) := by
    intro n151
    induction n151 with
    | zero => intro x1 x2 x4 u0 H locs ls h; rw [F_X8_readClass_151] at h; cases h
    | succ n151 ih151 =>
      intro x1 x2 x4 u0 H locs ls h hw hl
      rw [F_X8_readClass_151] at h
      refine lv_iload hx hb dX8_readClass_151 (lv_at hl 3 rfl) ?_
      refine lv_aload_n hx hb dX8_readClass_153 rfl (lv_at hl 0 rfl) ?_
      refine r_get C hw hiX8_readClass_X8 0 (MWa_0 cI cZ a u0) rfl 10 (by decide) (by decide +kernel) rfl dX8_readClass_154 ?_
      refine lv_iload_n hx hb dX8_readClass_157 rfl (lv_at hl 1 rfl) ?_
      obtain ⟨g1, h⟩ := ixE h
      refine r_ald C hw 5 0 (MWa_5 cI cZ a u0) rfl g1 dX8_readClass_158 ?_
      refine lv_icmp_ge (tgt := 194) hx hb dX8_readClass_159 (by decide) (fun c2 => ?_) (fun c2 => ?_)
      · have h := itT c2 h
        refine lv_iconst (v := 0) hx hb dX8_readClass_194 (by decide) ?_
        refine lv_istore (lv' := [(4, .int 0), (0, .ref (a 0)), (1, .int x1), (2, .int x2)]) hx hb dX8_readClass_195 hl (by decide) rfl (fun ls hl => ?_)
        exact J197 fu x1 x2 0 u0 _ _ _ h hw (lv_sub hl [1, 2, 3, 0] rfl)
      · have h := itF c2 h
        refine lv_aload_n hx hb dX8_readClass_162 rfl (lv_at hl 0 rfl) ?_
        refine lv_iconst (v := 0) hx hb dX8_readClass_163 (by decide) ?_
        obtain ⟨r4, u5, h3, h⟩ := b2E h
        refine r_callV (rest := []) C hw (c_X8_overType l D cI cZ z base a 0 u0 r4 u5 h3) (cwV 1 C.1.2.2.2.2 gX8_readClass_X8_overType rfl rfl rfl (by decide +kernel) ⟨Nat.le_of_ble_eq_true rfl, Nat.le_of_ble_eq_true rfl⟩) (va_recv C.2.1 hw.1 (ci := 7) (q0 := 0) rfl (MWa_0 cI cZ a u0)) rfl hl.1 rfl (Nat.le_of_ble_eq_true rfl) dX8_readClass_164 ⟨Nat.zero_le _, Nat.zero_le _⟩ (fun H locs hw => ?_)
        refine lv_if_ne (tgt := 172) hx hb dX8_readClass_167 (by decide) (fun c6 => ?_) (fun c6 => ?_)
        · have h := itF c6 h
          refine lv_aload_n hx hb dX8_readClass_172 rfl (lv_at hl 0 rfl) ?_
          refine r_get C hw hiX8_readClass_X8 0 (MWa_0 cI cZ a u5) rfl 11 (by decide) (by decide +kernel) rfl dX8_readClass_173 ?_
          refine lv_bipush (v := 15) hx hb dX8_readClass_176 (by decide) ?_
          refine lv_iload_n hx hb dX8_readClass_178 rfl (lv_at hl 1 rfl) ?_
          refine lv_imul hx hb dX8_readClass_179 ?_
          refine lv_iload hx hb dX8_readClass_180 (lv_at hl 3 rfl) ?_
          refine lv_iadd hx hb dX8_readClass_182 ?_
          refine lv_aload_n hx hb dX8_readClass_183 rfl (lv_at hl 0 rfl) ?_
          obtain ⟨r8, h7, h⟩ := b1E h
          refine r_callV (rest := [.int ((15 * x1) + x4), .ref (a 6)]) C hw (c_X8_last l D cI cZ z base a u5 r8 h7) (cwV 0 C.1.2.2.2.2 gX8_readClass_X8_last rfl rfl rfl (by decide +kernel) ⟨Nat.le_of_ble_eq_true rfl, Nat.le_of_ble_eq_true rfl⟩) (va_recv C.2.1 hw.1 (ci := 7) (q0 := 0) rfl (MWa_0 cI cZ a u5)) rfl hl.1 rfl (Nat.le_of_ble_eq_true rfl) dX8_readClass_184 ⟨Nat.zero_le _, Nat.zero_le _⟩ (fun H locs hw => ?_)
          obtain ⟨g9, h⟩ := ixE h
          obtain ⟨u10, eu10⟩ : ∃ y : St, y = st u5 6 (((15 * x1) + x4)).toNatClampNeg r8 := ⟨_, rfl⟩
          have h := nmE eu10 h
          refine r_ast (ws' := (MW cI cZ a u10)) C hw 6 0 (MWa_6 cI cZ a u5) rfl g9 (by rw [eu10]; exact MWs_6 cI cZ a u5 _ r8) dX8_readClass_187 (fun H locs hw => ?_)
          obtain ⟨v11, ev11⟩ : ∃ y : Int32, y = x4 + 1 := ⟨_, rfl⟩
          have h := nmE ev11 h
          refine lv_iinc (v := v11) (lv' := [(4, .int v11), (0, .ref (a 0)), (1, .int x1), (2, .int x2)]) hx hb dX8_readClass_188 hl (k := 3) rfl (by rw [ev11]; rfl) (by decide) rfl (fun ls hl => ?_)
          refine lv_goto (tgt := 151) hx hb dX8_readClass_191 (by decide) ?_
          exact ih151 x1 x2 v11 u10 _ _ _ h hw (lv_sub hl [1, 2, 3, 0] rfl)
        · have h := itT c6 h
          refine lv_iconst (v := 0) hx hb dX8_readClass_170 (by decide) ?_
          exact r_zret (f := MW cI cZ a) hQ (by decide) h hw dX8_readClass_171
  have J86 : ∀ n86 : Nat, ∀ (x1 x2 x3 x4 : Int32) (u0 : St) (H : Heap) (locs : List Loc) (ls : Array Slot), F_X8_readClass_86 n86 x1 x2 x3 x4 u0 = some (ro, uo) → Wd D A s.heap H locs (MW cI cZ a u0) → lv_has ls 8 [(0, .ref (a 0)), (1, .int x1), (2, .int x2), (3, .int x3), (4, .int x4)] → W p l e rmX8_readClass s m args below meth c H locs 0 0 Q (F0 m 86 ls []) := by
    intro n86
    induction n86 with
    | zero => intro x1 x2 x3 x4 u0 H locs ls h; rw [F_X8_readClass_86] at h; cases h
    | succ n86 ih86 =>
      intro x1 x2 x3 x4 u0 H locs ls h hw hl
      rw [F_X8_readClass_86] at h
      refine lv_iload hx hb dX8_readClass_86 (lv_at hl 4 rfl) ?_
      refine lv_iload_n hx hb dX8_readClass_88 rfl (lv_at hl 3 rfl) ?_
      refine lv_icmp_ge (tgt := 122) hx hb dX8_readClass_89 (by decide) (fun c1 => ?_) (fun c1 => ?_)
      · have h := itT c1 h
        refine lv_aload_n hx hb dX8_readClass_122 rfl (lv_at hl 0 rfl) ?_
        refine lv_iconst (v := 0) hx hb dX8_readClass_123 (by decide) ?_
        refine lv_bipush (v := 15) hx hb dX8_readClass_124 (by decide) ?_
        refine lv_iload_n hx hb dX8_readClass_126 rfl (lv_at hl 3 rfl) ?_
        refine lv_isub hx hb dX8_readClass_127 ?_
        obtain ⟨r3, u4, h2, h⟩ := b2E h
        refine r_callV (rest := []) C hw (c_X8_over l D cI cZ z base a 0 (15 - x3) u0 r3 u4 h2) (cwV 2 C.1.2.2.2.2 gX8_readClass_X8_over rfl rfl rfl (by decide +kernel) ⟨Nat.le_of_ble_eq_true rfl, Nat.le_of_ble_eq_true rfl⟩) (va_recv C.2.1 hw.1 (ci := 7) (q0 := 0) rfl (MWa_0 cI cZ a u0)) rfl hl.1 rfl (Nat.le_of_ble_eq_true rfl) dX8_readClass_128 ⟨Nat.zero_le _, Nat.zero_le _⟩ (fun H locs hw => ?_)
        refine lv_if_ne (tgt := 136) hx hb dX8_readClass_131 (by decide) (fun c5 => ?_) (fun c5 => ?_)
        · have h := itF c5 h
          refine lv_aload_n hx hb dX8_readClass_136 rfl (lv_at hl 0 rfl) ?_
          refine r_get C hw hiX8_readClass_X8 0 (MWa_0 cI cZ a u4) rfl 10 (by decide) (by decide +kernel) rfl dX8_readClass_137 ?_
          refine lv_iload_n hx hb dX8_readClass_140 rfl (lv_at hl 1 rfl) ?_
          refine lv_iload_n hx hb dX8_readClass_141 rfl (lv_at hl 3 rfl) ?_
          refine lv_aload_n hx hb dX8_readClass_142 rfl (lv_at hl 0 rfl) ?_
          obtain ⟨r7, h6, h⟩ := b1E h
          refine r_callV (rest := [.int x3, .int x1, .ref (a 5)]) C hw (c_X8_last l D cI cZ z base a u4 r7 h6) (cwV 0 C.1.2.2.2.2 gX8_readClass_X8_last rfl rfl rfl (by decide +kernel) ⟨Nat.le_of_ble_eq_true rfl, Nat.le_of_ble_eq_true rfl⟩) (va_recv C.2.1 hw.1 (ci := 7) (q0 := 0) rfl (MWa_0 cI cZ a u4)) rfl hl.1 rfl (Nat.le_of_ble_eq_true rfl) dX8_readClass_143 ⟨Nat.zero_le _, Nat.zero_le _⟩ (fun H locs hw => ?_)
          refine lv_iadd hx hb dX8_readClass_146 ?_
          obtain ⟨g8, h⟩ := ixE h
          obtain ⟨u9, eu9⟩ : ∃ y : St, y = st u4 5 (x1).toNatClampNeg (x3 + r7) := ⟨_, rfl⟩
          have h := nmE eu9 h
          refine r_ast (ws' := (MW cI cZ a u9)) C hw 5 0 (MWa_5 cI cZ a u4) rfl g8 (by rw [eu9]; exact MWs_5 cI cZ a u4 _ (x3 + r7)) dX8_readClass_147 (fun H locs hw => ?_)
          refine lv_iload_n hx hb dX8_readClass_148 rfl (lv_at hl 3 rfl) ?_
          refine lv_istore (lv' := [(4, .int x3), (0, .ref (a 0)), (1, .int x1), (2, .int x2), (3, .int x3)]) hx hb dX8_readClass_149 hl (by decide) rfl (fun ls hl => ?_)
          exact J151 fu x1 x2 x3 u9 _ _ _ h hw (lv_sub hl [1, 2, 3, 0] rfl)
        · have h := itT c5 h
          refine lv_iconst (v := 0) hx hb dX8_readClass_134 (by decide) ?_
          exact r_zret (f := MW cI cZ a) hQ (by decide) h hw dX8_readClass_135
      · have h := itF c1 h
        refine lv_aload_n hx hb dX8_readClass_92 rfl (lv_at hl 0 rfl) ?_
        refine r_get C hw hiX8_readClass_X8 0 (MWa_0 cI cZ a u0) rfl 11 (by decide) (by decide +kernel) rfl dX8_readClass_93 ?_
        refine lv_bipush (v := 15) hx hb dX8_readClass_96 (by decide) ?_
        refine lv_iload_n hx hb dX8_readClass_98 rfl (lv_at hl 1 rfl) ?_
        refine lv_imul hx hb dX8_readClass_99 ?_
        refine lv_iload hx hb dX8_readClass_100 (lv_at hl 4 rfl) ?_
        refine lv_iadd hx hb dX8_readClass_102 ?_
        refine lv_aload_n hx hb dX8_readClass_103 rfl (lv_at hl 0 rfl) ?_
        refine r_get C hw hiX8_readClass_X8 0 (MWa_0 cI cZ a u0) rfl 11 (by decide) (by decide +kernel) rfl dX8_readClass_104 ?_
        refine lv_bipush (v := 15) hx hb dX8_readClass_107 (by decide) ?_
        refine lv_iload_n hx hb dX8_readClass_109 rfl (lv_at hl 2 rfl) ?_
        refine lv_imul hx hb dX8_readClass_110 ?_
        refine lv_iload hx hb dX8_readClass_111 (lv_at hl 4 rfl) ?_
        refine lv_iadd hx hb dX8_readClass_113 ?_
        obtain ⟨g10, h⟩ := ixE h
        refine r_ald C hw 6 0 (MWa_6 cI cZ a u0) rfl g10 dX8_readClass_114 ?_
        obtain ⟨g11, h⟩ := ixE h
        obtain ⟨u12, eu12⟩ : ∃ y : St, y = st u0 6 (((15 * x1) + x4)).toNatClampNeg (u0 6 (((15 * x2) + x4)).toNatClampNeg) := ⟨_, rfl⟩
        have h := nmE eu12 h
        refine r_ast (ws' := (MW cI cZ a u12)) C hw 6 0 (MWa_6 cI cZ a u0) rfl g11 (by rw [eu12]; exact MWs_6 cI cZ a u0 _ (u0 6 (((15 * x2) + x4)).toNatClampNeg)) dX8_readClass_115 (fun H locs hw => ?_)
        obtain ⟨v13, ev13⟩ : ∃ y : Int32, y = x4 + 1 := ⟨_, rfl⟩
        have h := nmE ev13 h
        refine lv_iinc (v := v13) (lv' := [(4, .int v13), (0, .ref (a 0)), (1, .int x1), (2, .int x2), (3, .int x3)]) hx hb dX8_readClass_116 hl (k := 4) rfl (by rw [ev13]; rfl) (by decide) rfl (fun ls hl => ?_)
        refine lv_goto (tgt := 86) hx hb dX8_readClass_119 (by decide) ?_
        exact ih86 x1 x2 x3 v13 u12 _ _ _ h hw (lv_sub hl [1, 2, 3, 4, 0] rfl)
  have J82 : ∀ (x1 x2 t0 : Int32) (u0 : St) (H : Heap) (locs : List Loc) (ls : Array Slot), F_X8_readClass_82 x1 x2 t0 u0 = some (ro, uo) → Wd D A s.heap H locs (MW cI cZ a u0) → lv_has ls 8 [(0, .ref (a 0)), (1, .int x1), (2, .int x2)] → W p l e rmX8_readClass s m args below meth c H locs 0 0 Q (F0 m 82 ls [.int t0]) := by
    intro x1 x2 t0 u0 H locs ls h hw hl
    rw [F_X8_readClass_82] at h
    refine lv_istore_n (lv' := [(3, .int t0), (0, .ref (a 0)), (1, .int x1), (2, .int x2)]) hx hb dX8_readClass_82 rfl hl (by decide) rfl (fun ls hl => ?_)
    refine lv_iconst (v := 0) hx hb dX8_readClass_83 (by decide) ?_
    refine lv_istore (lv' := [(4, .int 0), (3, .int t0), (0, .ref (a 0)), (1, .int x1), (2, .int x2)]) hx hb dX8_readClass_84 hl (by decide) rfl (fun ls hl => ?_)
    exact J86 fu x1 x2 t0 0 u0 _ _ _ h hw (lv_sub hl [2, 3, 4, 1, 0] rfl)
  have J50 : ∀ (x1 t0 t1 : Int32) (u0 : St) (H : Heap) (locs : List Loc) (ls : Array Slot), F_X8_readClass_50 x1 t0 t1 u0 = some (ro, uo) → Wd D A s.heap H locs (MW cI cZ a u0) → lv_has ls 8 [(0, .ref (a 0)), (1, .int x1)] → W p l e rmX8_readClass s m args below meth c H locs 0 0 Q (F0 m 50 ls [.int t0, .int t1, .ref (a 4)]) := by
    intro x1 t0 t1 u0 H locs ls h hw hl
    rw [F_X8_readClass_50] at h
    obtain ⟨g1, h⟩ := ixE h
    obtain ⟨u2, eu2⟩ : ∃ y : St, y = st u0 4 (t1).toNatClampNeg t0 := ⟨_, rfl⟩
    have h := nmE eu2 h
    refine r_ast (ws' := (MW cI cZ a u2)) C hw 4 0 (MWa_4 cI cZ a u0) rfl g1 (by rw [eu2]; exact MWs_4 cI cZ a u0 _ t0) dX8_readClass_50 (fun H locs hw => ?_)
    refine lv_aload_n hx hb dX8_readClass_51 rfl (lv_at hl 0 rfl) ?_
    refine lv_dup hx hb dX8_readClass_52 rfl ?_
    refine r_get C hw hiX8_readClass_X8 0 (MWa_0 cI cZ a u2) rfl 5 (by decide) (by decide +kernel) rfl dX8_readClass_53 ?_
    refine lv_iconst (v := 1) hx hb dX8_readClass_56 (by decide) ?_
    refine lv_iadd hx hb dX8_readClass_57 ?_
    obtain ⟨u3, eu3⟩ : ∃ y : St, y = st u2 0 5 ((u2 0 5) + 1) := ⟨_, rfl⟩
    have h := nmE eu3 h
    refine r_put (ws' := (MW cI cZ a u3)) C hw hiX8_readClass_X8 tyX8 tyX8_ok nmX8 0 (MWa_0 cI cZ a u2) rfl 5 (by decide) (by decide +kernel) rfl (ty := .int) (by decide +kernel) rfl rfl (Nat.le_of_ble_eq_true rfl) (by rw [eu3]; exact MWs_0_5 cI cZ a u2 ((u2 0 5) + 1)) dX8_readClass_58 (fun H locs hw => ?_)
    refine lv_aload_n hx hb dX8_readClass_61 rfl (lv_at hl 0 rfl) ?_
    refine r_get C hw hiX8_readClass_X8 0 (MWa_0 cI cZ a u3) rfl 9 (by decide) (by decide +kernel) rfl dX8_readClass_62 ?_
    refine lv_iload_n hx hb dX8_readClass_65 rfl (lv_at hl 1 rfl) ?_
    obtain ⟨g4, h⟩ := ixE h
    refine r_ald C hw 4 0 (MWa_4 cI cZ a u3) rfl g4 dX8_readClass_66 ?_
    refine lv_topi (fun v5 ev5 => ?_)
    have h := nmE ev5 h
    refine lv_istore_n (lv' := [(2, .int v5), (0, .ref (a 0)), (1, .int x1)]) hx hb dX8_readClass_67 rfl hl (by decide) rfl (fun ls hl => ?_)
    refine lv_iload_n hx hb dX8_readClass_68 rfl (lv_at hl 0 rfl) ?_
    refine lv_if_ge (tgt := 76) hx hb dX8_readClass_69 (by decide) (fun c6 => ?_) (fun c6 => ?_)
    · have h := itT c6 h
      refine lv_aload_n hx hb dX8_readClass_76 rfl (lv_at hl 1 rfl) ?_
      refine r_get C hw hiX8_readClass_X8 0 (MWa_0 cI cZ a u3) rfl 10 (by decide) (by decide +kernel) rfl dX8_readClass_77 ?_
      refine lv_iload_n hx hb dX8_readClass_80 rfl (lv_at hl 0 rfl) ?_
      obtain ⟨g7, h⟩ := ixE h
      refine r_ald C hw 5 0 (MWa_5 cI cZ a u3) rfl g7 dX8_readClass_81 ?_
      exact J82 x1 v5 (u3 5 (v5).toNatClampNeg) u3 _ _ _ h hw (lv_sub hl [1, 2, 0] rfl)
    · have h := itF c6 h
      refine lv_iconst (v := 0) hx hb dX8_readClass_72 (by decide) ?_
      refine lv_goto (tgt := 82) hx hb dX8_readClass_73 (by decide) ?_
      exact J82 x1 v5 0 u3 _ _ _ h hw (lv_sub hl [1, 2, 0] rfl)
  have J27 : ∀ (x1 : Int32) (u0 : St) (H : Heap) (locs : List Loc) (ls : Array Slot), F_X8_readClass_27 x1 u0 = some (ro, uo) → Wd D A s.heap H locs (MW cI cZ a u0) → lv_has ls 8 [(0, .ref (a 0)), (1, .int x1)] → W p l e rmX8_readClass s m args below meth c H locs 0 0 Q (F0 m 27 ls []) := by
    intro x1 u0 H locs ls h hw hl
    rw [F_X8_readClass_27] at h
    refine lv_aload_n hx hb dX8_readClass_27 rfl (lv_at hl 0 rfl) ?_
    refine r_get C hw hiX8_readClass_X8 0 (MWa_0 cI cZ a u0) rfl 9 (by decide) (by decide +kernel) rfl dX8_readClass_28 ?_
    refine lv_iload_n hx hb dX8_readClass_31 rfl (lv_at hl 1 rfl) ?_
    refine lv_aload_n hx hb dX8_readClass_32 rfl (lv_at hl 0 rfl) ?_
    obtain ⟨r2, h1, h⟩ := b1E h
    refine r_callV (rest := [.int x1, .ref (a 4)]) C hw (c_X8_here l D cI cZ z base a u0 r2 h1) (cwV 0 C.1.2.2.2.2 gX8_readClass_X8_here rfl rfl rfl (by decide +kernel) ⟨Nat.le_of_ble_eq_true rfl, Nat.le_of_ble_eq_true rfl⟩) (va_recv C.2.1 hw.1 (ci := 7) (q0 := 0) rfl (MWa_0 cI cZ a u0)) rfl hl.1 rfl (Nat.le_of_ble_eq_true rfl) dX8_readClass_33 ⟨Nat.zero_le _, Nat.zero_le _⟩ (fun H locs hw => ?_)
    refine lv_sipush (v := 255) hx hb dX8_readClass_36 (by decide) ?_
    refine lv_icmp_ne (tgt := 46) hx hb dX8_readClass_39 (by decide) (fun c3 => ?_) (fun c3 => ?_)
    · have h := itF c3 h
      refine lv_aload_n hx hb dX8_readClass_46 rfl (lv_at hl 0 rfl) ?_
      obtain ⟨r5, h4, h⟩ := b1E h
      refine r_callV (rest := [.int x1, .ref (a 4)]) C hw (c_X8_here l D cI cZ z base a u0 r5 h4) (cwV 0 C.1.2.2.2.2 gX8_readClass_X8_here rfl rfl rfl (by decide +kernel) ⟨Nat.le_of_ble_eq_true rfl, Nat.le_of_ble_eq_true rfl⟩) (va_recv C.2.1 hw.1 (ci := 7) (q0 := 0) rfl (MWa_0 cI cZ a u0)) rfl hl.1 rfl (Nat.le_of_ble_eq_true rfl) dX8_readClass_47 ⟨Nat.zero_le _, Nat.zero_le _⟩ (fun H locs hw => ?_)
      exact J50 x1 r5 x1 u0 _ _ _ h hw hl
    · have h := itT c3 h
      refine lv_iconst (v := (-1)) hx hb dX8_readClass_42 (by decide) ?_
      refine lv_goto (tgt := 50) hx hb dX8_readClass_43 (by decide) ?_
      exact J50 x1 (-1) x1 u0 _ _ _ h hw hl
  have hl : lv_has ls 8 [(0, .ref (a 0)), (1, .int x1)] := hl
  rw [F_X8_readClass] at h
  refine lv_aload_n hx hb dX8_readClass_0 rfl (lv_at hl 0 rfl) ?_
  obtain ⟨r2, h1, h⟩ := b1E h
  refine r_callV (rest := []) C hw (c_X8_here l D cI cZ z base a u0 r2 h1) (cwV 0 C.1.2.2.2.2 gX8_readClass_X8_here rfl rfl rfl (by decide +kernel) ⟨Nat.le_of_ble_eq_true rfl, Nat.le_of_ble_eq_true rfl⟩) (va_recv C.2.1 hw.1 (ci := 7) (q0 := 0) rfl (MWa_0 cI cZ a u0)) rfl hl.1 rfl (Nat.le_of_ble_eq_true rfl) dX8_readClass_1 ⟨Nat.zero_le _, Nat.zero_le _⟩ (fun H locs hw => ?_)
  refine lv_sipush (v := 255) hx hb dX8_readClass_4 (by decide) ?_
  refine lv_icmp_eq (tgt := 27) hx hb dX8_readClass_7 (by decide) (fun c3 => ?_) (fun c3 => ?_)
  · have h := itT c3 h
    exact J27 x1 u0 _ _ _ h hw hl
  · have h := itF c3 h
    refine lv_aload_n hx hb dX8_readClass_10 rfl (lv_at hl 0 rfl) ?_
    obtain ⟨r5, h4, h⟩ := b1E h
    refine r_callV (rest := []) C hw (c_X8_here l D cI cZ z base a u0 r5 h4) (cwV 0 C.1.2.2.2.2 gX8_readClass_X8_here rfl rfl rfl (by decide +kernel) ⟨Nat.le_of_ble_eq_true rfl, Nat.le_of_ble_eq_true rfl⟩) (va_recv C.2.1 hw.1 (ci := 7) (q0 := 0) rfl (MWa_0 cI cZ a u0)) rfl hl.1 rfl (Nat.le_of_ble_eq_true rfl) dX8_readClass_11 ⟨Nat.zero_le _, Nat.zero_le _⟩ (fun H locs hw => ?_)
    refine lv_iload_n hx hb dX8_readClass_14 rfl (lv_at hl 1 rfl) ?_
    refine lv_icmp_lt (tgt := 27) hx hb dX8_readClass_15 (by decide) (fun c6 => ?_) (fun c6 => ?_)
    · have h := itT c6 h
      exact J27 x1 u0 _ _ _ h hw hl
    · have h := itF c6 h
      refine lv_aload_n hx hb dX8_readClass_18 rfl (lv_at hl 0 rfl) ?_
      refine lv_aload_n hx hb dX8_readClass_19 rfl (lv_at hl 0 rfl) ?_
      refine r_get C hw hiX8_readClass_X8 0 (MWa_0 cI cZ a u0) rfl 5 (by decide) (by decide +kernel) rfl dX8_readClass_20 ?_
      obtain ⟨r8, u9, h7, h⟩ := b2E h
      refine r_callV (rest := []) C hw (c_X8_bad l D cI cZ z base a (u0 0 5) u0 r8 u9 h7) (cwV 1 C.1.2.2.2.2 gX8_readClass_X8_bad rfl rfl rfl (by decide +kernel) ⟨Nat.le_of_ble_eq_true rfl, Nat.le_of_ble_eq_true rfl⟩) (va_recv C.2.1 hw.1 (ci := 7) (q0 := 0) rfl (MWa_0 cI cZ a u0)) rfl hl.1 rfl (Nat.le_of_ble_eq_true rfl) dX8_readClass_23 ⟨Nat.zero_le _, Nat.zero_le _⟩ (fun H locs hw => ?_)
      obtain ⟨g10, h⟩ := boE h
      exact r_zret (f := MW cI cZ a) hQ g10 h hw dX8_readClass_26
abbrev rmX8_wide : Room := { frames := 0, cells := 0, slots := 0, locals := 0 }
set_option maxHeartbeats 4000000 in
set_option maxRecDepth 100000 in
theorem c_X8_wide (l : Launch) (D : va_G) (cI cZ : ClassId) (z : Nat → Nat) (base : Nat) (a : Nat → Nat) (x0 : Int32) (u0 : St) (ro : Int32) (h : F_X8_wide x0 u0 = some ro) : MI l D [(cI, .int), (cZ, .boolean)] z base yX8_wide wsX8_wide rmX8_wide [.int x0] (MW cI cZ a u0) ro (MW cI cZ a u0) := by
  refine MI.ofI (own := RX8) (cc := cX8_wide) (maxL := 1) (by decide) rfl rfl (Nat.le_of_ble_eq_true rfl) ?_
  intro p e s m args below meth c A Q ls C hl hw hQ
  have hx := C.1.1
  have hb := C.1.2.1
  have J20 : ∀ (H : Heap) (locs : List Loc) (ls : Array Slot), F_X8_wide_20 u0 = some ro → Wd D A s.heap H locs (MW cI cZ a u0) → lv_has ls 1 [] → W p l e rmX8_wide s m args below meth c H locs 0 0 Q (F0 m 20 ls []) := by
    intro H locs ls h hw hl
    rw [F_X8_wide_20] at h
    refine lv_iconst (v := 4) hx hb dX8_wide_20 (by decide) ?_
    refine lv_goto (tgt := 97) hx hb dX8_wide_21 (by decide) ?_
    exact r_iretP hQ h hw dX8_wide_97
  have J54 : ∀ (H : Heap) (locs : List Loc) (ls : Array Slot), F_X8_wide_54 u0 = some ro → Wd D A s.heap H locs (MW cI cZ a u0) → lv_has ls 1 [] → W p l e rmX8_wide s m args below meth c H locs 0 0 Q (F0 m 54 ls []) := by
    intro H locs ls h hw hl
    rw [F_X8_wide_54] at h
    refine lv_iconst (v := 3) hx hb dX8_wide_54 (by decide) ?_
    refine lv_goto (tgt := 97) hx hb dX8_wide_55 (by decide) ?_
    exact r_iretP hQ h hw dX8_wide_97
  have J92 : ∀ (H : Heap) (locs : List Loc) (ls : Array Slot), F_X8_wide_92 u0 = some ro → Wd D A s.heap H locs (MW cI cZ a u0) → lv_has ls 1 [] → W p l e rmX8_wide s m args below meth c H locs 0 0 Q (F0 m 92 ls []) := by
    intro H locs ls h hw hl
    rw [F_X8_wide_92] at h
    refine lv_iconst (v := 2) hx hb dX8_wide_92 (by decide) ?_
    refine lv_goto (tgt := 97) hx hb dX8_wide_93 (by decide) ?_
    exact r_iretP hQ h hw dX8_wide_97
  have J86 : ∀ (x0 : Int32) (H : Heap) (locs : List Loc) (ls : Array Slot), F_X8_wide_86 x0 u0 = some ro → Wd D A s.heap H locs (MW cI cZ a u0) → lv_has ls 1 [(0, .int x0)] → W p l e rmX8_wide s m args below meth c H locs 0 0 Q (F0 m 86 ls []) := by
    intro x0 H locs ls h hw hl
    rw [F_X8_wide_86] at h
    refine lv_iload_n hx hb dX8_wide_86 rfl (lv_at hl 0 rfl) ?_
    refine lv_bipush (v := 35) hx hb dX8_wide_87 (by decide) ?_
    refine lv_icmp_ne (tgt := 96) hx hb dX8_wide_89 (by decide) (fun c1 => ?_) (fun c1 => ?_)
    · have h := itF c1 h
      refine lv_iconst (v := 1) hx hb dX8_wide_96 (by decide) ?_
      exact r_iretP hQ h hw dX8_wide_97
    · have h := itT c1 h
      exact J92  _ _ _ h hw (lv_sub hl [] rfl)
  have J36 : ∀ (x0 : Int32) (H : Heap) (locs : List Loc) (ls : Array Slot), F_X8_wide_36 x0 u0 = some ro → Wd D A s.heap H locs (MW cI cZ a u0) → lv_has ls 1 [(0, .int x0)] → W p l e rmX8_wide s m args below meth c H locs 0 0 Q (F0 m 36 ls []) := by
    intro x0 H locs ls h hw hl
    rw [F_X8_wide_36] at h
    refine lv_iload_n hx hb dX8_wide_36 rfl (lv_at hl 0 rfl) ?_
    refine lv_bipush (v := 27) hx hb dX8_wide_37 (by decide) ?_
    refine lv_icmp_eq (tgt := 54) hx hb dX8_wide_39 (by decide) (fun c1 => ?_) (fun c1 => ?_)
    · have h := itT c1 h
      exact J54  _ _ _ h hw (lv_sub hl [] rfl)
    · have h := itF c1 h
      refine lv_iload_n hx hb dX8_wide_42 rfl (lv_at hl 0 rfl) ?_
      refine lv_bipush (v := 28) hx hb dX8_wide_43 (by decide) ?_
      refine lv_icmp_eq (tgt := 54) hx hb dX8_wide_45 (by decide) (fun c2 => ?_) (fun c2 => ?_)
      · have h := itT c2 h
        exact J54  _ _ _ h hw (lv_sub hl [] rfl)
      · have h := itF c2 h
        refine lv_iload_n hx hb dX8_wide_48 rfl (lv_at hl 0 rfl) ?_
        refine lv_bipush (v := 36) hx hb dX8_wide_49 (by decide) ?_
        refine lv_icmp_ne (tgt := 58) hx hb dX8_wide_51 (by decide) (fun c3 => ?_) (fun c3 => ?_)
        · have h := itF c3 h
          refine lv_iload_n hx hb dX8_wide_58 rfl (lv_at hl 0 rfl) ?_
          refine lv_iconst (v := 2) hx hb dX8_wide_59 (by decide) ?_
          refine lv_icmp_eq (tgt := 92) hx hb dX8_wide_60 (by decide) (fun c4 => ?_) (fun c4 => ?_)
          · have h := itT c4 h
            exact J92  _ _ _ h hw (lv_sub hl [] rfl)
          · have h := itF c4 h
            refine lv_iload_n hx hb dX8_wide_63 rfl (lv_at hl 0 rfl) ?_
            refine lv_iconst (v := 3) hx hb dX8_wide_64 (by decide) ?_
            refine lv_icmp_eq (tgt := 92) hx hb dX8_wide_65 (by decide) (fun c5 => ?_) (fun c5 => ?_)
            · have h := itT c5 h
              exact J92  _ _ _ h hw (lv_sub hl [] rfl)
            · have h := itF c5 h
              refine lv_iload_n hx hb dX8_wide_68 rfl (lv_at hl 0 rfl) ?_
              refine lv_bipush (v := 26) hx hb dX8_wide_69 (by decide) ?_
              refine lv_icmp_eq (tgt := 92) hx hb dX8_wide_71 (by decide) (fun c6 => ?_) (fun c6 => ?_)
              · have h := itT c6 h
                exact J92  _ _ _ h hw (lv_sub hl [] rfl)
              · have h := itF c6 h
                refine lv_iload_n hx hb dX8_wide_74 rfl (lv_at hl 0 rfl) ?_
                refine lv_bipush (v := 29) hx hb dX8_wide_75 (by decide) ?_
                refine lv_icmp_lt (tgt := 86) hx hb dX8_wide_77 (by decide) (fun c7 => ?_) (fun c7 => ?_)
                · have h := itT c7 h
                  exact J86 x0 _ _ _ h hw hl
                · have h := itF c7 h
                  refine lv_iload_n hx hb dX8_wide_80 rfl (lv_at hl 0 rfl) ?_
                  refine lv_bipush (v := 31) hx hb dX8_wide_81 (by decide) ?_
                  refine lv_icmp_le (tgt := 92) hx hb dX8_wide_83 (by decide) (fun c8 => ?_) (fun c8 => ?_)
                  · have h := itT c8 h
                    exact J92  _ _ _ h hw (lv_sub hl [] rfl)
                  · have h := itF c8 h
                    exact J86 x0 _ _ _ h hw hl
        · have h := itT c3 h
          exact J54  _ _ _ h hw (lv_sub hl [] rfl)
  have hl : lv_has ls 1 [(0, .int x0)] := hl
  rw [F_X8_wide] at h
  refine lv_iload_n hx hb dX8_wide_0 rfl (lv_at hl 0 rfl) ?_
  refine lv_if_ne (tgt := 8) hx hb dX8_wide_1 (by decide) (fun c1 => ?_) (fun c1 => ?_)
  · have h := itF c1 h
    refine lv_iload_n hx hb dX8_wide_8 rfl (lv_at hl 0 rfl) ?_
    refine lv_bipush (v := 19) hx hb dX8_wide_9 (by decide) ?_
    refine lv_icmp_eq (tgt := 20) hx hb dX8_wide_11 (by decide) (fun c2 => ?_) (fun c2 => ?_)
    · have h := itT c2 h
      exact J20  _ _ _ h hw (lv_sub hl [] rfl)
    · have h := itF c2 h
      refine lv_iload_n hx hb dX8_wide_14 rfl (lv_at hl 0 rfl) ?_
      refine lv_bipush (v := 20) hx hb dX8_wide_15 (by decide) ?_
      refine lv_icmp_ne (tgt := 24) hx hb dX8_wide_17 (by decide) (fun c3 => ?_) (fun c3 => ?_)
      · have h := itF c3 h
        refine lv_iload_n hx hb dX8_wide_24 rfl (lv_at hl 0 rfl) ?_
        refine lv_bipush (v := 21) hx hb dX8_wide_25 (by decide) ?_
        refine lv_icmp_lt (tgt := 36) hx hb dX8_wide_27 (by decide) (fun c4 => ?_) (fun c4 => ?_)
        · have h := itT c4 h
          exact J36 x0 _ _ _ h hw hl
        · have h := itF c4 h
          refine lv_iload_n hx hb dX8_wide_30 rfl (lv_at hl 0 rfl) ?_
          refine lv_bipush (v := 25) hx hb dX8_wide_31 (by decide) ?_
          refine lv_icmp_le (tgt := 54) hx hb dX8_wide_33 (by decide) (fun c5 => ?_) (fun c5 => ?_)
          · have h := itT c5 h
            exact J54  _ _ _ h hw (lv_sub hl [] rfl)
          · have h := itF c5 h
            exact J36 x0 _ _ _ h hw hl
      · have h := itT c3 h
        exact J20  _ _ _ h hw (lv_sub hl [] rfl)
  · have h := itT c1 h
    refine lv_iconst (v := 5) hx hb dX8_wide_4 (by decide) ?_
    refine lv_goto (tgt := 97) hx hb dX8_wide_5 (by decide) ?_
    exact r_iretP hQ h hw dX8_wide_97
