abbrev rmX8_readMethod : Room := { frames := 4, cells := 0, slots := 0, locals := 90 }
theorem hiX8_readMethod_X8 : ∀ w ∈ wsX80, w ∈ wsX8_readMethod := by decide +kernel
set_option maxHeartbeats 4000000 in
set_option maxRecDepth 100000 in
theorem c_X8_readMethod (l : Launch) (D : va_G) (cI cZ : ClassId) (z : Nat → Nat) (base : Nat) (a : Nat → Nat) (x1 : Int32) (u0 : St) (ro : Int32) (uo : St) (h : F_X8_readMethod x1 u0 = some (ro, uo)) : MI l D [(cI, .int), (cZ, .boolean)] z base yX8_readMethod wsX8_readMethod rmX8_readMethod [.ref (a 0), .int x1] (MW cI cZ a u0) ro (MW cI cZ a uo) := by
  refine MI.ofZ (own := RX8) (cc := cX8_readMethod) (maxL := 7) (by decide) rfl rfl (Nat.le_of_ble_eq_true rfl) ?_
  intro p e s m args below meth c A Q ls C hl hw hQ
  have hx := C.1.1
  have hb := C.1.2.1
  have J388 : ∀ n388 : Nat, ∀ (x1 x5 : Int32) (u0 : St) (H : Heap) (locs : List Loc) (ls : Array Slot), F_X8_readMethod_388 n388 x1 x5 u0 = some (ro, uo) → Wd D A s.heap H locs (MW cI cZ a u0) → lv_has ls 7 [(0, .ref (a 0)), (1, .int x1), (5, .int x5)] → W p l e rmX8_readMethod s m args below meth c H locs 0 0 Q (F0 m 388 ls []) := by
    intro n388
    induction n388 with
    | zero => intro x1 x5 u0 H locs ls h; rw [F_X8_readMethod_388] at h; cases h
    | succ n388 ih388 =>
      have J477 : ∀ (x1 x5 t0 : Int32) (u0 : St) (H : Heap) (locs : List Loc) (ls : Array Slot), F_X8_readMethod_477 (F_X8_readMethod_388 n388) x1 x5 t0 u0 = some (ro, uo) → Wd D A s.heap H locs (MW cI cZ a u0) → lv_has ls 7 [(0, .ref (a 0)), (1, .int x1), (5, .int x5)] → W p l e rmX8_readMethod s m args below meth c H locs 0 0 Q (F0 m 477 ls [.int t0]) := by
        intro x1 x5 t0 u0 H locs ls h hw hl
        rw [F_X8_readMethod_477] at h
        refine lv_istore (lv' := [(6, .int t0), (0, .ref (a 0)), (1, .int x1), (5, .int x5)]) hx hb dX8_readMethod_477 hl (by decide) rfl (fun ls hl => ?_)
        refine lv_iload hx hb dX8_readMethod_479 (lv_at hl 0 rfl) ?_
        refine lv_if_ne (tgt := 486) hx hb dX8_readMethod_481 (by decide) (fun c1 => ?_) (fun c1 => ?_)
        · have h := itF c1 h
          obtain ⟨v2, ev2⟩ : ∃ y : Int32, y = x5 + 1 := ⟨_, rfl⟩
          have h := nmE ev2 h
          refine lv_iinc (v := v2) (lv' := [(5, .int v2), (6, .int t0), (0, .ref (a 0)), (1, .int x1)]) hx hb dX8_readMethod_486 hl (k := 3) rfl (by rw [ev2]; rfl) (by decide) rfl (fun ls hl => ?_)
          refine lv_goto (tgt := 388) hx hb dX8_readMethod_489 (by decide) ?_
          exact ih388 x1 v2 u0 _ _ _ h hw (lv_sub hl [2, 3, 0] rfl)
        · have h := itT c1 h
          refine lv_iconst (v := 0) hx hb dX8_readMethod_484 (by decide) ?_
          exact r_zret (f := MW cI cZ a) hQ (by decide) h hw dX8_readMethod_485
      have J476 : ∀ (x1 x5 : Int32) (u0 : St) (H : Heap) (locs : List Loc) (ls : Array Slot), F_X8_readMethod_476 (F_X8_readMethod_388 n388) x1 x5 u0 = some (ro, uo) → Wd D A s.heap H locs (MW cI cZ a u0) → lv_has ls 7 [(0, .ref (a 0)), (1, .int x1), (5, .int x5)] → W p l e rmX8_readMethod s m args below meth c H locs 0 0 Q (F0 m 476 ls []) := by
        intro x1 x5 u0 H locs ls h hw hl
        rw [F_X8_readMethod_476] at h
        refine lv_iconst (v := 0) hx hb dX8_readMethod_476 (by decide) ?_
        exact J477 x1 x5 0 u0 _ _ _ h hw hl
      intro x1 x5 u0 H locs ls h hw hl
      rw [F_X8_readMethod_388] at h
      refine lv_iload hx hb dX8_readMethod_388 (lv_at hl 2 rfl) ?_
      refine lv_aload_n hx hb dX8_readMethod_390 rfl (lv_at hl 0 rfl) ?_
      refine r_get C hw hiX8_readMethod_X8 0 (MWa_0 cI cZ a u0) rfl 24 (by decide) (by decide +kernel) rfl dX8_readMethod_391 ?_
      refine lv_iload_n hx hb dX8_readMethod_394 rfl (lv_at hl 1 rfl) ?_
      obtain ⟨g1, h⟩ := ixE h
      refine r_ald C hw 18 0 (MWa_18 cI cZ a u0) rfl g1 dX8_readMethod_395 ?_
      refine lv_icmp_ge (tgt := 492) hx hb dX8_readMethod_396 (by decide) (fun c2 => ?_) (fun c2 => ?_)
      · have h := itT c2 h
        refine lv_iconst (v := 1) hx hb dX8_readMethod_492 (by decide) ?_
        exact r_zret (f := MW cI cZ a) hQ (by decide) h hw dX8_readMethod_493
      · have h := itF c2 h
        refine lv_aload_n hx hb dX8_readMethod_399 rfl (lv_at hl 0 rfl) ?_
        refine lv_iconst (v := 0) hx hb dX8_readMethod_400 (by decide) ?_
        refine lv_sipush (v := 255) hx hb dX8_readMethod_401 (by decide) ?_
        obtain ⟨r4, u5, h3, h⟩ := b2E h
        refine r_callV (rest := []) C hw (c_X8_over l D cI cZ z base a 0 255 u0 r4 u5 h3) (cwV 2 C.1.2.2.2.2 gX8_readMethod_X8_over rfl rfl rfl (by decide +kernel) ⟨Nat.le_of_ble_eq_true rfl, Nat.le_of_ble_eq_true rfl⟩) (va_recv C.2.1 hw.1 (ci := 7) (q0 := 0) rfl (MWa_0 cI cZ a u0)) rfl hl.1 rfl (Nat.le_of_ble_eq_true rfl) dX8_readMethod_404 ⟨Nat.zero_le _, Nat.zero_le _⟩ (fun H locs hw => ?_)
        refine lv_if_eq (tgt := 476) hx hb dX8_readMethod_407 (by decide) (fun c6 => ?_) (fun c6 => ?_)
        · have h := itT c6 h
          exact J476 x1 x5 u5 _ _ _ h hw hl
        · have h := itF c6 h
          refine lv_aload_n hx hb dX8_readMethod_410 rfl (lv_at hl 0 rfl) ?_
          refine lv_iconst (v := 0) hx hb dX8_readMethod_411 (by decide) ?_
          refine lv_sipush (v := 255) hx hb dX8_readMethod_412 (by decide) ?_
          obtain ⟨r8, u9, h7, h⟩ := b2E h
          refine r_callV (rest := []) C hw (c_X8_over l D cI cZ z base a 0 255 u5 r8 u9 h7) (cwV 2 C.1.2.2.2.2 gX8_readMethod_X8_over rfl rfl rfl (by decide +kernel) ⟨Nat.le_of_ble_eq_true rfl, Nat.le_of_ble_eq_true rfl⟩) (va_recv C.2.1 hw.1 (ci := 7) (q0 := 0) rfl (MWa_0 cI cZ a u5)) rfl hl.1 rfl (Nat.le_of_ble_eq_true rfl) dX8_readMethod_415 ⟨Nat.zero_le _, Nat.zero_le _⟩ (fun H locs hw => ?_)
          refine lv_if_eq (tgt := 476) hx hb dX8_readMethod_418 (by decide) (fun c10 => ?_) (fun c10 => ?_)
          · have h := itT c10 h
            exact J476 x1 x5 u9 _ _ _ h hw hl
          · have h := itF c10 h
            refine lv_aload_n hx hb dX8_readMethod_421 rfl (lv_at hl 0 rfl) ?_
            refine lv_iconst (v := 0) hx hb dX8_readMethod_422 (by decide) ?_
            refine lv_sipush (v := 255) hx hb dX8_readMethod_423 (by decide) ?_
            obtain ⟨r12, u13, h11, h⟩ := b2E h
            refine r_callV (rest := []) C hw (c_X8_over l D cI cZ z base a 0 255 u9 r12 u13 h11) (cwV 2 C.1.2.2.2.2 gX8_readMethod_X8_over rfl rfl rfl (by decide +kernel) ⟨Nat.le_of_ble_eq_true rfl, Nat.le_of_ble_eq_true rfl⟩) (va_recv C.2.1 hw.1 (ci := 7) (q0 := 0) rfl (MWa_0 cI cZ a u9)) rfl hl.1 rfl (Nat.le_of_ble_eq_true rfl) dX8_readMethod_426 ⟨Nat.zero_le _, Nat.zero_le _⟩ (fun H locs hw => ?_)
            refine lv_if_eq (tgt := 476) hx hb dX8_readMethod_429 (by decide) (fun c14 => ?_) (fun c14 => ?_)
            · have h := itT c14 h
              exact J476 x1 x5 u13 _ _ _ h hw hl
            · have h := itF c14 h
              refine lv_aload_n hx hb dX8_readMethod_432 rfl (lv_at hl 0 rfl) ?_
              refine lv_iconst (v := 0) hx hb dX8_readMethod_433 (by decide) ?_
              refine lv_sipush (v := 255) hx hb dX8_readMethod_434 (by decide) ?_
              obtain ⟨r16, u17, h15, h⟩ := b2E h
              refine r_callV (rest := []) C hw (c_X8_over l D cI cZ z base a 0 255 u13 r16 u17 h15) (cwV 2 C.1.2.2.2.2 gX8_readMethod_X8_over rfl rfl rfl (by decide +kernel) ⟨Nat.le_of_ble_eq_true rfl, Nat.le_of_ble_eq_true rfl⟩) (va_recv C.2.1 hw.1 (ci := 7) (q0 := 0) rfl (MWa_0 cI cZ a u13)) rfl hl.1 rfl (Nat.le_of_ble_eq_true rfl) dX8_readMethod_437 ⟨Nat.zero_le _, Nat.zero_le _⟩ (fun H locs hw => ?_)
              refine lv_if_eq (tgt := 476) hx hb dX8_readMethod_440 (by decide) (fun c18 => ?_) (fun c18 => ?_)
              · have h := itT c18 h
                exact J476 x1 x5 u17 _ _ _ h hw hl
              · have h := itF c18 h
                refine lv_aload_n hx hb dX8_readMethod_443 rfl (lv_at hl 0 rfl) ?_
                obtain ⟨r20, u21, h19, h⟩ := b2E h
                refine r_callV (rest := []) C hw (c_X8_overClass l D cI cZ z base a u17 r20 u21 h19) (cwV 0 C.1.2.2.2.2 gX8_readMethod_X8_overClass rfl rfl rfl (by decide +kernel) ⟨Nat.le_of_ble_eq_true rfl, Nat.le_of_ble_eq_true rfl⟩) (va_recv C.2.1 hw.1 (ci := 7) (q0 := 0) rfl (MWa_0 cI cZ a u17)) rfl hl.1 rfl (Nat.le_of_ble_eq_true rfl) dX8_readMethod_444 ⟨Nat.zero_le _, Nat.zero_le _⟩ (fun H locs hw => ?_)
                refine lv_if_eq (tgt := 476) hx hb dX8_readMethod_447 (by decide) (fun c22 => ?_) (fun c22 => ?_)
                · have h := itT c22 h
                  exact J476 x1 x5 u21 _ _ _ h hw hl
                · have h := itF c22 h
                  refine lv_aload_n hx hb dX8_readMethod_450 rfl (lv_at hl 0 rfl) ?_
                  refine lv_iconst (v := 0) hx hb dX8_readMethod_451 (by decide) ?_
                  refine lv_sipush (v := 255) hx hb dX8_readMethod_452 (by decide) ?_
                  obtain ⟨r24, u25, h23, h⟩ := b2E h
                  refine r_callV (rest := []) C hw (c_X8_over l D cI cZ z base a 0 255 u21 r24 u25 h23) (cwV 2 C.1.2.2.2.2 gX8_readMethod_X8_over rfl rfl rfl (by decide +kernel) ⟨Nat.le_of_ble_eq_true rfl, Nat.le_of_ble_eq_true rfl⟩) (va_recv C.2.1 hw.1 (ci := 7) (q0 := 0) rfl (MWa_0 cI cZ a u21)) rfl hl.1 rfl (Nat.le_of_ble_eq_true rfl) dX8_readMethod_455 ⟨Nat.zero_le _, Nat.zero_le _⟩ (fun H locs hw => ?_)
                  refine lv_if_eq (tgt := 476) hx hb dX8_readMethod_458 (by decide) (fun c26 => ?_) (fun c26 => ?_)
                  · have h := itT c26 h
                    exact J476 x1 x5 u25 _ _ _ h hw hl
                  · have h := itF c26 h
                    refine lv_aload_n hx hb dX8_readMethod_461 rfl (lv_at hl 0 rfl) ?_
                    refine lv_iconst (v := 0) hx hb dX8_readMethod_462 (by decide) ?_
                    refine lv_sipush (v := 255) hx hb dX8_readMethod_463 (by decide) ?_
                    obtain ⟨r28, u29, h27, h⟩ := b2E h
                    refine r_callV (rest := []) C hw (c_X8_over l D cI cZ z base a 0 255 u25 r28 u29 h27) (cwV 2 C.1.2.2.2.2 gX8_readMethod_X8_over rfl rfl rfl (by decide +kernel) ⟨Nat.le_of_ble_eq_true rfl, Nat.le_of_ble_eq_true rfl⟩) (va_recv C.2.1 hw.1 (ci := 7) (q0 := 0) rfl (MWa_0 cI cZ a u25)) rfl hl.1 rfl (Nat.le_of_ble_eq_true rfl) dX8_readMethod_466 ⟨Nat.zero_le _, Nat.zero_le _⟩ (fun H locs hw => ?_)
                    refine lv_if_eq (tgt := 476) hx hb dX8_readMethod_469 (by decide) (fun c30 => ?_) (fun c30 => ?_)
                    · have h := itT c30 h
                      exact J476 x1 x5 u29 _ _ _ h hw hl
                    · have h := itF c30 h
                      refine lv_iconst (v := 1) hx hb dX8_readMethod_472 (by decide) ?_
                      refine lv_goto (tgt := 477) hx hb dX8_readMethod_473 (by decide) ?_
                      exact J477 x1 x5 1 u29 _ _ _ h hw hl
  have J332 : ∀ n332 : Nat, ∀ (x1 x4 : Int32) (u0 : St) (H : Heap) (locs : List Loc) (ls : Array Slot), F_X8_readMethod_332 n332 x1 x4 u0 = some (ro, uo) → Wd D A s.heap H locs (MW cI cZ a u0) → lv_has ls 7 [(0, .ref (a 0)), (1, .int x1), (4, .int x4)] → W p l e rmX8_readMethod s m args below meth c H locs 0 0 Q (F0 m 332 ls []) := by
    intro n332
    induction n332 with
    | zero => intro x1 x4 u0 H locs ls h; rw [F_X8_readMethod_332] at h; cases h
    | succ n332 ih332 =>
      intro x1 x4 u0 H locs ls h hw hl
      rw [F_X8_readMethod_332] at h
      refine lv_aload_n hx hb dX8_readMethod_332 rfl (lv_at hl 0 rfl) ?_
      refine r_get C hw hiX8_readMethod_X8 0 (MWa_0 cI cZ a u0) rfl 5 (by decide) (by decide +kernel) rfl dX8_readMethod_333 ?_
      refine lv_iload hx hb dX8_readMethod_336 (lv_at hl 2 rfl) ?_
      refine lv_icmp_ge (tgt := 353) hx hb dX8_readMethod_338 (by decide) (fun c1 => ?_) (fun c1 => ?_)
      · have h := itT c1 h
        refine lv_aload_n hx hb dX8_readMethod_353 rfl (lv_at hl 0 rfl) ?_
        refine lv_iconst (v := 0) hx hb dX8_readMethod_354 (by decide) ?_
        refine lv_bipush (v := 8) hx hb dX8_readMethod_355 (by decide) ?_
        obtain ⟨r3, u4, h2, h⟩ := b2E h
        refine r_callV (rest := []) C hw (c_X8_over l D cI cZ z base a 0 8 u0 r3 u4 h2) (cwV 2 C.1.2.2.2.2 gX8_readMethod_X8_over rfl rfl rfl (by decide +kernel) ⟨Nat.le_of_ble_eq_true rfl, Nat.le_of_ble_eq_true rfl⟩) (va_recv C.2.1 hw.1 (ci := 7) (q0 := 0) rfl (MWa_0 cI cZ a u0)) rfl hl.1 rfl (Nat.le_of_ble_eq_true rfl) dX8_readMethod_357 ⟨Nat.zero_le _, Nat.zero_le _⟩ (fun H locs hw => ?_)
        refine lv_if_ne (tgt := 365) hx hb dX8_readMethod_360 (by decide) (fun c5 => ?_) (fun c5 => ?_)
        · have h := itF c5 h
          refine lv_aload_n hx hb dX8_readMethod_365 rfl (lv_at hl 0 rfl) ?_
          refine r_get C hw hiX8_readMethod_X8 0 (MWa_0 cI cZ a u4) rfl 24 (by decide) (by decide +kernel) rfl dX8_readMethod_366 ?_
          refine lv_iload_n hx hb dX8_readMethod_369 rfl (lv_at hl 1 rfl) ?_
          refine lv_aload_n hx hb dX8_readMethod_370 rfl (lv_at hl 0 rfl) ?_
          obtain ⟨r7, h6, h⟩ := b1E h
          refine r_callV (rest := [.int x1, .ref (a 18)]) C hw (c_X8_last l D cI cZ z base a u4 r7 h6) (cwV 0 C.1.2.2.2.2 gX8_readMethod_X8_last rfl rfl rfl (by decide +kernel) ⟨Nat.le_of_ble_eq_true rfl, Nat.le_of_ble_eq_true rfl⟩) (va_recv C.2.1 hw.1 (ci := 7) (q0 := 0) rfl (MWa_0 cI cZ a u4)) rfl hl.1 rfl (Nat.le_of_ble_eq_true rfl) dX8_readMethod_371 ⟨Nat.zero_le _, Nat.zero_le _⟩ (fun H locs hw => ?_)
          obtain ⟨g8, h⟩ := ixE h
          obtain ⟨u9, eu9⟩ : ∃ y : St, y = st u4 18 (x1).toNatClampNeg r7 := ⟨_, rfl⟩
          have h := nmE eu9 h
          refine r_ast (ws' := (MW cI cZ a u9)) C hw 18 0 (MWa_18 cI cZ a u4) rfl g8 (by rw [eu9]; exact MWs_18 cI cZ a u4 _ r7) dX8_readMethod_374 (fun H locs hw => ?_)
          refine lv_aload_n hx hb dX8_readMethod_375 rfl (lv_at hl 0 rfl) ?_
          refine r_get C hw hiX8_readMethod_X8 0 (MWa_0 cI cZ a u9) rfl 25 (by decide) (by decide +kernel) rfl dX8_readMethod_376 ?_
          refine lv_iload_n hx hb dX8_readMethod_379 rfl (lv_at hl 1 rfl) ?_
          refine lv_aload_n hx hb dX8_readMethod_380 rfl (lv_at hl 0 rfl) ?_
          refine r_get C hw hiX8_readMethod_X8 0 (MWa_0 cI cZ a u9) rfl 5 (by decide) (by decide +kernel) rfl dX8_readMethod_381 ?_
          obtain ⟨g10, h⟩ := ixE h
          obtain ⟨u11, eu11⟩ : ∃ y : St, y = st u9 19 (x1).toNatClampNeg (u9 0 5) := ⟨_, rfl⟩
          have h := nmE eu11 h
          refine r_ast (ws' := (MW cI cZ a u11)) C hw 19 0 (MWa_19 cI cZ a u9) rfl g10 (by rw [eu11]; exact MWs_19 cI cZ a u9 _ (u9 0 5)) dX8_readMethod_384 (fun H locs hw => ?_)
          refine lv_iconst (v := 0) hx hb dX8_readMethod_385 (by decide) ?_
          refine lv_istore (lv' := [(5, .int 0), (0, .ref (a 0)), (1, .int x1), (4, .int x4)]) hx hb dX8_readMethod_386 hl (by decide) rfl (fun ls hl => ?_)
          exact J388 fu x1 0 u11 _ _ _ h hw (lv_sub hl [1, 2, 0] rfl)
        · have h := itT c5 h
          refine lv_iconst (v := 0) hx hb dX8_readMethod_363 (by decide) ?_
          exact r_zret (f := MW cI cZ a) hQ (by decide) h hw dX8_readMethod_364
      · have h := itF c1 h
        refine lv_aload_n hx hb dX8_readMethod_341 rfl (lv_at hl 0 rfl) ?_
        refine lv_iload_n hx hb dX8_readMethod_342 rfl (lv_at hl 1 rfl) ?_
        refine lv_iload hx hb dX8_readMethod_343 (lv_at hl 2 rfl) ?_
        obtain ⟨r13, u14, h12, h⟩ := b2E h
        refine r_callV (rest := []) C hw (c_X8_readInstruction l D cI cZ z base a x1 x4 u0 r13 u14 h12) (cwV 2 C.1.2.2.2.2 gX8_readMethod_X8_readInstruction rfl rfl rfl (by decide +kernel) ⟨Nat.le_of_ble_eq_true rfl, Nat.le_of_ble_eq_true rfl⟩) (va_recv C.2.1 hw.1 (ci := 7) (q0 := 0) rfl (MWa_0 cI cZ a u0)) rfl hl.1 rfl (Nat.le_of_ble_eq_true rfl) dX8_readMethod_345 ⟨Nat.zero_le _, Nat.zero_le _⟩ (fun H locs hw => ?_)
        refine lv_if_ne (tgt := 332) hx hb dX8_readMethod_348 (by decide) (fun c15 => ?_) (fun c15 => ?_)
        · have h := itF c15 h
          exact ih332 x1 x4 u14 _ _ _ h hw hl
        · have h := itT c15 h
          refine lv_iconst (v := 0) hx hb dX8_readMethod_351 (by decide) ?_
          exact r_zret (f := MW cI cZ a) hQ (by decide) h hw dX8_readMethod_352
  have J285 : ∀ (x1 t0 t1 : Int32) (u0 : St) (H : Heap) (locs : List Loc) (ls : Array Slot), F_X8_readMethod_285 x1 t0 t1 u0 = some (ro, uo) → Wd D A s.heap H locs (MW cI cZ a u0) → lv_has ls 7 [(0, .ref (a 0)), (1, .int x1)] → W p l e rmX8_readMethod s m args below meth c H locs 0 0 Q (F0 m 285 ls [.int t0, .int t1, .ref (a 0)]) := by
    intro x1 t0 t1 u0 H locs ls h hw hl
    rw [F_X8_readMethod_285] at h
    obtain ⟨r2, u3, h1, h⟩ := b2E h
    refine r_callV (rest := []) C hw (c_X8_over l D cI cZ z base a t1 t0 u0 r2 u3 h1) (cwV 2 C.1.2.2.2.2 gX8_readMethod_X8_over rfl rfl rfl (by decide +kernel) ⟨Nat.le_of_ble_eq_true rfl, Nat.le_of_ble_eq_true rfl⟩) (va_recv C.2.1 hw.1 (ci := 7) (q0 := 0) rfl (MWa_0 cI cZ a u0)) rfl hl.1 rfl (Nat.le_of_ble_eq_true rfl) dX8_readMethod_285 ⟨Nat.zero_le _, Nat.zero_le _⟩ (fun H locs hw => ?_)
    refine lv_if_ne (tgt := 293) hx hb dX8_readMethod_288 (by decide) (fun c4 => ?_) (fun c4 => ?_)
    · have h := itF c4 h
      refine lv_aload_n hx hb dX8_readMethod_293 rfl (lv_at hl 0 rfl) ?_
      refine r_get C hw hiX8_readMethod_X8 0 (MWa_0 cI cZ a u3) rfl 23 (by decide) (by decide +kernel) rfl dX8_readMethod_294 ?_
      refine lv_iload_n hx hb dX8_readMethod_297 rfl (lv_at hl 1 rfl) ?_
      refine lv_aload_n hx hb dX8_readMethod_298 rfl (lv_at hl 0 rfl) ?_
      refine lv_aload_n hx hb dX8_readMethod_299 rfl (lv_at hl 0 rfl) ?_
      refine r_get C hw hiX8_readMethod_X8 0 (MWa_0 cI cZ a u3) rfl 5 (by decide) (by decide +kernel) rfl dX8_readMethod_300 ?_
      refine lv_iconst (v := 2) hx hb dX8_readMethod_303 (by decide) ?_
      refine lv_isub hx hb dX8_readMethod_304 ?_
      obtain ⟨r6, h5, h⟩ := b1E h
      refine r_callV (rest := [.int x1, .ref (a 17)]) C hw (c_X8_two l D cI cZ z base a ((u3 0 5) - 2) u3 r6 h5) (cwV 1 C.1.2.2.2.2 gX8_readMethod_X8_two rfl rfl rfl (by decide +kernel) ⟨Nat.le_of_ble_eq_true rfl, Nat.le_of_ble_eq_true rfl⟩) (va_recv C.2.1 hw.1 (ci := 7) (q0 := 0) rfl (MWa_0 cI cZ a u3)) rfl hl.1 rfl (Nat.le_of_ble_eq_true rfl) dX8_readMethod_305 ⟨Nat.zero_le _, Nat.zero_le _⟩ (fun H locs hw => ?_)
      obtain ⟨g7, h⟩ := ixE h
      obtain ⟨u8, eu8⟩ : ∃ y : St, y = st u3 17 (x1).toNatClampNeg r6 := ⟨_, rfl⟩
      have h := nmE eu8 h
      refine r_ast (ws' := (MW cI cZ a u8)) C hw 17 0 (MWa_17 cI cZ a u3) rfl g7 (by rw [eu8]; exact MWs_17 cI cZ a u3 _ r6) dX8_readMethod_308 (fun H locs hw => ?_)
      refine lv_aload_n hx hb dX8_readMethod_309 rfl (lv_at hl 0 rfl) ?_
      refine r_get C hw hiX8_readMethod_X8 0 (MWa_0 cI cZ a u8) rfl 22 (by decide) (by decide +kernel) rfl dX8_readMethod_310 ?_
      refine lv_iload_n hx hb dX8_readMethod_313 rfl (lv_at hl 1 rfl) ?_
      refine lv_aload_n hx hb dX8_readMethod_314 rfl (lv_at hl 0 rfl) ?_
      refine r_get C hw hiX8_readMethod_X8 0 (MWa_0 cI cZ a u8) rfl 5 (by decide) (by decide +kernel) rfl dX8_readMethod_315 ?_
      obtain ⟨g9, h⟩ := ixE h
      obtain ⟨u10, eu10⟩ : ∃ y : St, y = st u8 16 (x1).toNatClampNeg (u8 0 5) := ⟨_, rfl⟩
      have h := nmE eu10 h
      refine r_ast (ws' := (MW cI cZ a u10)) C hw 16 0 (MWa_16 cI cZ a u8) rfl g9 (by rw [eu10]; exact MWs_16 cI cZ a u8 _ (u8 0 5)) dX8_readMethod_318 (fun H locs hw => ?_)
      refine lv_aload_n hx hb dX8_readMethod_319 rfl (lv_at hl 0 rfl) ?_
      refine r_get C hw hiX8_readMethod_X8 0 (MWa_0 cI cZ a u10) rfl 5 (by decide) (by decide +kernel) rfl dX8_readMethod_320 ?_
      refine lv_aload_n hx hb dX8_readMethod_323 rfl (lv_at hl 0 rfl) ?_
      refine r_get C hw hiX8_readMethod_X8 0 (MWa_0 cI cZ a u10) rfl 23 (by decide) (by decide +kernel) rfl dX8_readMethod_324 ?_
      refine lv_iload_n hx hb dX8_readMethod_327 rfl (lv_at hl 1 rfl) ?_
      obtain ⟨g11, h⟩ := ixE h
      refine r_ald C hw 17 0 (MWa_17 cI cZ a u10) rfl g11 dX8_readMethod_328 ?_
      refine lv_iadd hx hb dX8_readMethod_329 ?_
      refine lv_topi (fun v12 ev12 => ?_)
      have h := nmE ev12 h
      refine lv_istore (lv' := [(4, .int v12), (0, .ref (a 0)), (1, .int x1)]) hx hb dX8_readMethod_330 hl (by decide) rfl (fun ls hl => ?_)
      exact J332 fu x1 v12 u10 _ _ _ h hw (lv_sub hl [1, 2, 0] rfl)
    · have h := itT c4 h
      refine lv_iconst (v := 0) hx hb dX8_readMethod_291 (by decide) ?_
      exact r_zret (f := MW cI cZ a) hQ (by decide) h hw dX8_readMethod_292
  have J268 : ∀ (x1 t0 : Int32) (u0 : St) (H : Heap) (locs : List Loc) (ls : Array Slot), F_X8_readMethod_268 x1 t0 u0 = some (ro, uo) → Wd D A s.heap H locs (MW cI cZ a u0) → lv_has ls 7 [(0, .ref (a 0)), (1, .int x1)] → W p l e rmX8_readMethod s m args below meth c H locs 0 0 Q (F0 m 268 ls [.int t0, .ref (a 0)]) := by
    intro x1 t0 u0 H locs ls h hw hl
    rw [F_X8_readMethod_268] at h
    refine lv_aload_n hx hb dX8_readMethod_268 rfl (lv_at hl 0 rfl) ?_
    obtain ⟨r2, h1, h⟩ := b1E h
    refine r_callV (rest := [.int t0, .ref (a 0)]) C hw (c_X8_last l D cI cZ z base a u0 r2 h1) (cwV 0 C.1.2.2.2.2 gX8_readMethod_X8_last rfl rfl rfl (by decide +kernel) ⟨Nat.le_of_ble_eq_true rfl, Nat.le_of_ble_eq_true rfl⟩) (va_recv C.2.1 hw.1 (ci := 7) (q0 := 0) rfl (MWa_0 cI cZ a u0)) rfl hl.1 rfl (Nat.le_of_ble_eq_true rfl) dX8_readMethod_269 ⟨Nat.zero_le _, Nat.zero_le _⟩ (fun H locs hw => ?_)
    refine lv_iconst (v := 3) hx hb dX8_readMethod_272 (by decide) ?_
    refine lv_icmp_ne (tgt := 282) hx hb dX8_readMethod_273 (by decide) (fun c3 => ?_) (fun c3 => ?_)
    · have h := itF c3 h
      refine lv_sipush (v := 255) hx hb dX8_readMethod_282 (by decide) ?_
      exact J285 x1 255 t0 u0 _ _ _ h hw hl
    · have h := itT c3 h
      refine lv_sipush (v := 232) hx hb dX8_readMethod_276 (by decide) ?_
      refine lv_goto (tgt := 285) hx hb dX8_readMethod_279 (by decide) ?_
      exact J285 x1 232 t0 u0 _ _ _ h hw hl
  have J194 : ∀ (x1 x3 t0 t1 : Int32) (u0 : St) (H : Heap) (locs : List Loc) (ls : Array Slot), F_X8_readMethod_194 x1 x3 t0 t1 u0 = some (ro, uo) → Wd D A s.heap H locs (MW cI cZ a u0) → lv_has ls 7 [(0, .ref (a 0)), (1, .int x1), (3, .int x3)] → W p l e rmX8_readMethod s m args below meth c H locs 0 0 Q (F0 m 194 ls [.int t0, .int t1, .ref (a 13)]) := by
    intro x1 x3 t0 t1 u0 H locs ls h hw hl
    rw [F_X8_readMethod_194] at h
    obtain ⟨g1, h⟩ := ixE h
    obtain ⟨u2, eu2⟩ : ∃ y : St, y = st u0 13 (t1).toNatClampNeg t0 := ⟨_, rfl⟩
    have h := nmE eu2 h
    refine r_ast (ws' := (MW cI cZ a u2)) C hw 13 0 (MWa_13 cI cZ a u0) rfl g1 (by rw [eu2]; exact MWs_13 cI cZ a u0 _ t0) dX8_readMethod_194 (fun H locs hw => ?_)
    refine lv_aload_n hx hb dX8_readMethod_195 rfl (lv_at hl 0 rfl) ?_
    refine lv_iload_n hx hb dX8_readMethod_196 rfl (lv_at hl 2 rfl) ?_
    refine lv_bipush (v := 12) hx hb dX8_readMethod_197 (by decide) ?_
    obtain ⟨r4, u5, h3, h⟩ := b2E h
    refine r_callV (rest := []) C hw (c_X8_over l D cI cZ z base a x3 12 u2 r4 u5 h3) (cwV 2 C.1.2.2.2.2 gX8_readMethod_X8_over rfl rfl rfl (by decide +kernel) ⟨Nat.le_of_ble_eq_true rfl, Nat.le_of_ble_eq_true rfl⟩) (va_recv C.2.1 hw.1 (ci := 7) (q0 := 0) rfl (MWa_0 cI cZ a u2)) rfl hl.1 rfl (Nat.le_of_ble_eq_true rfl) dX8_readMethod_199 ⟨Nat.zero_le _, Nat.zero_le _⟩ (fun H locs hw => ?_)
    refine lv_if_ne (tgt := 207) hx hb dX8_readMethod_202 (by decide) (fun c6 => ?_) (fun c6 => ?_)
    · have h := itF c6 h
      refine lv_aload_n hx hb dX8_readMethod_207 rfl (lv_at hl 0 rfl) ?_
      refine r_get C hw hiX8_readMethod_X8 0 (MWa_0 cI cZ a u5) rfl 20 (by decide) (by decide +kernel) rfl dX8_readMethod_208 ?_
      refine lv_iload_n hx hb dX8_readMethod_211 rfl (lv_at hl 1 rfl) ?_
      refine lv_aload_n hx hb dX8_readMethod_212 rfl (lv_at hl 0 rfl) ?_
      obtain ⟨r8, h7, h⟩ := b1E h
      refine r_callV (rest := [.int x1, .ref (a 14)]) C hw (c_X8_last l D cI cZ z base a u5 r8 h7) (cwV 0 C.1.2.2.2.2 gX8_readMethod_X8_last rfl rfl rfl (by decide +kernel) ⟨Nat.le_of_ble_eq_true rfl, Nat.le_of_ble_eq_true rfl⟩) (va_recv C.2.1 hw.1 (ci := 7) (q0 := 0) rfl (MWa_0 cI cZ a u5)) rfl hl.1 rfl (Nat.le_of_ble_eq_true rfl) dX8_readMethod_213 ⟨Nat.zero_le _, Nat.zero_le _⟩ (fun H locs hw => ?_)
      obtain ⟨g9, h⟩ := ixE h
      obtain ⟨u10, eu10⟩ : ∃ y : St, y = st u5 14 (x1).toNatClampNeg r8 := ⟨_, rfl⟩
      have h := nmE eu10 h
      refine r_ast (ws' := (MW cI cZ a u10)) C hw 14 0 (MWa_14 cI cZ a u5) rfl g9 (by rw [eu10]; exact MWs_14 cI cZ a u5 _ r8) dX8_readMethod_216 (fun H locs hw => ?_)
      refine lv_aload_n hx hb dX8_readMethod_217 rfl (lv_at hl 0 rfl) ?_
      refine lv_iconst (v := 0) hx hb dX8_readMethod_218 (by decide) ?_
      refine lv_bipush (v := 12) hx hb dX8_readMethod_219 (by decide) ?_
      refine lv_aload_n hx hb dX8_readMethod_221 rfl (lv_at hl 0 rfl) ?_
      refine r_get C hw hiX8_readMethod_X8 0 (MWa_0 cI cZ a u10) rfl 20 (by decide) (by decide +kernel) rfl dX8_readMethod_222 ?_
      refine lv_iload_n hx hb dX8_readMethod_225 rfl (lv_at hl 1 rfl) ?_
      obtain ⟨g11, h⟩ := ixE h
      refine r_ald C hw 14 0 (MWa_14 cI cZ a u10) rfl g11 dX8_readMethod_226 ?_
      refine lv_isub hx hb dX8_readMethod_227 ?_
      obtain ⟨r13, u14, h12, h⟩ := b2E h
      refine r_callV (rest := []) C hw (c_X8_over l D cI cZ z base a 0 (12 - (u10 14 (x1).toNatClampNeg)) u10 r13 u14 h12) (cwV 2 C.1.2.2.2.2 gX8_readMethod_X8_over rfl rfl rfl (by decide +kernel) ⟨Nat.le_of_ble_eq_true rfl, Nat.le_of_ble_eq_true rfl⟩) (va_recv C.2.1 hw.1 (ci := 7) (q0 := 0) rfl (MWa_0 cI cZ a u10)) rfl hl.1 rfl (Nat.le_of_ble_eq_true rfl) dX8_readMethod_228 ⟨Nat.zero_le _, Nat.zero_le _⟩ (fun H locs hw => ?_)
      refine lv_if_ne (tgt := 236) hx hb dX8_readMethod_231 (by decide) (fun c15 => ?_) (fun c15 => ?_)
      · have h := itF c15 h
        refine lv_aload_n hx hb dX8_readMethod_236 rfl (lv_at hl 0 rfl) ?_
        refine r_get C hw hiX8_readMethod_X8 0 (MWa_0 cI cZ a u14) rfl 21 (by decide) (by decide +kernel) rfl dX8_readMethod_237 ?_
        refine lv_iload_n hx hb dX8_readMethod_240 rfl (lv_at hl 1 rfl) ?_
        refine lv_aload_n hx hb dX8_readMethod_241 rfl (lv_at hl 0 rfl) ?_
        obtain ⟨r17, h16, h⟩ := b1E h
        refine r_callV (rest := [.int x1, .ref (a 15)]) C hw (c_X8_last l D cI cZ z base a u14 r17 h16) (cwV 0 C.1.2.2.2.2 gX8_readMethod_X8_last rfl rfl rfl (by decide +kernel) ⟨Nat.le_of_ble_eq_true rfl, Nat.le_of_ble_eq_true rfl⟩) (va_recv C.2.1 hw.1 (ci := 7) (q0 := 0) rfl (MWa_0 cI cZ a u14)) rfl hl.1 rfl (Nat.le_of_ble_eq_true rfl) dX8_readMethod_242 ⟨Nat.zero_le _, Nat.zero_le _⟩ (fun H locs hw => ?_)
        obtain ⟨g18, h⟩ := ixE h
        obtain ⟨u19, eu19⟩ : ∃ y : St, y = st u14 15 (x1).toNatClampNeg r17 := ⟨_, rfl⟩
        have h := nmE eu19 h
        refine r_ast (ws' := (MW cI cZ a u19)) C hw 15 0 (MWa_15 cI cZ a u14) rfl g18 (by rw [eu19]; exact MWs_15 cI cZ a u14 _ r17) dX8_readMethod_245 (fun H locs hw => ?_)
        refine lv_aload_n hx hb dX8_readMethod_246 rfl (lv_at hl 0 rfl) ?_
        refine lv_iconst (v := 0) hx hb dX8_readMethod_247 (by decide) ?_
        refine lv_iconst (v := 3) hx hb dX8_readMethod_248 (by decide) ?_
        obtain ⟨r21, u22, h20, h⟩ := b2E h
        refine r_callV (rest := []) C hw (c_X8_over l D cI cZ z base a 0 3 u19 r21 u22 h20) (cwV 2 C.1.2.2.2.2 gX8_readMethod_X8_over rfl rfl rfl (by decide +kernel) ⟨Nat.le_of_ble_eq_true rfl, Nat.le_of_ble_eq_true rfl⟩) (va_recv C.2.1 hw.1 (ci := 7) (q0 := 0) rfl (MWa_0 cI cZ a u19)) rfl hl.1 rfl (Nat.le_of_ble_eq_true rfl) dX8_readMethod_249 ⟨Nat.zero_le _, Nat.zero_le _⟩ (fun H locs hw => ?_)
        refine lv_if_eq (tgt := 291) hx hb dX8_readMethod_252 (by decide) (fun c23 => ?_) (fun c23 => ?_)
        · have h := itT c23 h
          refine lv_iconst (v := 0) hx hb dX8_readMethod_291 (by decide) ?_
          exact r_zret (f := MW cI cZ a) hQ (by decide) h hw dX8_readMethod_292
        · have h := itF c23 h
          refine lv_aload_n hx hb dX8_readMethod_255 rfl (lv_at hl 0 rfl) ?_
          refine lv_aload_n hx hb dX8_readMethod_256 rfl (lv_at hl 0 rfl) ?_
          obtain ⟨r25, h24, h⟩ := b1E h
          refine r_callV (rest := [.ref (a 0)]) C hw (c_X8_last l D cI cZ z base a u22 r25 h24) (cwV 0 C.1.2.2.2.2 gX8_readMethod_X8_last rfl rfl rfl (by decide +kernel) ⟨Nat.le_of_ble_eq_true rfl, Nat.le_of_ble_eq_true rfl⟩) (va_recv C.2.1 hw.1 (ci := 7) (q0 := 0) rfl (MWa_0 cI cZ a u22)) rfl hl.1 rfl (Nat.le_of_ble_eq_true rfl) dX8_readMethod_257 ⟨Nat.zero_le _, Nat.zero_le _⟩ (fun H locs hw => ?_)
          refine lv_if_ne (tgt := 267) hx hb dX8_readMethod_260 (by decide) (fun c26 => ?_) (fun c26 => ?_)
          · have h := itF c26 h
            refine lv_iconst (v := 0) hx hb dX8_readMethod_267 (by decide) ?_
            exact J268 x1 0 u22 _ _ _ h hw (lv_sub hl [0, 1] rfl)
          · have h := itT c26 h
            refine lv_iconst (v := 1) hx hb dX8_readMethod_263 (by decide) ?_
            refine lv_goto (tgt := 268) hx hb dX8_readMethod_264 (by decide) ?_
            exact J268 x1 1 u22 _ _ _ h hw (lv_sub hl [0, 1] rfl)
      · have h := itT c15 h
        refine lv_iconst (v := 0) hx hb dX8_readMethod_234 (by decide) ?_
        exact r_zret (f := MW cI cZ a) hQ (by decide) h hw dX8_readMethod_235
    · have h := itT c6 h
      refine lv_iconst (v := 0) hx hb dX8_readMethod_205 (by decide) ?_
      exact r_zret (f := MW cI cZ a) hQ (by decide) h hw dX8_readMethod_206
  have J114 : ∀ n114 : Nat, ∀ (x1 x2 x3 x4 : Int32) (u0 : St) (H : Heap) (locs : List Loc) (ls : Array Slot), F_X8_readMethod_114 n114 x1 x2 x3 x4 u0 = some (ro, uo) → Wd D A s.heap H locs (MW cI cZ a u0) → lv_has ls 7 [(0, .ref (a 0)), (1, .int x1), (2, .int x2), (3, .int x3), (4, .int x4)] → W p l e rmX8_readMethod s m args below meth c H locs 0 0 Q (F0 m 114 ls []) := by
    intro n114
    induction n114 with
    | zero => intro x1 x2 x3 x4 u0 H locs ls h; rw [F_X8_readMethod_114] at h; cases h
    | succ n114 ih114 =>
      intro x1 x2 x3 x4 u0 H locs ls h hw hl
      rw [F_X8_readMethod_114] at h
      refine lv_iload hx hb dX8_readMethod_114 (lv_at hl 4 rfl) ?_
      refine lv_iload_n hx hb dX8_readMethod_116 rfl (lv_at hl 2 rfl) ?_
      refine lv_icmp_ge (tgt := 154) hx hb dX8_readMethod_117 (by decide) (fun c1 => ?_) (fun c1 => ?_)
      · have h := itT c1 h
        refine lv_aload_n hx hb dX8_readMethod_154 rfl (lv_at hl 0 rfl) ?_
        refine r_get C hw hiX8_readMethod_X8 0 (MWa_0 cI cZ a u0) rfl 17 (by decide) (by decide +kernel) rfl dX8_readMethod_155 ?_
        refine lv_iload_n hx hb dX8_readMethod_158 rfl (lv_at hl 1 rfl) ?_
        refine lv_iload_n hx hb dX8_readMethod_159 rfl (lv_at hl 3 rfl) ?_
        obtain ⟨g2, h⟩ := ixE h
        obtain ⟨u3, eu3⟩ : ∃ y : St, y = st u0 11 (x1).toNatClampNeg x3 := ⟨_, rfl⟩
        have h := nmE eu3 h
        refine r_ast (ws' := (MW cI cZ a u3)) C hw 11 0 (MWa_11 cI cZ a u0) rfl g2 (by rw [eu3]; exact MWs_11 cI cZ a u0 _ x3) dX8_readMethod_160 (fun H locs hw => ?_)
        refine lv_aload_n hx hb dX8_readMethod_161 rfl (lv_at hl 0 rfl) ?_
        refine lv_iconst (v := 1) hx hb dX8_readMethod_162 (by decide) ?_
        obtain ⟨r5, u6, h4, h⟩ := b2E h
        refine r_callV (rest := []) C hw (c_X8_overType l D cI cZ z base a 1 u3 r5 u6 h4) (cwV 1 C.1.2.2.2.2 gX8_readMethod_X8_overType rfl rfl rfl (by decide +kernel) ⟨Nat.le_of_ble_eq_true rfl, Nat.le_of_ble_eq_true rfl⟩) (va_recv C.2.1 hw.1 (ci := 7) (q0 := 0) rfl (MWa_0 cI cZ a u3)) rfl hl.1 rfl (Nat.le_of_ble_eq_true rfl) dX8_readMethod_163 ⟨Nat.zero_le _, Nat.zero_le _⟩ (fun H locs hw => ?_)
        refine lv_if_ne (tgt := 171) hx hb dX8_readMethod_166 (by decide) (fun c7 => ?_) (fun c7 => ?_)
        · have h := itF c7 h
          refine lv_aload_n hx hb dX8_readMethod_171 rfl (lv_at hl 0 rfl) ?_
          refine r_get C hw hiX8_readMethod_X8 0 (MWa_0 cI cZ a u6) rfl 19 (by decide) (by decide +kernel) rfl dX8_readMethod_172 ?_
          refine lv_iload_n hx hb dX8_readMethod_175 rfl (lv_at hl 1 rfl) ?_
          refine lv_aload_n hx hb dX8_readMethod_176 rfl (lv_at hl 0 rfl) ?_
          obtain ⟨r9, h8, h⟩ := b1E h
          refine r_callV (rest := [.int x1, .ref (a 13)]) C hw (c_X8_last l D cI cZ z base a u6 r9 h8) (cwV 0 C.1.2.2.2.2 gX8_readMethod_X8_last rfl rfl rfl (by decide +kernel) ⟨Nat.le_of_ble_eq_true rfl, Nat.le_of_ble_eq_true rfl⟩) (va_recv C.2.1 hw.1 (ci := 7) (q0 := 0) rfl (MWa_0 cI cZ a u6)) rfl hl.1 rfl (Nat.le_of_ble_eq_true rfl) dX8_readMethod_177 ⟨Nat.zero_le _, Nat.zero_le _⟩ (fun H locs hw => ?_)
          refine lv_sipush (v := 255) hx hb dX8_readMethod_180 (by decide) ?_
          refine lv_icmp_ne (tgt := 190) hx hb dX8_readMethod_183 (by decide) (fun c10 => ?_) (fun c10 => ?_)
          · have h := itF c10 h
            refine lv_aload_n hx hb dX8_readMethod_190 rfl (lv_at hl 0 rfl) ?_
            obtain ⟨r12, h11, h⟩ := b1E h
            refine r_callV (rest := [.int x1, .ref (a 13)]) C hw (c_X8_last l D cI cZ z base a u6 r12 h11) (cwV 0 C.1.2.2.2.2 gX8_readMethod_X8_last rfl rfl rfl (by decide +kernel) ⟨Nat.le_of_ble_eq_true rfl, Nat.le_of_ble_eq_true rfl⟩) (va_recv C.2.1 hw.1 (ci := 7) (q0 := 0) rfl (MWa_0 cI cZ a u6)) rfl hl.1 rfl (Nat.le_of_ble_eq_true rfl) dX8_readMethod_191 ⟨Nat.zero_le _, Nat.zero_le _⟩ (fun H locs hw => ?_)
            exact J194 x1 x3 r12 x1 u6 _ _ _ h hw (lv_sub hl [0, 1, 3] rfl)
          · have h := itT c10 h
            refine lv_iconst (v := (-1)) hx hb dX8_readMethod_186 (by decide) ?_
            refine lv_goto (tgt := 194) hx hb dX8_readMethod_187 (by decide) ?_
            exact J194 x1 x3 (-1) x1 u6 _ _ _ h hw (lv_sub hl [0, 1, 3] rfl)
        · have h := itT c7 h
          refine lv_iconst (v := 0) hx hb dX8_readMethod_169 (by decide) ?_
          exact r_zret (f := MW cI cZ a) hQ (by decide) h hw dX8_readMethod_170
      · have h := itF c1 h
        refine lv_aload_n hx hb dX8_readMethod_120 rfl (lv_at hl 0 rfl) ?_
        refine lv_iconst (v := 0) hx hb dX8_readMethod_121 (by decide) ?_
        obtain ⟨r14, u15, h13, h⟩ := b2E h
        refine r_callV (rest := []) C hw (c_X8_overType l D cI cZ z base a 0 u0 r14 u15 h13) (cwV 1 C.1.2.2.2.2 gX8_readMethod_X8_overType rfl rfl rfl (by decide +kernel) ⟨Nat.le_of_ble_eq_true rfl, Nat.le_of_ble_eq_true rfl⟩) (va_recv C.2.1 hw.1 (ci := 7) (q0 := 0) rfl (MWa_0 cI cZ a u0)) rfl hl.1 rfl (Nat.le_of_ble_eq_true rfl) dX8_readMethod_122 ⟨Nat.zero_le _, Nat.zero_le _⟩ (fun H locs hw => ?_)
        refine lv_if_ne (tgt := 130) hx hb dX8_readMethod_125 (by decide) (fun c16 => ?_) (fun c16 => ?_)
        · have h := itF c16 h
          refine lv_aload_n hx hb dX8_readMethod_130 rfl (lv_at hl 0 rfl) ?_
          refine r_get C hw hiX8_readMethod_X8 0 (MWa_0 cI cZ a u15) rfl 18 (by decide) (by decide +kernel) rfl dX8_readMethod_131 ?_
          refine lv_bipush (v := 8) hx hb dX8_readMethod_134 (by decide) ?_
          refine lv_iload_n hx hb dX8_readMethod_136 rfl (lv_at hl 1 rfl) ?_
          refine lv_imul hx hb dX8_readMethod_137 ?_
          refine lv_iload_n hx hb dX8_readMethod_138 rfl (lv_at hl 3 rfl) ?_
          refine lv_iadd hx hb dX8_readMethod_139 ?_
          refine lv_aload_n hx hb dX8_readMethod_140 rfl (lv_at hl 0 rfl) ?_
          obtain ⟨r18, h17, h⟩ := b1E h
          refine r_callV (rest := [.int ((8 * x1) + x3), .ref (a 12)]) C hw (c_X8_last l D cI cZ z base a u15 r18 h17) (cwV 0 C.1.2.2.2.2 gX8_readMethod_X8_last rfl rfl rfl (by decide +kernel) ⟨Nat.le_of_ble_eq_true rfl, Nat.le_of_ble_eq_true rfl⟩) (va_recv C.2.1 hw.1 (ci := 7) (q0 := 0) rfl (MWa_0 cI cZ a u15)) rfl hl.1 rfl (Nat.le_of_ble_eq_true rfl) dX8_readMethod_141 ⟨Nat.zero_le _, Nat.zero_le _⟩ (fun H locs hw => ?_)
          obtain ⟨g19, h⟩ := ixE h
          obtain ⟨u20, eu20⟩ : ∃ y : St, y = st u15 12 (((8 * x1) + x3)).toNatClampNeg r18 := ⟨_, rfl⟩
          have h := nmE eu20 h
          refine r_ast (ws' := (MW cI cZ a u20)) C hw 12 0 (MWa_12 cI cZ a u15) rfl g19 (by rw [eu20]; exact MWs_12 cI cZ a u15 _ r18) dX8_readMethod_144 (fun H locs hw => ?_)
          obtain ⟨v21, ev21⟩ : ∃ y : Int32, y = x3 + 1 := ⟨_, rfl⟩
          have h := nmE ev21 h
          refine lv_iinc (v := v21) (lv' := [(3, .int v21), (0, .ref (a 0)), (1, .int x1), (2, .int x2), (4, .int x4)]) hx hb dX8_readMethod_145 hl (k := 3) rfl (by rw [ev21]; rfl) (by decide) rfl (fun ls hl => ?_)
          obtain ⟨v22, ev22⟩ : ∃ y : Int32, y = x4 + 1 := ⟨_, rfl⟩
          have h := nmE ev22 h
          refine lv_iinc (v := v22) (lv' := [(4, .int v22), (3, .int v21), (0, .ref (a 0)), (1, .int x1), (2, .int x2)]) hx hb dX8_readMethod_148 hl (k := 4) rfl (by rw [ev22]; rfl) (by decide) rfl (fun ls hl => ?_)
          refine lv_goto (tgt := 114) hx hb dX8_readMethod_151 (by decide) ?_
          exact ih114 x1 x2 v21 v22 u20 _ _ _ h hw (lv_sub hl [2, 3, 4, 1, 0] rfl)
        · have h := itT c16 h
          refine lv_iconst (v := 0) hx hb dX8_readMethod_128 (by decide) ?_
          exact r_zret (f := MW cI cZ a) hQ (by decide) h hw dX8_readMethod_129
  have J111 : ∀ (x1 x2 x3 : Int32) (u0 : St) (H : Heap) (locs : List Loc) (ls : Array Slot), F_X8_readMethod_111 x1 x2 x3 u0 = some (ro, uo) → Wd D A s.heap H locs (MW cI cZ a u0) → lv_has ls 7 [(0, .ref (a 0)), (1, .int x1), (2, .int x2), (3, .int x3)] → W p l e rmX8_readMethod s m args below meth c H locs 0 0 Q (F0 m 111 ls []) := by
    intro x1 x2 x3 u0 H locs ls h hw hl
    rw [F_X8_readMethod_111] at h
    refine lv_iconst (v := 0) hx hb dX8_readMethod_111 (by decide) ?_
    refine lv_istore (lv' := [(4, .int 0), (0, .ref (a 0)), (1, .int x1), (2, .int x2), (3, .int x3)]) hx hb dX8_readMethod_112 hl (by decide) rfl (fun ls hl => ?_)
    exact J114 fu x1 x2 x3 0 u0 _ _ _ h hw (lv_sub hl [1, 2, 3, 4, 0] rfl)
  have J53 : ∀ (x1 t0 t1 : Int32) (u0 : St) (H : Heap) (locs : List Loc) (ls : Array Slot), F_X8_readMethod_53 x1 t0 t1 u0 = some (ro, uo) → Wd D A s.heap H locs (MW cI cZ a u0) → lv_has ls 7 [(0, .ref (a 0)), (1, .int x1)] → W p l e rmX8_readMethod s m args below meth c H locs 0 0 Q (F0 m 53 ls [.int t0, .int t1, .ref (a 10)]) := by
    intro x1 t0 t1 u0 H locs ls h hw hl
    rw [F_X8_readMethod_53] at h
    obtain ⟨g1, h⟩ := ixE h
    obtain ⟨u2, eu2⟩ : ∃ y : St, y = st u0 10 (t1).toNatClampNeg t0 := ⟨_, rfl⟩
    have h := nmE eu2 h
    refine r_ast (ws' := (MW cI cZ a u2)) C hw 10 0 (MWa_10 cI cZ a u0) rfl g1 (by rw [eu2]; exact MWs_10 cI cZ a u0 _ t0) dX8_readMethod_53 (fun H locs hw => ?_)
    refine lv_aload_n hx hb dX8_readMethod_54 rfl (lv_at hl 0 rfl) ?_
    refine lv_dup hx hb dX8_readMethod_55 rfl ?_
    refine r_get C hw hiX8_readMethod_X8 0 (MWa_0 cI cZ a u2) rfl 5 (by decide) (by decide +kernel) rfl dX8_readMethod_56 ?_
    refine lv_iconst (v := 1) hx hb dX8_readMethod_59 (by decide) ?_
    refine lv_iadd hx hb dX8_readMethod_60 ?_
    obtain ⟨u3, eu3⟩ : ∃ y : St, y = st u2 0 5 ((u2 0 5) + 1) := ⟨_, rfl⟩
    have h := nmE eu3 h
    refine r_put (ws' := (MW cI cZ a u3)) C hw hiX8_readMethod_X8 tyX8 tyX8_ok nmX8 0 (MWa_0 cI cZ a u2) rfl 5 (by decide) (by decide +kernel) rfl (ty := .int) (by decide +kernel) rfl rfl (Nat.le_of_ble_eq_true rfl) (by rw [eu3]; exact MWs_0_5 cI cZ a u2 ((u2 0 5) + 1)) dX8_readMethod_61 (fun H locs hw => ?_)
    refine lv_aload_n hx hb dX8_readMethod_64 rfl (lv_at hl 0 rfl) ?_
    refine lv_iconst (v := 0) hx hb dX8_readMethod_65 (by decide) ?_
    refine lv_bipush (v := 7) hx hb dX8_readMethod_66 (by decide) ?_
    obtain ⟨r5, u6, h4, h⟩ := b2E h
    refine r_callV (rest := []) C hw (c_X8_over l D cI cZ z base a 0 7 u3 r5 u6 h4) (cwV 2 C.1.2.2.2.2 gX8_readMethod_X8_over rfl rfl rfl (by decide +kernel) ⟨Nat.le_of_ble_eq_true rfl, Nat.le_of_ble_eq_true rfl⟩) (va_recv C.2.1 hw.1 (ci := 7) (q0 := 0) rfl (MWa_0 cI cZ a u3)) rfl hl.1 rfl (Nat.le_of_ble_eq_true rfl) dX8_readMethod_68 ⟨Nat.zero_le _, Nat.zero_le _⟩ (fun H locs hw => ?_)
    refine lv_if_ne (tgt := 76) hx hb dX8_readMethod_71 (by decide) (fun c7 => ?_) (fun c7 => ?_)
    · have h := itF c7 h
      refine lv_aload_n hx hb dX8_readMethod_76 rfl (lv_at hl 0 rfl) ?_
      obtain ⟨r9, h8, h⟩ := b1E h
      refine r_callV (rest := []) C hw (c_X8_last l D cI cZ z base a u6 r9 h8) (cwV 0 C.1.2.2.2.2 gX8_readMethod_X8_last rfl rfl rfl (by decide +kernel) ⟨Nat.le_of_ble_eq_true rfl, Nat.le_of_ble_eq_true rfl⟩) (va_recv C.2.1 hw.1 (ci := 7) (q0 := 0) rfl (MWa_0 cI cZ a u6)) rfl hl.1 rfl (Nat.le_of_ble_eq_true rfl) dX8_readMethod_77 ⟨Nat.zero_le _, Nat.zero_le _⟩ (fun H locs hw => ?_)
      refine lv_istore_n (lv' := [(2, .int r9), (0, .ref (a 0)), (1, .int x1)]) hx hb dX8_readMethod_80 rfl hl (by decide) rfl (fun ls hl => ?_)
      refine lv_iconst (v := 0) hx hb dX8_readMethod_81 (by decide) ?_
      refine lv_istore_n (lv' := [(3, .int 0), (2, .int r9), (0, .ref (a 0)), (1, .int x1)]) hx hb dX8_readMethod_82 rfl hl (by decide) rfl (fun ls hl => ?_)
      refine lv_aload_n hx hb dX8_readMethod_83 rfl (lv_at hl 2 rfl) ?_
      refine r_get C hw hiX8_readMethod_X8 0 (MWa_0 cI cZ a u6) rfl 16 (by decide) (by decide +kernel) rfl dX8_readMethod_84 ?_
      refine lv_iload_n hx hb dX8_readMethod_87 rfl (lv_at hl 3 rfl) ?_
      obtain ⟨g10, h⟩ := ixE h
      refine r_ald C hw 10 0 (MWa_10 cI cZ a u6) rfl g10 dX8_readMethod_88 ?_
      refine lv_if_lt (tgt := 111) hx hb dX8_readMethod_89 (by decide) (fun c11 => ?_) (fun c11 => ?_)
      · have h := itT c11 h
        exact J111 x1 r9 0 u6 _ _ _ h hw (lv_sub hl [2, 3, 1, 0] rfl)
      · have h := itF c11 h
        refine lv_aload_n hx hb dX8_readMethod_92 rfl (lv_at hl 2 rfl) ?_
        refine r_get C hw hiX8_readMethod_X8 0 (MWa_0 cI cZ a u6) rfl 18 (by decide) (by decide +kernel) rfl dX8_readMethod_93 ?_
        refine lv_bipush (v := 8) hx hb dX8_readMethod_96 (by decide) ?_
        refine lv_iload_n hx hb dX8_readMethod_98 rfl (lv_at hl 3 rfl) ?_
        refine lv_imul hx hb dX8_readMethod_99 ?_
        refine lv_iconst (v := 1) hx hb dX8_readMethod_100 (by decide) ?_
        refine lv_aload_n hx hb dX8_readMethod_101 rfl (lv_at hl 2 rfl) ?_
        refine r_get C hw hiX8_readMethod_X8 0 (MWa_0 cI cZ a u6) rfl 16 (by decide) (by decide +kernel) rfl dX8_readMethod_102 ?_
        refine lv_iload_n hx hb dX8_readMethod_105 rfl (lv_at hl 3 rfl) ?_
        obtain ⟨g12, h⟩ := ixE h
        refine r_ald C hw 10 0 (MWa_10 cI cZ a u6) rfl g12 dX8_readMethod_106 ?_
        refine lv_iadd hx hb dX8_readMethod_107 ?_
        obtain ⟨g13, h⟩ := ixE h
        obtain ⟨u14, eu14⟩ : ∃ y : St, y = st u6 12 ((8 * x1)).toNatClampNeg (1 + (u6 10 (x1).toNatClampNeg)) := ⟨_, rfl⟩
        have h := nmE eu14 h
        refine r_ast (ws' := (MW cI cZ a u14)) C hw 12 0 (MWa_12 cI cZ a u6) rfl g13 (by rw [eu14]; exact MWs_12 cI cZ a u6 _ (1 + (u6 10 (x1).toNatClampNeg))) dX8_readMethod_108 (fun H locs hw => ?_)
        refine lv_iconst (v := 1) hx hb dX8_readMethod_109 (by decide) ?_
        refine lv_istore_n (lv' := [(3, .int 1), (2, .int r9), (0, .ref (a 0)), (1, .int x1)]) hx hb dX8_readMethod_110 rfl hl (by decide) rfl (fun ls hl => ?_)
        exact J111 x1 r9 1 u14 _ _ _ h hw (lv_sub hl [2, 3, 1, 0] rfl)
    · have h := itT c7 h
      refine lv_iconst (v := 0) hx hb dX8_readMethod_74 (by decide) ?_
      exact r_zret (f := MW cI cZ a) hQ (by decide) h hw dX8_readMethod_75
  have J30 : ∀ (x1 : Int32) (u0 : St) (H : Heap) (locs : List Loc) (ls : Array Slot), F_X8_readMethod_30 x1 u0 = some (ro, uo) → Wd D A s.heap H locs (MW cI cZ a u0) → lv_has ls 7 [(0, .ref (a 0)), (1, .int x1)] → W p l e rmX8_readMethod s m args below meth c H locs 0 0 Q (F0 m 30 ls []) := by
    intro x1 u0 H locs ls h hw hl
    rw [F_X8_readMethod_30] at h
    refine lv_aload_n hx hb dX8_readMethod_30 rfl (lv_at hl 0 rfl) ?_
    refine r_get C hw hiX8_readMethod_X8 0 (MWa_0 cI cZ a u0) rfl 16 (by decide) (by decide +kernel) rfl dX8_readMethod_31 ?_
    refine lv_iload_n hx hb dX8_readMethod_34 rfl (lv_at hl 1 rfl) ?_
    refine lv_aload_n hx hb dX8_readMethod_35 rfl (lv_at hl 0 rfl) ?_
    obtain ⟨r2, h1, h⟩ := b1E h
    refine r_callV (rest := [.int x1, .ref (a 10)]) C hw (c_X8_here l D cI cZ z base a u0 r2 h1) (cwV 0 C.1.2.2.2.2 gX8_readMethod_X8_here rfl rfl rfl (by decide +kernel) ⟨Nat.le_of_ble_eq_true rfl, Nat.le_of_ble_eq_true rfl⟩) (va_recv C.2.1 hw.1 (ci := 7) (q0 := 0) rfl (MWa_0 cI cZ a u0)) rfl hl.1 rfl (Nat.le_of_ble_eq_true rfl) dX8_readMethod_36 ⟨Nat.zero_le _, Nat.zero_le _⟩ (fun H locs hw => ?_)
    refine lv_sipush (v := 255) hx hb dX8_readMethod_39 (by decide) ?_
    refine lv_icmp_ne (tgt := 49) hx hb dX8_readMethod_42 (by decide) (fun c3 => ?_) (fun c3 => ?_)
    · have h := itF c3 h
      refine lv_aload_n hx hb dX8_readMethod_49 rfl (lv_at hl 0 rfl) ?_
      obtain ⟨r5, h4, h⟩ := b1E h
      refine r_callV (rest := [.int x1, .ref (a 10)]) C hw (c_X8_here l D cI cZ z base a u0 r5 h4) (cwV 0 C.1.2.2.2.2 gX8_readMethod_X8_here rfl rfl rfl (by decide +kernel) ⟨Nat.le_of_ble_eq_true rfl, Nat.le_of_ble_eq_true rfl⟩) (va_recv C.2.1 hw.1 (ci := 7) (q0 := 0) rfl (MWa_0 cI cZ a u0)) rfl hl.1 rfl (Nat.le_of_ble_eq_true rfl) dX8_readMethod_50 ⟨Nat.zero_le _, Nat.zero_le _⟩ (fun H locs hw => ?_)
      exact J53 x1 r5 x1 u0 _ _ _ h hw hl
    · have h := itT c3 h
      refine lv_iconst (v := (-1)) hx hb dX8_readMethod_45 (by decide) ?_
      refine lv_goto (tgt := 53) hx hb dX8_readMethod_46 (by decide) ?_
      exact J53 x1 (-1) x1 u0 _ _ _ h hw hl
  have hl : lv_has ls 7 [(0, .ref (a 0)), (1, .int x1)] := hl
  rw [F_X8_readMethod] at h
  refine lv_aload_n hx hb dX8_readMethod_0 rfl (lv_at hl 0 rfl) ?_
  obtain ⟨r2, h1, h⟩ := b1E h
  refine r_callV (rest := []) C hw (c_X8_here l D cI cZ z base a u0 r2 h1) (cwV 0 C.1.2.2.2.2 gX8_readMethod_X8_here rfl rfl rfl (by decide +kernel) ⟨Nat.le_of_ble_eq_true rfl, Nat.le_of_ble_eq_true rfl⟩) (va_recv C.2.1 hw.1 (ci := 7) (q0 := 0) rfl (MWa_0 cI cZ a u0)) rfl hl.1 rfl (Nat.le_of_ble_eq_true rfl) dX8_readMethod_1 ⟨Nat.zero_le _, Nat.zero_le _⟩ (fun H locs hw => ?_)
  refine lv_sipush (v := 255) hx hb dX8_readMethod_4 (by decide) ?_
  refine lv_icmp_eq (tgt := 30) hx hb dX8_readMethod_7 (by decide) (fun c3 => ?_) (fun c3 => ?_)
  · have h := itT c3 h
    exact J30 x1 u0 _ _ _ h hw hl
  · have h := itF c3 h
    refine lv_aload_n hx hb dX8_readMethod_10 rfl (lv_at hl 0 rfl) ?_
    obtain ⟨r5, h4, h⟩ := b1E h
    refine r_callV (rest := []) C hw (c_X8_here l D cI cZ z base a u0 r5 h4) (cwV 0 C.1.2.2.2.2 gX8_readMethod_X8_here rfl rfl rfl (by decide +kernel) ⟨Nat.le_of_ble_eq_true rfl, Nat.le_of_ble_eq_true rfl⟩) (va_recv C.2.1 hw.1 (ci := 7) (q0 := 0) rfl (MWa_0 cI cZ a u0)) rfl hl.1 rfl (Nat.le_of_ble_eq_true rfl) dX8_readMethod_11 ⟨Nat.zero_le _, Nat.zero_le _⟩ (fun H locs hw => ?_)
    refine lv_aload_n hx hb dX8_readMethod_14 rfl (lv_at hl 0 rfl) ?_
    refine r_get C hw hiX8_readMethod_X8 0 (MWa_0 cI cZ a u0) rfl 8 (by decide) (by decide +kernel) rfl dX8_readMethod_15 ?_
    refine lv_icmp_lt (tgt := 30) hx hb dX8_readMethod_18 (by decide) (fun c6 => ?_) (fun c6 => ?_)
    · have h := itT c6 h
      exact J30 x1 u0 _ _ _ h hw hl
    · have h := itF c6 h
      refine lv_aload_n hx hb dX8_readMethod_21 rfl (lv_at hl 0 rfl) ?_
      refine lv_aload_n hx hb dX8_readMethod_22 rfl (lv_at hl 0 rfl) ?_
      refine r_get C hw hiX8_readMethod_X8 0 (MWa_0 cI cZ a u0) rfl 5 (by decide) (by decide +kernel) rfl dX8_readMethod_23 ?_
      obtain ⟨r8, u9, h7, h⟩ := b2E h
      refine r_callV (rest := []) C hw (c_X8_bad l D cI cZ z base a (u0 0 5) u0 r8 u9 h7) (cwV 1 C.1.2.2.2.2 gX8_readMethod_X8_bad rfl rfl rfl (by decide +kernel) ⟨Nat.le_of_ble_eq_true rfl, Nat.le_of_ble_eq_true rfl⟩) (va_recv C.2.1 hw.1 (ci := 7) (q0 := 0) rfl (MWa_0 cI cZ a u0)) rfl hl.1 rfl (Nat.le_of_ble_eq_true rfl) dX8_readMethod_26 ⟨Nat.zero_le _, Nat.zero_le _⟩ (fun H locs hw => ?_)
      obtain ⟨g10, h⟩ := boE h
      exact r_zret (f := MW cI cZ a) hQ g10 h hw dX8_readMethod_29
