def F_X6_add (x1 : Int32) (x2 : Int32) (x3 : Int32) (x4 : Int32) (x5 : Int32) (u0 : St) : Option (Int32 × St) := if (u0 1 1) < 0 then (some (0, u0)) else (if (u0 1 1) ≤ (2000 - 5) then (ix 2000 (u0 1 1) (nm (st u0 7 ((u0 1 1)).toNatClampNeg x1) fun u4 => (ix 2000 ((u4 1 1) + 1) (nm (st u4 7 (((u4 1 1) + 1)).toNatClampNeg x2) fun u6 => (ix 2000 ((u6 1 1) + 2) (nm (st u6 7 (((u6 1 1) + 2)).toNatClampNeg x3) fun u8 => (ix 2000 ((u8 1 1) + 3) (nm (st u8 7 (((u8 1 1) + 3)).toNatClampNeg x4) fun u10 => (ix 2000 ((u10 1 1) + 4) (nm (st u10 7 (((u10 1 1) + 4)).toNatClampNeg x5) fun u12 => (nm (st u12 1 1 ((u12 1 1) + 5)) fun u13 => (some (1, u13))))))))))))) else (some (0, u0)))
def F_X6_length (u0 : St) : Option Int32 := some ((u0 1 1) * 4)
def F_X7_feed (x1 : Int32) (x2 : Int32) (x3 : Int32) (x4 : Int32) (x5 : Int32) (u0 : St) : Option (Int32 × St) := b2 (F_X6_add x1 x2 x3 x4 x5 u0) fun r2 u3 => (if r2 = 0 then (some ((-2), u3)) else (b1 (F_X6_length u3) fun r6 => (some (r6, u3))))
def F_X6_clear (u0 : St) : Option St := nm (st u0 1 1 0) fun u1 => (some u1)
def F_X5_byteAt (x1 : Int32) (u0 : St) : Option Int32 := nm ((x1 >>> (2 &&& 31))) fun v1 => (if x1 < 0 then (some (-1)) else (if (u0 2 1) ≤ x1 then (some (-1)) else (if v1 < 2000 then (ix 2000 v1 (some ((ushr (u0 8 (v1).toNatClampNeg) (24 - (8 * (x1 &&& 3)))) &&& 255))) else (some (-1)))))
def F_X5_number_31 (u0 : St) : Option (Int32 × St) := nm (st u0 2 3 1) fun u1 => (some ((-1), u1))
def F_X5_number (x1 : Int32) (x2 : Int32) (u0 : St) : Option (Int32 × St) := b1 (F_X5_byteAt (u0 2 2) u0) fun r2 => (if (u0 2 3) = 0 then (if r2 = (-1) then (F_X5_number_31 u0) else (if r2 < x1 then (F_X5_number_31 u0) else (if r2 ≤ x2 then (nm (st u0 2 2 ((u0 2 2) + 1)) fun u7 => (some (r2, u7))) else (F_X5_number_31 u0)))) else (F_X5_number_31 u0))
def F_X5_stopped (u0 : St) : Option Int32 := bo (u0 2 3) (some (u0 2 3))
def F_X5_next (u0 : St) : Option Int32 := b1 (F_X5_byteAt (u0 2 2) u0) fun r2 => (some r2)
def F_X5_numberOrNothing (x1 : Int32) (u0 : St) : Option (Int32 × St) := b1 (F_X5_next u0) fun r2 => (if r2 = 255 then (b2 (F_X5_number 255 255 u0) fun r8 u9 => (some (r8, u9))) else (b2 (F_X5_number 0 x1 u0) fun r5 u6 => (some (r5, u6))))
def F_X0_has (x1 : Int32) (u0 : St) : Option Int32 := if x1 < 0 then (some 0) else (if (u0 3 0) ≤ x1 then (some 0) else (if 32 ≤ x1 then (some 0) else (some 1)))
def F_X0_fields (x1 : Int32) (u0 : St) : Option Int32 := b1 (F_X0_has x1 u0) fun r2 => (if r2 = 0 then (some (-1)) else (ix 32 x1 (some (u0 10 (x1).toNatClampNeg))))
def F_X0_fieldType (x1 : Int32) (x2 : Int32) (u0 : St) : Option Int32 := if x2 < 0 then (some (-1)) else (b1 (F_X0_fields x1 u0) fun r3 => (if r3 ≤ x2 then (some (-1)) else (ix 480 ((x1 * 15) + x2) (some (u0 11 (((x1 * 15) + x2)).toNatClampNeg)))))
def F_X0_slotMethod (x1 : Int32) (x2 : Int32) (u0 : St) : Option Int32 := b1 (F_X0_has x1 u0) fun r2 => (if r2 = 0 then (some (-1)) else (if x2 < 0 then (some (-1)) else (if 16 ≤ x2 then (some (-1)) else (ix 512 ((x1 * 16) + x2) (some (u0 12 (((x1 * 16) + x2)).toNatClampNeg))))))
def F_X0_inherit_61 : Nat → Int32 → Int32 → Int32 → St → Option St
  | 0, _, _, _, _ => none
  | n + 1, x1, x2, x4, u0 => if 16 ≤ x4 then (some u0) else (b1 (F_X0_slotMethod x2 x4 u0) fun r3 => (ix 512 ((x1 * 16) + x4) (nm (st u0 12 (((x1 * 16) + x4)).toNatClampNeg r3) fun u5 => (ix 512 ((x1 * 16) + x4) (nm (st u5 13 (((x1 * 16) + x4)).toNatClampNeg (-1)) fun u7 => (nm (x4 + 1) fun v8 => (F_X0_inherit_61 n x1 x2 v8 u7)))))))
def F_X0_inherit_27 : Nat → Int32 → Int32 → Int32 → Int32 → St → Option St
  | 0, _, _, _, _, _ => none
  | n + 1, x1, x2, x3, x4, u0 => if x3 ≤ x4 then (F_X0_inherit_61 fu x1 x2 0 u0) else (b1 (F_X0_fieldType x2 x4 u0) fun r3 => (ix 480 ((x1 * 15) + x4) (nm (st u0 11 (((x1 * 15) + x4)).toNatClampNeg r3) fun u5 => (nm (x4 + 1) fun v6 => (F_X0_inherit_27 n x1 x2 x3 v6 u5)))))
def F_X0_inherit (x1 : Int32) (u0 : St) : Option St := ix 32 x1 (nm ((u0 9 (x1).toNatClampNeg)) fun v2 => (b1 (F_X0_fields v2 u0) fun r4 => (nm ((if r4 < 0 then 0 else r4)) fun v5 => (ix 32 x1 (nm (st u0 10 (x1).toNatClampNeg v5) fun u7 => (F_X0_inherit_27 fu x1 v2 v5 0 u7))))))
def F_X5_type (x1 : Int32) (u0 : St) : Option (Int32 × St) := b1 (F_X5_next u0) fun r2 => (if 64 ≤ r2 then (b2 (F_X5_number 64 (64 + x1) u0) fun r5 u6 => (some (r5, u6))) else (b2 (F_X5_number 0 x1 u0) fun r8 u9 => (some (r8, u9))))
def F_X0_readFields_63 (x2 : Int32) (x3 : Int32) (x4 : Int32) (u0 : St) : Option St := ix 32 x2 (nm (st u0 10 (x2).toNatClampNeg (x3 + (if x4 < 0 then 0 else x4))) fun u2 => (some u2))
def F_X0_readFields_21 : Nat → Int32 → Int32 → Int32 → Int32 → St → Option St
  | 0, _, _, _, _, _ => none
  | n + 1, x2, x3, x4, x5, u0 => if x4 ≤ x5 then (F_X0_readFields_63 x2 x3 x4 u0) else (b1 (F_X5_stopped u0) fun r3 => (if r3 = 0 then (b2 (F_X5_type (u0 3 0) u0) fun r6 u7 => (ix 480 (((x2 * 15) + x3) + x5) (nm (st u7 11 ((((x2 * 15) + x3) + x5)).toNatClampNeg r6) fun u9 => (nm (x5 + 1) fun v10 => (F_X0_readFields_21 n x2 x3 x4 v10 u9))))) else (F_X0_readFields_63 x2 x3 x4 u0)))
def F_X0_readFields (x2 : Int32) (u0 : St) : Option St := ix 32 x2 (nm ((u0 10 (x2).toNatClampNeg)) fun v2 => (b2 (F_X5_number 0 (15 - v2) u0) fun r4 u5 => (F_X0_readFields_21 fu x2 v2 r4 0 u5)))
def F_X5_place (u0 : St) : Option Int32 := some (u0 2 2)
def F_X0_readSlots_14 : Nat → Int32 → Int32 → Int32 → Int32 → St → Option St
  | 0, _, _, _, _, _ => none
  | n + 1, x2, x3, x4, x5, u0 => if x3 ≤ x5 then (some u0) else (b2 (F_X5_number x4 15 u0) fun r3 u4 => (b1 (F_X5_place u4) fun r6 => (b2 (F_X5_number 0 255 u4) fun r8 u9 => (b1 (F_X5_stopped u9) fun r11 => (if r11 = 0 then (ix 512 ((x2 * 16) + r3) (nm (st u9 12 (((x2 * 16) + r3)).toNatClampNeg r8) fun u14 => (ix 512 ((x2 * 16) + r3) (nm (st u14 13 (((x2 * 16) + r3)).toNatClampNeg r6) fun u16 => (nm ((r3 + 1)) fun v17 => (nm (x5 + 1) fun v18 => (F_X0_readSlots_14 n x2 x3 v17 v18 u16))))))) else (some u9))))))
def F_X0_readSlots (x2 : Int32) (u0 : St) : Option St := b2 (F_X5_number 0 16 u0) fun r2 u3 => (F_X0_readSlots_14 fu x2 r2 0 0 u3)
def F_X0_readClass_25 (x2 : Int32) (t0 : Int32) (t1 : Int32) (u0 : St) : Option St := ix 32 t1 (nm (st u0 9 (t1).toNatClampNeg t0) fun u2 => (b1 (F_X0_inherit x2 u2) fun u4 => (b1 (F_X0_readFields x2 u4) fun u6 => (b1 (F_X0_readSlots x2 u6) fun u8 => (some u8)))))
def F_X0_readClass (x2 : Int32) (u0 : St) : Option St := b2 (F_X5_numberOrNothing (x2 - 1) u0) fun r2 u3 => (if r2 = 255 then (F_X0_readClass_25 x2 (-1) x2 u3) else (F_X0_readClass_25 x2 r2 x2 u3))
def F_X0_read_46 : Nat → Int32 → St → Option St
  | 0, _, _ => none
  | n + 1, x2, u0 => if 5 ≤ x2 then (some u0) else (b2 (F_X5_number 0 ((u0 3 0) - 1) u0) fun r3 u4 => (ix 5 x2 (nm (st u4 14 (x2).toNatClampNeg r3) fun u6 => (nm (x2 + 1) fun v7 => (F_X0_read_46 n v7 u6)))))
def F_X0_read_44 (u0 : St) : Option St := F_X0_read_46 fu 0 u0
def F_X0_read_17 : Nat → Int32 → St → Option St
  | 0, _, _ => none
  | n + 1, x2, u0 => if (u0 3 0) ≤ x2 then (F_X0_read_44 u0) else (b1 (F_X5_stopped u0) fun r3 => (if r3 = 0 then (b1 (F_X0_readClass x2 u0) fun u6 => (nm (x2 + 1) fun v7 => (F_X0_read_17 n v7 u6))) else (F_X0_read_44 u0)))
def F_X0_read (u0 : St) : Option St := b2 (F_X5_number 1 32 u0) fun r2 u3 => (nm (st u3 3 0 (if r2 < 0 then 0 else r2)) fun u4 => (F_X0_read_17 fu 0 u4))
def F_J7_fill_53178_5 : Nat → Int32 → Int32 → Int32 → St → Option St
  | 0, _, _, _, _ => none
  | n + 1, x1, x2, x3, u0 => if x3 ≤ x2 then (some u0) else (ix 250 x2 (nm (st u0 24 (x2).toNatClampNeg x1) fun u3 => (nm (x2 + 1) fun v4 => (F_J7_fill_53178_5 n x1 v4 x3 u3))))
def F_J7_fill_53178 (x1 : Int32) (u0 : St) : Option St := F_J7_fill_53178_5 fu x1 0 250 u0
def F_X1_clear (u0 : St) : Option St := nm (st u0 5 0 0) fun u1 => (b1 (F_J7_fill_53178 0 u1) fun u3 => (some u3))
def F_X3_clear (u0 : St) : Option St := nm (st u0 4 0 0) fun u1 => (nm (st u1 4 1 (-1)) fun u2 => (b1 (F_X1_clear u2) fun u4 => (some u4)))
def F_X0_size (u0 : St) : Option Int32 := some (u0 3 0)
def F_X3_readParameters_56 : Nat → Int32 → Int32 → Int32 → Int32 → Int32 → St → Option St
  | 0, _, _, _, _, _, _ => none
  | n + 1, x2, x3, x4, x5, x6, u0 => if x5 ≤ x6 then (ix 64 x3 (nm (st u0 16 (x3).toNatClampNeg (x4 + x5)) fun u3 => (some u3))) else (b2 (F_X5_type x2 u0) fun r5 u6 => (ix 512 (((x3 * 8) + x4) + x6) (nm (st u6 17 ((((x3 * 8) + x4) + x6)).toNatClampNeg r5) fun u8 => (nm (x6 + 1) fun v9 => (F_X3_readParameters_56 n x2 x3 x4 x5 v9 u8)))))
def F_X3_readParameters_40 (x2 : Int32) (x3 : Int32) (x4 : Int32) (u0 : St) : Option St := b2 (F_X5_number 0 7 u0) fun r2 u3 => (nm ((if r2 < 0 then 0 else r2)) fun v4 => (F_X3_readParameters_56 fu x2 x3 x4 v4 0 u3))
def F_X3_readParameters_15 (x2 : Int32) (x3 : Int32) (t0 : Int32) (u0 : St) : Option St := if t0 = 1 then (ix 64 x3 (ix 512 (x3 * 8) (nm (st u0 17 ((x3 * 8)).toNatClampNeg ((u0 15 (x3).toNatClampNeg) + 1)) fun u4 => (F_X3_readParameters_40 x2 x3 t0 u4)))) else (F_X3_readParameters_40 x2 x3 t0 u0)
def F_X3_readParameters (x2 : Int32) (x3 : Int32) (u0 : St) : Option St := ix 64 x3 (if (u0 15 (x3).toNatClampNeg) = (-1) then (F_X3_readParameters_15 x2 x3 0 u0) else (F_X3_readParameters_15 x2 x3 1 u0))
def F_X5_typeOrNothing (x1 : Int32) (u0 : St) : Option (Int32 × St) := b1 (F_X5_next u0) fun r2 => (if r2 = 255 then (b2 (F_X5_number 255 255 u0) fun r8 u9 => (some (r8, u9))) else (b2 (F_X5_type x1 u0) fun r5 u6 => (some (r5, u6))))
def F_X3_readHead_62 (x3 : Int32) (t0 : Int32) (t1 : Int32) (u0 : St) : Option St := ix 64 t1 (nm (st u0 18 (t1).toNatClampNeg t0) fun u2 => (ix 64 x3 (b2 (F_X5_number (u2 16 (x3).toNatClampNeg) 12 u2) fun r5 u6 => (ix 64 x3 (nm (st u6 19 (x3).toNatClampNeg r5) fun u8 => (ix 64 x3 (b2 (F_X5_number 0 (12 - (u8 19 (x3).toNatClampNeg)) u8) fun r11 u12 => (ix 64 x3 (nm (st u12 20 (x3).toNatClampNeg r11) fun u14 => (some u14))))))))))
def F_X3_readHead_28 (x2 : Int32) (x3 : Int32) (t0 : Int32) (t1 : Int32) (u0 : St) : Option St := ix 64 t1 (nm (st u0 15 (t1).toNatClampNeg t0) fun u2 => (b1 (F_X3_readParameters x2 x3 u2) fun u4 => (b2 (F_X5_typeOrNothing x2 u4) fun r6 u7 => (if r6 = 255 then (F_X3_readHead_62 x3 (-1) x3 u7) else (F_X3_readHead_62 x3 r6 x3 u7)))))
def F_X3_readHead (x2 : Int32) (x3 : Int32) (u0 : St) : Option St := b2 (F_X5_numberOrNothing (x2 - 1) u0) fun r2 u3 => (if r2 = 255 then (F_X3_readHead_28 x2 x3 (-1) x3 u3) else (F_X3_readHead_28 x2 x3 r2 x3 u3))
def F_X5_pair_50 (x3 : Int32) (t0 : Int32) (t1 : Int32) (u0 : St) : Option (Int32 × St) := b2 (F_X5_number t1 t0 u0) fun r2 u3 => (if (u3 2 3) = 0 then (some (((x3 <<< (8 &&& 31)) ||| r2), u3)) else (some ((-1), u3)))
def F_X5_pair_31 (x2 : Int32) (x3 : Int32) (t0 : Int32) (u0 : St) : Option (Int32 × St) := if x3 = (x2 >>> (8 &&& 31)) then (F_X5_pair_50 x3 (x2 &&& 255) t0 u0) else (F_X5_pair_50 x3 255 t0 u0)
def F_X5_pair (x1 : Int32) (x2 : Int32) (u0 : St) : Option (Int32 × St) := b2 (F_X5_number (x1 >>> (8 &&& 31)) (x2 >>> (8 &&& 31)) u0) fun r2 u3 => (if r2 = (x1 >>> (8 &&& 31)) then (F_X5_pair_31 x2 r2 (x1 &&& 255) u3) else (F_X5_pair_31 x2 r2 0 u3))
def F_X4_first (x0 : Int32) (u0 : St) : Option Int32 := if x0 < 0 then (some 0) else (if (Int32.ofNat 42) ≤ x0 then (some 0) else (ix 42 x0 (some (tF (x0).toNatClampNeg))))
def F_X4_width (x0 : Int32) (u0 : St) : Option Int32 := if x0 < 0 then (some 0) else (if (Int32.ofNat 10) ≤ x0 then (some 0) else (ix 10 x0 (some (tW (x0).toNatClampNeg))))
def F_X4_second (x0 : Int32) (u0 : St) : Option Int32 := if x0 < 0 then (some 0) else (if (Int32.ofNat 42) ≤ x0 then (some 0) else (ix 42 x0 (some (tS (x0).toNatClampNeg))))
def F_X4_length (x0 : Int32) (u0 : St) : Option Int32 := b1 (F_X4_first x0 u0) fun r2 => (b1 (F_X4_width r2 u0) fun r4 => (b1 (F_X4_second x0 u0) fun r6 => (b1 (F_X4_width r6 u0) fun r8 => (some ((1 + r4) + r8)))))
def F_X5_stopAt (x1 : Int32) (u0 : St) : Option St := nm (st u0 2 2 x1) fun u1 => (nm (st u1 2 3 1) fun u2 => (some u2))
def F_X1_markBegin (x1 : Int32) (u0 : St) : Option St := nm ((x1 >>> (5 &&& 31))) fun v1 => (if v1 < 0 then (some u0) else (if 250 ≤ v1 then (some u0) else (ix 250 v1 (ix 250 v1 (nm (st u0 24 (v1).toNatClampNeg ((u0 24 (v1).toNatClampNeg) ||| (1 <<< ((x1 &&& 31) &&& 31)))) fun u6 => (some u6))))))
def F_X5_skip (x1 : Int32) (u0 : St) : Option St := if (u0 2 3) = 0 then (if x1 ≤ ((u0 2 1) - (u0 2 2)) then (nm (st u0 2 2 ((u0 2 2) + x1)) fun u3 => (some u3)) else (b1 (F_X5_stopAt (u0 2 1) u0) fun u5 => (some u5))) else (some u0)
def F_X1_readOperand (x2 : Int32) (x3 : Int32) (u0 : St) : Option (Int32 × St) := if x2 = 2 then (b2 (F_X5_number 0 (x3 - 1) u0) fun r3 u4 => (some (r3, u4))) else (if x2 = 3 then (b2 (F_X5_number 0 5 u0) fun r7 u8 => (some (r7, u8))) else (if x2 = 4 then (b1 (F_X4_width x2 u0) fun r11 => (b1 (F_X5_skip r11 u0) fun u13 => (some ((-1), u13)))) else (if x2 = 5 then (b1 (F_X0_size u0) fun r16 => (b2 (F_X5_number 0 (r16 - 1) u0) fun r18 u19 => (some (r18, u19)))) else (if x2 = 6 then (b1 (F_X4_width x2 u0) fun r22 => (b1 (F_X5_skip r22 u0) fun u24 => (some ((-1), u24)))) else (if x2 = 7 then (b1 (F_X0_size u0) fun r27 => (b2 (F_X5_number 0 r27 u0) fun r29 u30 => (some (r29, u30)))) else (b1 (F_X4_width x2 u0) fun r32 => (b1 (F_X5_skip r32 u0) fun u34 => (some ((-1), u34)))))))))
def F_X1_readSlot (x2 : Int32) (u0 : St) : Option St := b1 (F_X5_next u0) fun r2 => (b1 (F_X0_slotMethod x2 r2 u0) fun r4 => (if r4 = (-1) then (b1 (F_X5_place u0) fun r10 => (b1 (F_X5_stopAt r10 u0) fun u12 => (some u12))) else (b2 (F_X5_number r2 r2 u0) fun r7 u8 => (some u8))))
def F_X1_readInstruction (x3 : Int32) (x4 : Int32) (u0 : St) : Option St := b1 (F_X5_place u0) fun r2 => (b2 (F_X5_number 0 41 u0) fun r4 u5 => (b1 (F_X5_stopped u5) fun r7 => (if r7 = 0 then (b1 (F_X4_length r4 u5) fun r10 => (if r10 ≤ (x4 - r2) then (b1 (F_X1_markBegin r2 u5) fun u13 => (b1 (F_X4_first r4 u13) fun r15 => (b2 (F_X1_readOperand r15 x3 u13) fun r17 u18 => (b1 (F_X4_second r4 u18) fun r20 => (if r20 = 6 then (b1 (F_X0_fields r17 u18) fun r29 => (b2 (F_X5_number 0 (r29 - 1) u18) fun r31 u32 => (some u32))) else (if r20 = 9 then (b1 (F_X1_readSlot r17 u18) fun u27 => (some u27)) else (b2 (F_X1_readOperand r20 x3 u18) fun r24 u25 => (some u25)))))))) else (b1 (F_X5_stopAt r2 u5) fun u34 => (some u34)))) else (some u5))))
def F_X1_read_74 (x3 : Int32) (x5 : Int32) (x6 : Int32) (x7 : Int32) (u0 : St) : Option St := ix 64 x3 (nm (st u0 21 (x3).toNatClampNeg x6) fun u2 => (ix 64 x3 (nm (st u2 22 (x3).toNatClampNeg x5) fun u4 => (ix 64 x3 (nm (st u4 23 (x3).toNatClampNeg x7) fun u6 => (nm (st u6 5 0 ((u6 5 0) + x7)) fun u7 => (some u7)))))))
def F_X1_read_26 : Nat → Int32 → Int32 → Int32 → Int32 → Int32 → Int32 → St → Option St
  | 0, _, _, _, _, _, _, _ => none
  | n + 1, x3, x4, x5, x6, x7, x8, u0 => if x5 ≤ x8 then (F_X1_read_74 x3 x5 x6 x7 u0) else (b1 (F_X5_place u0) fun r3 => (if (x6 + x5) ≤ r3 then (F_X1_read_74 x3 x5 x6 x7 u0) else (b1 (F_X5_stopped u0) fun r6 => (if r6 = 0 then (b1 (F_X1_readInstruction x4 (x6 + x5) u0) fun u9 => (nm (x7 + 1) fun v10 => (nm (x8 + 1) fun v11 => (F_X1_read_26 n x3 x4 x5 x6 v10 v11 u9)))) else (F_X1_read_74 x3 x5 x6 x7 u0)))))
def F_X1_read (x3 : Int32) (x4 : Int32) (u0 : St) : Option St := b2 (F_X5_pair 1 1000 u0) fun r2 u3 => (nm ((if r2 < 0 then 0 else r2)) fun v4 => (b1 (F_X5_place u3) fun r6 => (F_X1_read_26 fu x3 x4 v4 r6 0 0 u3)))
def F_X2_read_34 : Nat → Int32 → Int32 → Int32 → St → Option St
  | 0, _, _, _, _ => none
  | n + 1, x2, x4, x5, u0 => if x4 ≤ x5 then (some u0) else (b1 (F_X5_skip 4 u0) fun u3 => (b2 (F_X5_number 0 (x2 - 1) u3) fun r5 u6 => (b1 (F_X5_skip 2 u6) fun u8 => (nm (x5 + 1) fun v9 => (F_X2_read_34 n x2 x4 v9 u8)))))
def F_X2_read (x2 : Int32) (x3 : Int32) (u0 : St) : Option St := b2 (F_X5_number 0 8 u0) fun r2 u3 => (nm ((if r2 < 0 then 0 else r2)) fun v4 => (b1 (F_X5_place u3) fun r6 => (ix 64 x3 (nm (st u3 25 (x3).toNatClampNeg r6) fun u8 => (ix 64 x3 (nm (st u8 26 (x3).toNatClampNeg v4) fun u10 => (F_X2_read_34 fu x2 v4 0 u10)))))))
def F_X3_has (x1 : Int32) (u0 : St) : Option Int32 := if x1 < 0 then (some 0) else (if (u0 4 0) ≤ x1 then (some 0) else (if 64 ≤ x1 then (some 0) else (some 1)))
def F_X3_readFirst_40 (u0 : St) : Option St := b1 (F_X5_place u0) fun r2 => (b1 (F_X5_stopAt r2 u0) fun u4 => (some u4))
def F_X3_readFirst (u0 : St) : Option St := b1 (F_X5_next u0) fun r2 => (b1 (F_X5_stopped u0) fun r4 => (if r4 = 0 then (b1 (F_X3_has r2 u0) fun r7 => (if r7 = 0 then (F_X3_readFirst_40 u0) else (ix 64 r2 (if (u0 15 (r2).toNatClampNeg) = (-1) then (ix 64 r2 (if (u0 16 (r2).toNatClampNeg) = 0 then (b2 (F_X5_number r2 r2 u0) fun r14 u15 => (nm (st u15 4 1 r14) fun u16 => (some u16))) else (F_X3_readFirst_40 u0))) else (F_X3_readFirst_40 u0))))) else (some u0)))
def F_X3_read_81 (u0 : St) : Option St := b1 (F_X3_readFirst u0) fun u2 => (some u2)
def F_X3_read_21 : Nat → Int32 → St → Option St
  | 0, _, _ => none
  | n + 1, x3, u0 => if (u0 4 0) ≤ x3 then (F_X3_read_81 u0) else (b1 (F_X5_stopped u0) fun r3 => (if r3 = 0 then (b1 (F_X0_size u0) fun r6 => (b1 (F_X3_readHead r6 x3 u0) fun u8 => (ix 64 x3 (b1 (F_X1_read x3 (u8 19 (x3).toNatClampNeg) u8) fun u11 => (b1 (F_X0_size u11) fun r13 => (b1 (F_X2_read r13 x3 u11) fun u15 => (nm (x3 + 1) fun v16 => (F_X3_read_21 n v16 u15)))))))) else (F_X3_read_81 u0)))
def F_X3_read (u0 : St) : Option St := b1 (F_X3_clear u0) fun u2 => (b2 (F_X5_number 1 64 u2) fun r4 u5 => (nm (st u5 4 0 (if r4 < 0 then 0 else r4)) fun u6 => (F_X3_read_21 fu 0 u6)))
def F_X5_close (u0 : St) : Option St := if (u0 2 1) ≤ (u0 2 2) then (some u0) else (nm (st u0 2 3 1) fun u2 => (some u2))
def F_X0_slotPlace (x1 : Int32) (x2 : Int32) (u0 : St) : Option Int32 := b1 (F_X0_has x1 u0) fun r2 => (if r2 = 0 then (some (-1)) else (if x2 < 0 then (some (-1)) else (if 16 ≤ x2 then (some (-1)) else (ix 512 ((x1 * 16) + x2) (some (u0 13 (((x1 * 16) + x2)).toNatClampNeg))))))
def F_X0_upper (x1 : Int32) (u0 : St) : Option Int32 := b1 (F_X0_has x1 u0) fun r2 => (if r2 = 0 then (some (-1)) else (ix 32 x1 (some (u0 9 (x1).toNatClampNeg))))
def F_X3_parameterType (x1 : Int32) (x2 : Int32) (u0 : St) : Option Int32 := if x2 < 0 then (some (-1)) else (ix 64 x1 (if (u0 16 (x1).toNatClampNeg) ≤ x2 then (some (-1)) else (if 8 ≤ x2 then (some (-1)) else (ix 512 ((x1 * 8) + x2) (some (u0 17 (((x1 * 8) + x2)).toNatClampNeg))))))
def F_X3_standsFor_50 : Nat → Int32 → Int32 → Int32 → St → Option Int32
  | 0, _, _, _, _ => none
  | n + 1, x1, x2, x3, u0 => ix 64 x1 (if (u0 16 (x1).toNatClampNeg) ≤ x3 then (some 1) else (b1 (F_X3_parameterType x1 x3 u0) fun r4 => (b1 (F_X3_parameterType x2 x3 u0) fun r6 => (if r4 = r6 then (nm (x3 + 1) fun v8 => (F_X3_standsFor_50 n x1 x2 v8 u0)) else (some 0)))))
def F_X3_standsFor (x1 : Int32) (x2 : Int32) (u0 : St) : Option Int32 := b1 (F_X3_has x1 u0) fun r2 => (if r2 = 0 then (some 0) else (b1 (F_X3_has x2 u0) fun r5 => (if r5 = 0 then (some 0) else (ix 64 x1 (ix 64 x2 (if (u0 18 (x1).toNatClampNeg) = (u0 18 (x2).toNatClampNeg) then (ix 64 x1 (ix 64 x2 (if (u0 16 (x1).toNatClampNeg) = (u0 16 (x2).toNatClampNeg) then (F_X3_standsFor_50 fu x1 x2 1 u0) else (some 0)))) else (some 0)))))))
def F_X3_fitsSlot_57 (u0 : St) : Option Int32 := some 1
def F_X3_fitsSlot (x2 : Int32) (x3 : Int32) (u0 : St) : Option Int32 := b1 (F_X0_slotMethod x2 x3 u0) fun r2 => (b1 (F_X0_upper x2 u0) fun r4 => (b1 (F_X0_slotMethod r4 x3 u0) fun r6 => (b1 (F_X3_has r2 u0) fun r8 => (if r8 = 0 then (some 0) else (ix 64 r2 (if (u0 15 (r2).toNatClampNeg) = x2 then (if r6 = (-1) then (F_X3_fitsSlot_57 u0) else (b1 (F_X3_standsFor r2 r6 u0) fun r14 => (if r14 = 0 then (some 0) else (F_X3_fitsSlot_57 u0)))) else (some 0)))))))
def F_X3_misfitSlot_35 (k2 : Int32 → Int32 → St → Option Int32) (x2 : Int32) (x3 : Int32) (u0 : St) : Option Int32 := nm (x3 + 1) fun v1 => (k2 x2 v1 u0)
def F_X3_misfitSlot_2 : Nat → Int32 → Int32 → St → Option Int32
  | 0, _, _, _ => none
  | n + 1, x2, x3, u0 => if 16 ≤ x3 then (some (-1)) else (b1 (F_X0_slotPlace x2 x3 u0) fun r3 => (if r3 = (-1) then (F_X3_misfitSlot_35 (F_X3_misfitSlot_2 n) x2 x3 u0) else (b1 (F_X3_fitsSlot x2 x3 u0) fun r6 => (if r6 = 0 then (some r3) else (F_X3_misfitSlot_35 (F_X3_misfitSlot_2 n) x2 x3 u0)))))
def F_X3_misfitSlot (x2 : Int32) (u0 : St) : Option Int32 := F_X3_misfitSlot_2 fu x2 0 u0
def F_X1_size (x1 : Int32) (u0 : St) : Option Int32 := if x1 < 0 then (some 0) else (if 64 ≤ x1 then (some 0) else (ix 64 x1 (some (u0 23 (x1).toNatClampNeg))))
def F_X5_valueAt_5 : Nat → Int32 → Int32 → Int32 → Int32 → St → Option Int32
  | 0, _, _, _, _, _ => none
  | n + 1, x1, x2, x3, x4, u0 => if x2 ≤ x4 then (some x3) else (b1 (F_X5_byteAt (x1 + x4) u0) fun r3 => (nm (((x3 <<< (8 &&& 31)) ||| r3)) fun v4 => (nm (x4 + 1) fun v5 => (F_X5_valueAt_5 n x1 x2 v4 v5 u0))))
def F_X5_valueAt (x1 : Int32) (x2 : Int32) (u0 : St) : Option Int32 := F_X5_valueAt_5 fu x1 x2 0 0 u0
def F_X1_length (x1 : Int32) (u0 : St) : Option Int32 := if x1 < 0 then (some 0) else (if 64 ≤ x1 then (some 0) else (ix 64 x1 (some (u0 22 (x1).toNatClampNeg))))
def F_X1_beginsAt (x1 : Int32) (x2 : Int32) (u0 : St) : Option Int32 := if x2 < 0 then (some 0) else (b1 (F_X1_length x1 u0) fun r3 => (if x2 < r3 then (ix 64 x1 (nm (((u0 21 (x1).toNatClampNeg) + x2)) fun v6 => (nm ((v6 >>> (5 &&& 31))) fun v7 => (if v7 < 0 then (some 0) else (if 250 ≤ v7 then (some 0) else (ix 250 v7 (if ((ushr (u0 24 (v7).toNatClampNeg) (v6 &&& 31)) &&& 1) = 1 then (some 1) else (some 0)))))))) else (some 0)))
def F_X1_misfit_140 (k27 : Int32 → Int32 → Int32 → Int32 → Int32 → St → Option Int32) (x2 : Int32) (x3 : Int32) (x4 : Int32) (x5 : Int32) (x6 : Int32) (x7 : Int32) (u0 : St) : Option Int32 := b1 (F_X4_length x7 u0) fun r2 => (nm ((x5 + r2)) fun v3 => (nm (x6 + 1) fun v4 => (k27 x2 x3 x4 v3 v4 u0)))
def F_X1_misfit_113 (k27 : Int32 → Int32 → Int32 → Int32 → Int32 → St → Option Int32) (x2 : Int32) (x3 : Int32) (x4 : Int32) (x5 : Int32) (x6 : Int32) (x7 : Int32) (x9 : Int32) (u0 : St) : Option Int32 := b1 (F_X4_second x7 u0) fun r2 => (if r2 = 4 then (b1 (F_X5_valueAt x9 2 u0) fun r5 => (b1 (F_X1_beginsAt x2 r5 u0) fun r7 => (if r7 = 0 then (some x9) else (F_X1_misfit_140 k27 x2 x3 x4 x5 x6 x7 u0)))) else (F_X1_misfit_140 k27 x2 x3 x4 x5 x6 x7 u0))
def F_X1_misfit_85 (k27 : Int32 → Int32 → Int32 → Int32 → Int32 → St → Option Int32) (x2 : Int32) (x3 : Int32) (x4 : Int32) (x5 : Int32) (x6 : Int32) (x7 : Int32) (x8 : Int32) (x9 : Int32) (u0 : St) : Option Int32 := if x8 = 4 then (b1 (F_X5_valueAt (x5 + 1) 2 u0) fun r3 => (b1 (F_X1_beginsAt x2 r3 u0) fun r5 => (if r5 = 0 then (some (x5 + 1)) else (F_X1_misfit_113 k27 x2 x3 x4 x5 x6 x7 x9 u0)))) else (F_X1_misfit_113 k27 x2 x3 x4 x5 x6 x7 x9 u0)
def F_X1_misfit_27 : Nat → Int32 → Int32 → Int32 → Int32 → Int32 → St → Option Int32
  | 0, _, _, _, _, _, _ => none
  | n + 1, x2, x3, x4, x5, x6, u0 => if x4 ≤ x6 then (some (-1)) else (b1 (F_X5_byteAt x5 u0) fun r3 => (b1 (F_X4_first r3 u0) fun r5 => (b1 (F_X4_width r5 u0) fun r7 => (nm (((x5 + 1) + r7)) fun v8 => (if r5 = 8 then (b1 (F_X5_byteAt (x5 + 1) u0) fun r11 => (if r11 < x3 then (F_X1_misfit_85 (F_X1_misfit_27 n) x2 x3 x4 x5 x6 r3 r5 v8 u0) else (some (x5 + 1)))) else (F_X1_misfit_85 (F_X1_misfit_27 n) x2 x3 x4 x5 x6 r3 r5 v8 u0))))))
def F_X1_misfit_22 (x2 : Int32) (x3 : Int32) (x4 : Int32) (t0 : Int32) (u0 : St) : Option Int32 := F_X1_misfit_27 fu x2 x3 x4 t0 0 u0
def F_X1_misfit (x2 : Int32) (x3 : Int32) (u0 : St) : Option Int32 := b1 (F_X1_size x2 u0) fun r2 => (if r2 ≤ 0 then (F_X1_misfit_22 x2 x3 r2 0 u0) else (ix 64 x2 (F_X1_misfit_22 x2 x3 r2 (u0 21 (x2).toNatClampNeg) u0)))
def F_X2_size (x1 : Int32) (u0 : St) : Option Int32 := if x1 < 0 then (some 0) else (if 64 ≤ x1 then (some 0) else (ix 64 x1 (some (u0 26 (x1).toNatClampNeg))))
def F_X2_misfit_99 (k27 : Int32 → Int32 → Int32 → Int32 → St → Option Int32) (x3 : Int32) (x4 : Int32) (x5 : Int32) (x6 : Int32) (u0 : St) : Option Int32 := b1 (F_X5_valueAt (x5 + 5) 2 u0) fun r2 => (b1 (F_X1_beginsAt x3 r2 u0) fun r4 => (if r4 = 0 then (some (x5 + 5)) else (nm (x5 + 7) fun v6 => (nm (x6 + 1) fun v7 => (k27 x3 x4 v6 v7 u0)))))
def F_X2_misfit_27 : Nat → Int32 → Int32 → Int32 → Int32 → St → Option Int32
  | 0, _, _, _, _, _ => none
  | n + 1, x3, x4, x5, x6, u0 => if x4 ≤ x6 then (some (-1)) else (b1 (F_X5_valueAt x5 2 u0) fun r3 => (b1 (F_X5_valueAt (x5 + 2) 2 u0) fun r5 => (if r5 ≤ r3 then (some x5) else (b1 (F_X1_beginsAt x3 r3 u0) fun r8 => (if r8 = 0 then (some x5) else (b1 (F_X1_length x3 u0) fun r11 => (if r5 = r11 then (F_X2_misfit_99 (F_X2_misfit_27 n) x3 x4 x5 x6 u0) else (b1 (F_X1_beginsAt x3 r5 u0) fun r14 => (if r14 = 0 then (some (x5 + 2)) else (F_X2_misfit_99 (F_X2_misfit_27 n) x3 x4 x5 x6 u0))))))))))
def F_X2_misfit_22 (x3 : Int32) (x4 : Int32) (t0 : Int32) (u0 : St) : Option Int32 := F_X2_misfit_27 fu x3 x4 t0 0 u0
def F_X2_misfit (x3 : Int32) (u0 : St) : Option Int32 := b1 (F_X2_size x3 u0) fun r2 => (if r2 ≤ 0 then (F_X2_misfit_22 x3 r2 0 u0) else (ix 64 x3 (F_X2_misfit_22 x3 r2 (u0 25 (x3).toNatClampNeg) u0)))
def F_X3_misfit_82 (k35 : Int32 → St → Option Int32) (x3 : Int32) (t0 : Int32) (u0 : St) : Option Int32 := if t0 = (-1) then (nm (x3 + 1) fun v2 => (k35 v2 u0)) else (some t0)
def F_X3_misfit_35 : Nat → Int32 → St → Option Int32
  | 0, _, _ => none
  | n + 1, x3, u0 => if (u0 4 0) ≤ x3 then (some (-1)) else (b1 (F_X1_misfit x3 (u0 4 0) u0) fun r3 => (if r3 = (-1) then (b1 (F_X2_misfit x3 u0) fun r6 => (F_X3_misfit_82 (F_X3_misfit_35 n) x3 r6 u0)) else (F_X3_misfit_82 (F_X3_misfit_35 n) x3 r3 u0)))
def F_X3_misfit_2 : Nat → Int32 → St → Option Int32
  | 0, _, _ => none
  | n + 1, x3, u0 => b1 (F_X0_size u0) fun r2 => (if r2 ≤ x3 then (F_X3_misfit_35 fu 0 u0) else (b1 (F_X3_misfitSlot x3 u0) fun r5 => (if r5 = (-1) then (nm (x3 + 1) fun v7 => (F_X3_misfit_2 n v7 u0)) else (some r5))))
def F_X3_misfit (u0 : St) : Option Int32 := F_X3_misfit_2 fu 0 u0
def F_X1_total (u0 : St) : Option Int32 := some (u0 5 0)
def F_X3_instructions (u0 : St) : Option Int32 := b1 (F_X1_total u0) fun r2 => (some r2)
def F_X0_clear (u0 : St) : Option St := nm (st u0 3 0 0) fun u1 => (some u1)
def F_X5_take_12 (u0 : St) : Option (Int32 × St) := b1 (F_X6_clear u0) fun u1 => (some (0, u1))
def F_X5_take (x2 : Int32) (u0 : St) : Option (Int32 × St) := if x2 < 0 then (F_X5_take_12 u0) else (b1 (F_X6_length u0) fun r1 => (if x2 ≤ r1 then (nm (st u0 1 1 0) fun u1 => (nm (st u1 2 1 x2) fun u2 => (nm (st u2 2 2 0) fun u3 => (nm (st u3 2 3 0) fun u4 => (some (1, ssw u4)))))) else (F_X5_take_12 u0)))
def F_X7_end_85 (t0 : Int32) (u0 : St) : Option (Int32 × St) := if t0 = (-1) then (b1 (F_X3_instructions u0) fun r7 => (some (r7, u0))) else (b1 (F_X0_clear u0) fun u3 => (b1 (F_X3_clear u3) fun u5 => (some (((-3) - t0), u5))))
def F_X7_end (x1 : Int32) (u0 : St) : Option (Int32 × St) := b2 (F_X5_take x1 u0) fun rT uT => (if rT = 0 then (some ((-1), uT)) else (b1 (F_X0_read uT) fun u4 => (b1 (F_X3_read u4) fun u6 => (b1 (F_X5_close u6) fun u8 => (b1 (F_X5_stopped u8) fun r10 => (if r10 = 0 then (b1 (F_X3_misfit u8) fun r13 => (F_X7_end_85 r13 u8)) else (b1 (F_X5_place u8) fun r15 => (F_X7_end_85 r15 u8))))))))
def F_X3_size (u0 : St) : Option Int32 := some (u0 4 0)
def F_X3_first (u0 : St) : Option Int32 := some (u0 4 1)
def F_X7_count (x1 : Int32) (u0 : St) : Option Int32 := if x1 = 0 then (b1 (F_X0_size u0) fun r3 => (some r3)) else (if x1 = 1 then (b1 (F_X3_size u0) fun r6 => (some r6)) else (if x1 = 2 then (b1 (F_X3_instructions u0) fun r9 => (some r9)) else (if x1 = 3 then (b1 (F_X3_first u0) fun r12 => (some r12)) else (some (-1)))))
def F_X7_classOf (x1 : Int32) (x2 : Int32) (x3 : Int32) (u0 : St) : Option Int32 := if x2 = 0 then (b1 (F_X0_upper x1 u0) fun r3 => (some r3)) else (if x2 = 1 then (b1 (F_X0_fields x1 u0) fun r6 => (some r6)) else (if x2 = 2 then (b1 (F_X0_fieldType x1 x3 u0) fun r9 => (some r9)) else (if x2 = 3 then (b1 (F_X0_slotMethod x1 x3 u0) fun r12 => (some r12)) else (some (-1)))))
def F_X0_reaches_5 : Nat → Int32 → Int32 → Int32 → St → Option Int32
  | 0, _, _, _, _ => none
  | n + 1, x2, x3, x4, u0 => if 32 ≤ x4 then (some 0) else (b1 (F_X0_has x3 u0) fun r3 => (if r3 = 0 then (some 0) else (if x3 = x2 then (some 1) else (ix 32 x3 (nm ((u0 9 (x3).toNatClampNeg)) fun v7 => (nm (x4 + 1) fun v8 => (F_X0_reaches_5 n x2 v7 v8 u0)))))))
def F_X0_reaches (x1 : Int32) (x2 : Int32) (u0 : St) : Option Int32 := F_X0_reaches_5 fu x2 x1 0 u0
def F_X7_isA (x1 : Int32) (x2 : Int32) (u0 : St) : Option Int32 := b1 (F_X0_reaches x1 x2 u0) fun r2 => (bo r2 (some r2))
def F_X1_placeOf_26 : Nat → Int32 → Int32 → Int32 → Int32 → St → Option Int32
  | 0, _, _, _, _, _ => none
  | n + 1, x2, x3, x4, x5, u0 => if x3 ≤ x5 then (ix 64 x2 (some (x4 - (u0 21 (x2).toNatClampNeg)))) else (b1 (F_X5_byteAt x4 u0) fun r4 => (b1 (F_X4_length r4 u0) fun r6 => (nm ((x4 + r6)) fun v7 => (nm (x5 + 1) fun v8 => (F_X1_placeOf_26 n x2 x3 v7 v8 u0)))))
def F_X1_placeOf (x2 : Int32) (x3 : Int32) (u0 : St) : Option Int32 := if x3 < 0 then (some (-1)) else (b1 (F_X1_size x2 u0) fun r3 => (if x3 < r3 then (ix 64 x2 (nm ((u0 21 (x2).toNatClampNeg)) fun v6 => (F_X1_placeOf_26 fu x2 x3 v6 0 u0))) else (some (-1))))
def F_X3_fact (x2 : Int32) (x3 : Int32) (x4 : Int32) (u0 : St) : Option Int32 := b1 (F_X3_has x2 u0) fun r2 => (if r2 = 0 then (some (-1)) else (if x3 = 0 then (ix 64 x2 (some (u0 15 (x2).toNatClampNeg))) else (if x3 = 1 then (ix 64 x2 (some (u0 16 (x2).toNatClampNeg))) else (if x3 = 2 then (b1 (F_X3_parameterType x2 x4 u0) fun r10 => (some r10)) else (if x3 = 3 then (ix 64 x2 (some (u0 18 (x2).toNatClampNeg))) else (if x3 = 4 then (ix 64 x2 (some (u0 19 (x2).toNatClampNeg))) else (if x3 = 5 then (ix 64 x2 (some (u0 20 (x2).toNatClampNeg))) else (if x3 = 6 then (b1 (F_X1_length x2 u0) fun r19 => (some r19)) else (if x3 = 7 then (b1 (F_X1_size x2 u0) fun r22 => (some r22)) else (if x3 = 8 then (b1 (F_X1_placeOf x2 x4 u0) fun r25 => (some r25)) else (if x3 = 9 then (b1 (F_X2_size x2 u0) fun r28 => (some r28)) else (some (-1)))))))))))))
def F_X7_method (x1 : Int32) (x2 : Int32) (x3 : Int32) (u0 : St) : Option Int32 := b1 (F_X3_fact x1 x2 x3 u0) fun r2 => (some r2)
def F_X2_fact (x2 : Int32) (x3 : Int32) (x4 : Int32) (u0 : St) : Option Int32 := if x3 < 0 then (some (-1)) else (b1 (F_X2_size x2 u0) fun r3 => (if x3 < r3 then (ix 64 x2 (nm (((u0 25 (x2).toNatClampNeg) + (x3 * 7))) fun v6 => (if x4 = 0 then (b1 (F_X5_valueAt v6 2 u0) fun r9 => (some r9)) else (if x4 = 1 then (b1 (F_X5_valueAt (v6 + 2) 2 u0) fun r12 => (some r12)) else (if x4 = 2 then (b1 (F_X5_byteAt (v6 + 4) u0) fun r15 => (some r15)) else (if x4 = 3 then (b1 (F_X5_valueAt (v6 + 5) 2 u0) fun r18 => (some r18)) else (some (-1)))))))) else (some (-1))))
def F_X3_handlerFact (x2 : Int32) (x3 : Int32) (x4 : Int32) (u0 : St) : Option Int32 := b1 (F_X3_has x2 u0) fun r2 => (if r2 = 0 then (some (-1)) else (b1 (F_X2_fact x2 x3 x4 u0) fun r5 => (some r5)))
def F_X7_handler (x1 : Int32) (x2 : Int32) (x3 : Int32) (u0 : St) : Option Int32 := b1 (F_X3_handlerFact x1 x2 x3 u0) fun r2 => (some r2)
def F_X1_fact (x2 : Int32) (x3 : Int32) (x4 : Int32) (u0 : St) : Option Int32 := b1 (F_X1_beginsAt x2 x3 u0) fun r2 => (if r2 = 0 then (some (-1)) else (ix 64 x2 (nm (((u0 21 (x2).toNatClampNeg) + x3)) fun v5 => (b1 (F_X5_byteAt v5 u0) fun r7 => (b1 (F_X4_first r7 u0) fun r9 => (b1 (F_X4_width r9 u0) fun r11 => (if x4 = 0 then (some r7) else (if x4 = 1 then (b1 (F_X5_valueAt (v5 + 1) r11 u0) fun r15 => (some r15)) else (if x4 = 2 then (b1 (F_X4_second r7 u0) fun r18 => (b1 (F_X4_width r18 u0) fun r20 => (b1 (F_X5_valueAt ((v5 + 1) + r11) r20 u0) fun r22 => (some r22)))) else (if x4 = 3 then (b1 (F_X4_length r7 u0) fun r25 => (some (x3 + r25))) else (some (-1))))))))))))
def F_X3_instructionFact (x2 : Int32) (x3 : Int32) (x4 : Int32) (u0 : St) : Option Int32 := b1 (F_X3_has x2 u0) fun r2 => (if r2 = 0 then (some (-1)) else (b1 (F_X1_fact x2 x3 x4 u0) fun r5 => (some r5)))
def F_X7_instruction (x1 : Int32) (x2 : Int32) (x3 : Int32) (u0 : St) : Option Int32 := b1 (F_X3_instructionFact x1 x2 x3 u0) fun r2 => (some r2)
def F_X0_fault (x1 : Int32) (u0 : St) : Option Int32 := if (u0 3 0) ≤ 0 then (some (-1)) else (if x1 < 0 then (some (-1)) else (if 5 ≤ x1 then (some (-1)) else (ix 5 x1 (some (u0 14 (x1).toNatClampNeg)))))
def F_X7_thrown (x1 : Int32) (u0 : St) : Option Int32 := b1 (F_X0_fault x1 u0) fun r2 => (some r2)
