def XW (cI cZ : ClassId) (a : Nat → Nat) (σ : St) : va_W := [(a 0, .inr (6, [.ref (a 1), .ref (a 2), .ref (a 3), .ref (a 4)])),
  (a 1, .inr (5, [.ref (a 7), .int (σ 1 1)])),
  (a 2, .inr (4, [.ref (a 8), .int (σ 2 1), .int (σ 2 2), .int (σ 2 3)])),
  (a 3, .inr (0, [.int (σ 3 0), .ref (a 9), .ref (a 10), .ref (a 11), .ref (a 12), .ref (a 13), .ref (a 14)])),
  (a 4, .inr (3, [.int (σ 4 0), .int (σ 4 1), .ref (a 15), .ref (a 16), .ref (a 17), .ref (a 18), .ref (a 19), .ref (a 20), .ref (a 5), .ref (a 6)])),
  (a 5, .inr (1, [.int (σ 5 0), .ref (a 21), .ref (a 22), .ref (a 23), .ref (a 24)])),
  (a 6, .inr (2, [.ref (a 25), .ref (a 26)])),
  (a 7, .inl (cI, 2000, .inl (σ 7))),
  (a 8, .inl (cI, 2000, .inl (σ 8))),
  (a 9, .inl (cI, 32, .inl (σ 9))),
  (a 10, .inl (cI, 32, .inl (σ 10))),
  (a 11, .inl (cI, 480, .inl (σ 11))),
  (a 12, .inl (cI, 512, .inl (σ 12))),
  (a 13, .inl (cI, 512, .inl (σ 13))),
  (a 14, .inl (cI, 5, .inl (σ 14))),
  (a 15, .inl (cI, 64, .inl (σ 15))),
  (a 16, .inl (cI, 64, .inl (σ 16))),
  (a 17, .inl (cI, 512, .inl (σ 17))),
  (a 18, .inl (cI, 64, .inl (σ 18))),
  (a 19, .inl (cI, 64, .inl (σ 19))),
  (a 20, .inl (cI, 64, .inl (σ 20))),
  (a 21, .inl (cI, 64, .inl (σ 21))),
  (a 22, .inl (cI, 64, .inl (σ 22))),
  (a 23, .inl (cI, 64, .inl (σ 23))),
  (a 24, .inl (cI, 250, .inl (σ 24))),
  (a 25, .inl (cI, 64, .inl (σ 25))),
  (a 26, .inl (cI, 64, .inl (σ 26)))]
theorem XWa_0 (cI cZ : ClassId) (a : Nat → Nat) (σ : St) : (XW cI cZ a σ)[0]? = some (a 0, .inr (6, [.ref (a 1), .ref (a 2), .ref (a 3), .ref (a 4)])) := rfl
theorem XWa_1 (cI cZ : ClassId) (a : Nat → Nat) (σ : St) : (XW cI cZ a σ)[1]? = some (a 1, .inr (5, [.ref (a 7), .int (σ 1 1)])) := rfl
theorem XWs_1_1 (cI cZ : ClassId) (a : Nat → Nat) (σ : St) (v : Int32) : (XW cI cZ a σ).set 1 (a 1, .inr (5, ([.ref (a 7), .int (σ 1 1)] : List Value).set 1 (.int v))) = XW cI cZ a (st σ 1 1 v) := rfl
theorem XWa_2 (cI cZ : ClassId) (a : Nat → Nat) (σ : St) : (XW cI cZ a σ)[2]? = some (a 2, .inr (4, [.ref (a 8), .int (σ 2 1), .int (σ 2 2), .int (σ 2 3)])) := rfl
theorem XWs_2_1 (cI cZ : ClassId) (a : Nat → Nat) (σ : St) (v : Int32) : (XW cI cZ a σ).set 2 (a 2, .inr (4, ([.ref (a 8), .int (σ 2 1), .int (σ 2 2), .int (σ 2 3)] : List Value).set 1 (.int v))) = XW cI cZ a (st σ 2 1 v) := rfl
theorem XWs_2_2 (cI cZ : ClassId) (a : Nat → Nat) (σ : St) (v : Int32) : (XW cI cZ a σ).set 2 (a 2, .inr (4, ([.ref (a 8), .int (σ 2 1), .int (σ 2 2), .int (σ 2 3)] : List Value).set 2 (.int v))) = XW cI cZ a (st σ 2 2 v) := rfl
theorem XWs_2_3 (cI cZ : ClassId) (a : Nat → Nat) (σ : St) (v : Int32) : (XW cI cZ a σ).set 2 (a 2, .inr (4, ([.ref (a 8), .int (σ 2 1), .int (σ 2 2), .int (σ 2 3)] : List Value).set 3 (.int v))) = XW cI cZ a (st σ 2 3 v) := rfl
theorem XWa_3 (cI cZ : ClassId) (a : Nat → Nat) (σ : St) : (XW cI cZ a σ)[3]? = some (a 3, .inr (0, [.int (σ 3 0), .ref (a 9), .ref (a 10), .ref (a 11), .ref (a 12), .ref (a 13), .ref (a 14)])) := rfl
theorem XWs_3_0 (cI cZ : ClassId) (a : Nat → Nat) (σ : St) (v : Int32) : (XW cI cZ a σ).set 3 (a 3, .inr (0, ([.int (σ 3 0), .ref (a 9), .ref (a 10), .ref (a 11), .ref (a 12), .ref (a 13), .ref (a 14)] : List Value).set 0 (.int v))) = XW cI cZ a (st σ 3 0 v) := rfl
theorem XWa_4 (cI cZ : ClassId) (a : Nat → Nat) (σ : St) : (XW cI cZ a σ)[4]? = some (a 4, .inr (3, [.int (σ 4 0), .int (σ 4 1), .ref (a 15), .ref (a 16), .ref (a 17), .ref (a 18), .ref (a 19), .ref (a 20), .ref (a 5), .ref (a 6)])) := rfl
theorem XWs_4_0 (cI cZ : ClassId) (a : Nat → Nat) (σ : St) (v : Int32) : (XW cI cZ a σ).set 4 (a 4, .inr (3, ([.int (σ 4 0), .int (σ 4 1), .ref (a 15), .ref (a 16), .ref (a 17), .ref (a 18), .ref (a 19), .ref (a 20), .ref (a 5), .ref (a 6)] : List Value).set 0 (.int v))) = XW cI cZ a (st σ 4 0 v) := rfl
theorem XWs_4_1 (cI cZ : ClassId) (a : Nat → Nat) (σ : St) (v : Int32) : (XW cI cZ a σ).set 4 (a 4, .inr (3, ([.int (σ 4 0), .int (σ 4 1), .ref (a 15), .ref (a 16), .ref (a 17), .ref (a 18), .ref (a 19), .ref (a 20), .ref (a 5), .ref (a 6)] : List Value).set 1 (.int v))) = XW cI cZ a (st σ 4 1 v) := rfl
theorem XWa_5 (cI cZ : ClassId) (a : Nat → Nat) (σ : St) : (XW cI cZ a σ)[5]? = some (a 5, .inr (1, [.int (σ 5 0), .ref (a 21), .ref (a 22), .ref (a 23), .ref (a 24)])) := rfl
theorem XWs_5_0 (cI cZ : ClassId) (a : Nat → Nat) (σ : St) (v : Int32) : (XW cI cZ a σ).set 5 (a 5, .inr (1, ([.int (σ 5 0), .ref (a 21), .ref (a 22), .ref (a 23), .ref (a 24)] : List Value).set 0 (.int v))) = XW cI cZ a (st σ 5 0 v) := rfl
theorem XWa_6 (cI cZ : ClassId) (a : Nat → Nat) (σ : St) : (XW cI cZ a σ)[6]? = some (a 6, .inr (2, [.ref (a 25), .ref (a 26)])) := rfl
theorem XWa_7 (cI cZ : ClassId) (a : Nat → Nat) (σ : St) : (XW cI cZ a σ)[7]? = some (a 7, .inl (cI, 2000, .inl (σ 7))) := rfl
theorem XWs_7 (cI cZ : ClassId) (a : Nat → Nat) (σ : St) (i : Nat) (v : Int32) : (XW cI cZ a σ).set 7 (a 7, .inl (cI, 2000, .inl (upd (σ 7) i v))) = XW cI cZ a (st σ 7 i v) := rfl
theorem XWa_8 (cI cZ : ClassId) (a : Nat → Nat) (σ : St) : (XW cI cZ a σ)[8]? = some (a 8, .inl (cI, 2000, .inl (σ 8))) := rfl
theorem XWs_8 (cI cZ : ClassId) (a : Nat → Nat) (σ : St) (i : Nat) (v : Int32) : (XW cI cZ a σ).set 8 (a 8, .inl (cI, 2000, .inl (upd (σ 8) i v))) = XW cI cZ a (st σ 8 i v) := rfl
theorem XWa_9 (cI cZ : ClassId) (a : Nat → Nat) (σ : St) : (XW cI cZ a σ)[9]? = some (a 9, .inl (cI, 32, .inl (σ 9))) := rfl
theorem XWs_9 (cI cZ : ClassId) (a : Nat → Nat) (σ : St) (i : Nat) (v : Int32) : (XW cI cZ a σ).set 9 (a 9, .inl (cI, 32, .inl (upd (σ 9) i v))) = XW cI cZ a (st σ 9 i v) := rfl
theorem XWa_10 (cI cZ : ClassId) (a : Nat → Nat) (σ : St) : (XW cI cZ a σ)[10]? = some (a 10, .inl (cI, 32, .inl (σ 10))) := rfl
theorem XWs_10 (cI cZ : ClassId) (a : Nat → Nat) (σ : St) (i : Nat) (v : Int32) : (XW cI cZ a σ).set 10 (a 10, .inl (cI, 32, .inl (upd (σ 10) i v))) = XW cI cZ a (st σ 10 i v) := rfl
theorem XWa_11 (cI cZ : ClassId) (a : Nat → Nat) (σ : St) : (XW cI cZ a σ)[11]? = some (a 11, .inl (cI, 480, .inl (σ 11))) := rfl
theorem XWs_11 (cI cZ : ClassId) (a : Nat → Nat) (σ : St) (i : Nat) (v : Int32) : (XW cI cZ a σ).set 11 (a 11, .inl (cI, 480, .inl (upd (σ 11) i v))) = XW cI cZ a (st σ 11 i v) := rfl
theorem XWa_12 (cI cZ : ClassId) (a : Nat → Nat) (σ : St) : (XW cI cZ a σ)[12]? = some (a 12, .inl (cI, 512, .inl (σ 12))) := rfl
theorem XWs_12 (cI cZ : ClassId) (a : Nat → Nat) (σ : St) (i : Nat) (v : Int32) : (XW cI cZ a σ).set 12 (a 12, .inl (cI, 512, .inl (upd (σ 12) i v))) = XW cI cZ a (st σ 12 i v) := rfl
theorem XWa_13 (cI cZ : ClassId) (a : Nat → Nat) (σ : St) : (XW cI cZ a σ)[13]? = some (a 13, .inl (cI, 512, .inl (σ 13))) := rfl
theorem XWs_13 (cI cZ : ClassId) (a : Nat → Nat) (σ : St) (i : Nat) (v : Int32) : (XW cI cZ a σ).set 13 (a 13, .inl (cI, 512, .inl (upd (σ 13) i v))) = XW cI cZ a (st σ 13 i v) := rfl
theorem XWa_14 (cI cZ : ClassId) (a : Nat → Nat) (σ : St) : (XW cI cZ a σ)[14]? = some (a 14, .inl (cI, 5, .inl (σ 14))) := rfl
theorem XWs_14 (cI cZ : ClassId) (a : Nat → Nat) (σ : St) (i : Nat) (v : Int32) : (XW cI cZ a σ).set 14 (a 14, .inl (cI, 5, .inl (upd (σ 14) i v))) = XW cI cZ a (st σ 14 i v) := rfl
theorem XWa_15 (cI cZ : ClassId) (a : Nat → Nat) (σ : St) : (XW cI cZ a σ)[15]? = some (a 15, .inl (cI, 64, .inl (σ 15))) := rfl
theorem XWs_15 (cI cZ : ClassId) (a : Nat → Nat) (σ : St) (i : Nat) (v : Int32) : (XW cI cZ a σ).set 15 (a 15, .inl (cI, 64, .inl (upd (σ 15) i v))) = XW cI cZ a (st σ 15 i v) := rfl
theorem XWa_16 (cI cZ : ClassId) (a : Nat → Nat) (σ : St) : (XW cI cZ a σ)[16]? = some (a 16, .inl (cI, 64, .inl (σ 16))) := rfl
theorem XWs_16 (cI cZ : ClassId) (a : Nat → Nat) (σ : St) (i : Nat) (v : Int32) : (XW cI cZ a σ).set 16 (a 16, .inl (cI, 64, .inl (upd (σ 16) i v))) = XW cI cZ a (st σ 16 i v) := rfl
theorem XWa_17 (cI cZ : ClassId) (a : Nat → Nat) (σ : St) : (XW cI cZ a σ)[17]? = some (a 17, .inl (cI, 512, .inl (σ 17))) := rfl
theorem XWs_17 (cI cZ : ClassId) (a : Nat → Nat) (σ : St) (i : Nat) (v : Int32) : (XW cI cZ a σ).set 17 (a 17, .inl (cI, 512, .inl (upd (σ 17) i v))) = XW cI cZ a (st σ 17 i v) := rfl
theorem XWa_18 (cI cZ : ClassId) (a : Nat → Nat) (σ : St) : (XW cI cZ a σ)[18]? = some (a 18, .inl (cI, 64, .inl (σ 18))) := rfl
theorem XWs_18 (cI cZ : ClassId) (a : Nat → Nat) (σ : St) (i : Nat) (v : Int32) : (XW cI cZ a σ).set 18 (a 18, .inl (cI, 64, .inl (upd (σ 18) i v))) = XW cI cZ a (st σ 18 i v) := rfl
theorem XWa_19 (cI cZ : ClassId) (a : Nat → Nat) (σ : St) : (XW cI cZ a σ)[19]? = some (a 19, .inl (cI, 64, .inl (σ 19))) := rfl
theorem XWs_19 (cI cZ : ClassId) (a : Nat → Nat) (σ : St) (i : Nat) (v : Int32) : (XW cI cZ a σ).set 19 (a 19, .inl (cI, 64, .inl (upd (σ 19) i v))) = XW cI cZ a (st σ 19 i v) := rfl
theorem XWa_20 (cI cZ : ClassId) (a : Nat → Nat) (σ : St) : (XW cI cZ a σ)[20]? = some (a 20, .inl (cI, 64, .inl (σ 20))) := rfl
theorem XWs_20 (cI cZ : ClassId) (a : Nat → Nat) (σ : St) (i : Nat) (v : Int32) : (XW cI cZ a σ).set 20 (a 20, .inl (cI, 64, .inl (upd (σ 20) i v))) = XW cI cZ a (st σ 20 i v) := rfl
theorem XWa_21 (cI cZ : ClassId) (a : Nat → Nat) (σ : St) : (XW cI cZ a σ)[21]? = some (a 21, .inl (cI, 64, .inl (σ 21))) := rfl
theorem XWs_21 (cI cZ : ClassId) (a : Nat → Nat) (σ : St) (i : Nat) (v : Int32) : (XW cI cZ a σ).set 21 (a 21, .inl (cI, 64, .inl (upd (σ 21) i v))) = XW cI cZ a (st σ 21 i v) := rfl
theorem XWa_22 (cI cZ : ClassId) (a : Nat → Nat) (σ : St) : (XW cI cZ a σ)[22]? = some (a 22, .inl (cI, 64, .inl (σ 22))) := rfl
theorem XWs_22 (cI cZ : ClassId) (a : Nat → Nat) (σ : St) (i : Nat) (v : Int32) : (XW cI cZ a σ).set 22 (a 22, .inl (cI, 64, .inl (upd (σ 22) i v))) = XW cI cZ a (st σ 22 i v) := rfl
theorem XWa_23 (cI cZ : ClassId) (a : Nat → Nat) (σ : St) : (XW cI cZ a σ)[23]? = some (a 23, .inl (cI, 64, .inl (σ 23))) := rfl
theorem XWs_23 (cI cZ : ClassId) (a : Nat → Nat) (σ : St) (i : Nat) (v : Int32) : (XW cI cZ a σ).set 23 (a 23, .inl (cI, 64, .inl (upd (σ 23) i v))) = XW cI cZ a (st σ 23 i v) := rfl
theorem XWa_24 (cI cZ : ClassId) (a : Nat → Nat) (σ : St) : (XW cI cZ a σ)[24]? = some (a 24, .inl (cI, 250, .inl (σ 24))) := rfl
theorem XWs_24 (cI cZ : ClassId) (a : Nat → Nat) (σ : St) (i : Nat) (v : Int32) : (XW cI cZ a σ).set 24 (a 24, .inl (cI, 250, .inl (upd (σ 24) i v))) = XW cI cZ a (st σ 24 i v) := rfl
theorem XWa_25 (cI cZ : ClassId) (a : Nat → Nat) (σ : St) : (XW cI cZ a σ)[25]? = some (a 25, .inl (cI, 64, .inl (σ 25))) := rfl
theorem XWs_25 (cI cZ : ClassId) (a : Nat → Nat) (σ : St) (i : Nat) (v : Int32) : (XW cI cZ a σ).set 25 (a 25, .inl (cI, 64, .inl (upd (σ 25) i v))) = XW cI cZ a (st σ 25 i v) := rfl
theorem XWa_26 (cI cZ : ClassId) (a : Nat → Nat) (σ : St) : (XW cI cZ a σ)[26]? = some (a 26, .inl (cI, 64, .inl (σ 26))) := rfl
theorem XWs_26 (cI cZ : ClassId) (a : Nat → Nat) (σ : St) (i : Nat) (v : Int32) : (XW cI cZ a σ).set 26 (a 26, .inl (cI, 64, .inl (upd (σ 26) i v))) = XW cI cZ a (st σ 26 i v) := rfl
def MW (cI cZ : ClassId) (a : Nat → Nat) (σ : St) : va_W := [(a 0, .inr (7, [.ref (a 1), .int (σ 0 1), .ref (a 2), .ref (a 3), .int (σ 0 4), .int (σ 0 5), .int (σ 0 6), .int (σ 0 7), .int (σ 0 8), .ref (a 4), .ref (a 5), .ref (a 6), .ref (a 7), .ref (a 8), .ref (a 9), .int (σ 0 15), .ref (a 10), .ref (a 11), .ref (a 12), .ref (a 13), .ref (a 14), .ref (a 15), .ref (a 16), .ref (a 17), .ref (a 18), .ref (a 19), .int (σ 0 26), .int (σ 0 27)])),
  (a 1, .inl (cI, 8000, .inl (σ 1))),
  (a 2, .inl (cI, 8000, .inl (σ 2))),
  (a 3, .inl (cZ, 8000, .inl (σ 3))),
  (a 4, .inl (cI, 32, .inl (σ 4))),
  (a 5, .inl (cI, 32, .inl (σ 5))),
  (a 6, .inl (cI, 480, .inl (σ 6))),
  (a 7, .inl (cI, 512, .inl (σ 7))),
  (a 8, .inl (cI, 512, .inl (σ 8))),
  (a 9, .inl (cI, 5, .inl (σ 9))),
  (a 10, .inl (cI, 64, .inl (σ 10))),
  (a 11, .inl (cI, 64, .inl (σ 11))),
  (a 12, .inl (cI, 512, .inl (σ 12))),
  (a 13, .inl (cI, 64, .inl (σ 13))),
  (a 14, .inl (cI, 64, .inl (σ 14))),
  (a 15, .inl (cI, 64, .inl (σ 15))),
  (a 16, .inl (cI, 64, .inl (σ 16))),
  (a 17, .inl (cI, 64, .inl (σ 17))),
  (a 18, .inl (cI, 64, .inl (σ 18))),
  (a 19, .inl (cI, 64, .inl (σ 19)))]
theorem MWa_0 (cI cZ : ClassId) (a : Nat → Nat) (σ : St) : (MW cI cZ a σ)[0]? = some (a 0, .inr (7, [.ref (a 1), .int (σ 0 1), .ref (a 2), .ref (a 3), .int (σ 0 4), .int (σ 0 5), .int (σ 0 6), .int (σ 0 7), .int (σ 0 8), .ref (a 4), .ref (a 5), .ref (a 6), .ref (a 7), .ref (a 8), .ref (a 9), .int (σ 0 15), .ref (a 10), .ref (a 11), .ref (a 12), .ref (a 13), .ref (a 14), .ref (a 15), .ref (a 16), .ref (a 17), .ref (a 18), .ref (a 19), .int (σ 0 26), .int (σ 0 27)])) := rfl
theorem MWs_0_1 (cI cZ : ClassId) (a : Nat → Nat) (σ : St) (v : Int32) : (MW cI cZ a σ).set 0 (a 0, .inr (7, ([.ref (a 1), .int (σ 0 1), .ref (a 2), .ref (a 3), .int (σ 0 4), .int (σ 0 5), .int (σ 0 6), .int (σ 0 7), .int (σ 0 8), .ref (a 4), .ref (a 5), .ref (a 6), .ref (a 7), .ref (a 8), .ref (a 9), .int (σ 0 15), .ref (a 10), .ref (a 11), .ref (a 12), .ref (a 13), .ref (a 14), .ref (a 15), .ref (a 16), .ref (a 17), .ref (a 18), .ref (a 19), .int (σ 0 26), .int (σ 0 27)] : List Value).set 1 (.int v))) = MW cI cZ a (st σ 0 1 v) := rfl
theorem MWs_0_4 (cI cZ : ClassId) (a : Nat → Nat) (σ : St) (v : Int32) : (MW cI cZ a σ).set 0 (a 0, .inr (7, ([.ref (a 1), .int (σ 0 1), .ref (a 2), .ref (a 3), .int (σ 0 4), .int (σ 0 5), .int (σ 0 6), .int (σ 0 7), .int (σ 0 8), .ref (a 4), .ref (a 5), .ref (a 6), .ref (a 7), .ref (a 8), .ref (a 9), .int (σ 0 15), .ref (a 10), .ref (a 11), .ref (a 12), .ref (a 13), .ref (a 14), .ref (a 15), .ref (a 16), .ref (a 17), .ref (a 18), .ref (a 19), .int (σ 0 26), .int (σ 0 27)] : List Value).set 4 (.int v))) = MW cI cZ a (st σ 0 4 v) := rfl
theorem MWs_0_5 (cI cZ : ClassId) (a : Nat → Nat) (σ : St) (v : Int32) : (MW cI cZ a σ).set 0 (a 0, .inr (7, ([.ref (a 1), .int (σ 0 1), .ref (a 2), .ref (a 3), .int (σ 0 4), .int (σ 0 5), .int (σ 0 6), .int (σ 0 7), .int (σ 0 8), .ref (a 4), .ref (a 5), .ref (a 6), .ref (a 7), .ref (a 8), .ref (a 9), .int (σ 0 15), .ref (a 10), .ref (a 11), .ref (a 12), .ref (a 13), .ref (a 14), .ref (a 15), .ref (a 16), .ref (a 17), .ref (a 18), .ref (a 19), .int (σ 0 26), .int (σ 0 27)] : List Value).set 5 (.int v))) = MW cI cZ a (st σ 0 5 v) := rfl
theorem MWs_0_6 (cI cZ : ClassId) (a : Nat → Nat) (σ : St) (v : Int32) : (MW cI cZ a σ).set 0 (a 0, .inr (7, ([.ref (a 1), .int (σ 0 1), .ref (a 2), .ref (a 3), .int (σ 0 4), .int (σ 0 5), .int (σ 0 6), .int (σ 0 7), .int (σ 0 8), .ref (a 4), .ref (a 5), .ref (a 6), .ref (a 7), .ref (a 8), .ref (a 9), .int (σ 0 15), .ref (a 10), .ref (a 11), .ref (a 12), .ref (a 13), .ref (a 14), .ref (a 15), .ref (a 16), .ref (a 17), .ref (a 18), .ref (a 19), .int (σ 0 26), .int (σ 0 27)] : List Value).set 6 (.int v))) = MW cI cZ a (st σ 0 6 v) := rfl
theorem MWs_0_7 (cI cZ : ClassId) (a : Nat → Nat) (σ : St) (v : Int32) : (MW cI cZ a σ).set 0 (a 0, .inr (7, ([.ref (a 1), .int (σ 0 1), .ref (a 2), .ref (a 3), .int (σ 0 4), .int (σ 0 5), .int (σ 0 6), .int (σ 0 7), .int (σ 0 8), .ref (a 4), .ref (a 5), .ref (a 6), .ref (a 7), .ref (a 8), .ref (a 9), .int (σ 0 15), .ref (a 10), .ref (a 11), .ref (a 12), .ref (a 13), .ref (a 14), .ref (a 15), .ref (a 16), .ref (a 17), .ref (a 18), .ref (a 19), .int (σ 0 26), .int (σ 0 27)] : List Value).set 7 (.int v))) = MW cI cZ a (st σ 0 7 v) := rfl
theorem MWs_0_8 (cI cZ : ClassId) (a : Nat → Nat) (σ : St) (v : Int32) : (MW cI cZ a σ).set 0 (a 0, .inr (7, ([.ref (a 1), .int (σ 0 1), .ref (a 2), .ref (a 3), .int (σ 0 4), .int (σ 0 5), .int (σ 0 6), .int (σ 0 7), .int (σ 0 8), .ref (a 4), .ref (a 5), .ref (a 6), .ref (a 7), .ref (a 8), .ref (a 9), .int (σ 0 15), .ref (a 10), .ref (a 11), .ref (a 12), .ref (a 13), .ref (a 14), .ref (a 15), .ref (a 16), .ref (a 17), .ref (a 18), .ref (a 19), .int (σ 0 26), .int (σ 0 27)] : List Value).set 8 (.int v))) = MW cI cZ a (st σ 0 8 v) := rfl
theorem MWs_0_15 (cI cZ : ClassId) (a : Nat → Nat) (σ : St) (v : Int32) : (MW cI cZ a σ).set 0 (a 0, .inr (7, ([.ref (a 1), .int (σ 0 1), .ref (a 2), .ref (a 3), .int (σ 0 4), .int (σ 0 5), .int (σ 0 6), .int (σ 0 7), .int (σ 0 8), .ref (a 4), .ref (a 5), .ref (a 6), .ref (a 7), .ref (a 8), .ref (a 9), .int (σ 0 15), .ref (a 10), .ref (a 11), .ref (a 12), .ref (a 13), .ref (a 14), .ref (a 15), .ref (a 16), .ref (a 17), .ref (a 18), .ref (a 19), .int (σ 0 26), .int (σ 0 27)] : List Value).set 15 (.int v))) = MW cI cZ a (st σ 0 15 v) := rfl
theorem MWs_0_26 (cI cZ : ClassId) (a : Nat → Nat) (σ : St) (v : Int32) : (MW cI cZ a σ).set 0 (a 0, .inr (7, ([.ref (a 1), .int (σ 0 1), .ref (a 2), .ref (a 3), .int (σ 0 4), .int (σ 0 5), .int (σ 0 6), .int (σ 0 7), .int (σ 0 8), .ref (a 4), .ref (a 5), .ref (a 6), .ref (a 7), .ref (a 8), .ref (a 9), .int (σ 0 15), .ref (a 10), .ref (a 11), .ref (a 12), .ref (a 13), .ref (a 14), .ref (a 15), .ref (a 16), .ref (a 17), .ref (a 18), .ref (a 19), .int (σ 0 26), .int (σ 0 27)] : List Value).set 26 (.int v))) = MW cI cZ a (st σ 0 26 v) := rfl
theorem MWs_0_27 (cI cZ : ClassId) (a : Nat → Nat) (σ : St) (v : Int32) : (MW cI cZ a σ).set 0 (a 0, .inr (7, ([.ref (a 1), .int (σ 0 1), .ref (a 2), .ref (a 3), .int (σ 0 4), .int (σ 0 5), .int (σ 0 6), .int (σ 0 7), .int (σ 0 8), .ref (a 4), .ref (a 5), .ref (a 6), .ref (a 7), .ref (a 8), .ref (a 9), .int (σ 0 15), .ref (a 10), .ref (a 11), .ref (a 12), .ref (a 13), .ref (a 14), .ref (a 15), .ref (a 16), .ref (a 17), .ref (a 18), .ref (a 19), .int (σ 0 26), .int (σ 0 27)] : List Value).set 27 (.int v))) = MW cI cZ a (st σ 0 27 v) := rfl
theorem MWa_1 (cI cZ : ClassId) (a : Nat → Nat) (σ : St) : (MW cI cZ a σ)[1]? = some (a 1, .inl (cI, 8000, .inl (σ 1))) := rfl
theorem MWs_1 (cI cZ : ClassId) (a : Nat → Nat) (σ : St) (i : Nat) (v : Int32) : (MW cI cZ a σ).set 1 (a 1, .inl (cI, 8000, .inl (upd (σ 1) i v))) = MW cI cZ a (st σ 1 i v) := rfl
theorem MWa_2 (cI cZ : ClassId) (a : Nat → Nat) (σ : St) : (MW cI cZ a σ)[2]? = some (a 2, .inl (cI, 8000, .inl (σ 2))) := rfl
theorem MWs_2 (cI cZ : ClassId) (a : Nat → Nat) (σ : St) (i : Nat) (v : Int32) : (MW cI cZ a σ).set 2 (a 2, .inl (cI, 8000, .inl (upd (σ 2) i v))) = MW cI cZ a (st σ 2 i v) := rfl
theorem MWa_3 (cI cZ : ClassId) (a : Nat → Nat) (σ : St) : (MW cI cZ a σ)[3]? = some (a 3, .inl (cZ, 8000, .inl (σ 3))) := rfl
theorem MWs_3 (cI cZ : ClassId) (a : Nat → Nat) (σ : St) (i : Nat) (v : Int32) : (MW cI cZ a σ).set 3 (a 3, .inl (cZ, 8000, .inl (upd (σ 3) i v))) = MW cI cZ a (st σ 3 i v) := rfl
theorem MWa_4 (cI cZ : ClassId) (a : Nat → Nat) (σ : St) : (MW cI cZ a σ)[4]? = some (a 4, .inl (cI, 32, .inl (σ 4))) := rfl
theorem MWs_4 (cI cZ : ClassId) (a : Nat → Nat) (σ : St) (i : Nat) (v : Int32) : (MW cI cZ a σ).set 4 (a 4, .inl (cI, 32, .inl (upd (σ 4) i v))) = MW cI cZ a (st σ 4 i v) := rfl
theorem MWa_5 (cI cZ : ClassId) (a : Nat → Nat) (σ : St) : (MW cI cZ a σ)[5]? = some (a 5, .inl (cI, 32, .inl (σ 5))) := rfl
theorem MWs_5 (cI cZ : ClassId) (a : Nat → Nat) (σ : St) (i : Nat) (v : Int32) : (MW cI cZ a σ).set 5 (a 5, .inl (cI, 32, .inl (upd (σ 5) i v))) = MW cI cZ a (st σ 5 i v) := rfl
theorem MWa_6 (cI cZ : ClassId) (a : Nat → Nat) (σ : St) : (MW cI cZ a σ)[6]? = some (a 6, .inl (cI, 480, .inl (σ 6))) := rfl
theorem MWs_6 (cI cZ : ClassId) (a : Nat → Nat) (σ : St) (i : Nat) (v : Int32) : (MW cI cZ a σ).set 6 (a 6, .inl (cI, 480, .inl (upd (σ 6) i v))) = MW cI cZ a (st σ 6 i v) := rfl
theorem MWa_7 (cI cZ : ClassId) (a : Nat → Nat) (σ : St) : (MW cI cZ a σ)[7]? = some (a 7, .inl (cI, 512, .inl (σ 7))) := rfl
theorem MWs_7 (cI cZ : ClassId) (a : Nat → Nat) (σ : St) (i : Nat) (v : Int32) : (MW cI cZ a σ).set 7 (a 7, .inl (cI, 512, .inl (upd (σ 7) i v))) = MW cI cZ a (st σ 7 i v) := rfl
theorem MWa_8 (cI cZ : ClassId) (a : Nat → Nat) (σ : St) : (MW cI cZ a σ)[8]? = some (a 8, .inl (cI, 512, .inl (σ 8))) := rfl
theorem MWs_8 (cI cZ : ClassId) (a : Nat → Nat) (σ : St) (i : Nat) (v : Int32) : (MW cI cZ a σ).set 8 (a 8, .inl (cI, 512, .inl (upd (σ 8) i v))) = MW cI cZ a (st σ 8 i v) := rfl
theorem MWa_9 (cI cZ : ClassId) (a : Nat → Nat) (σ : St) : (MW cI cZ a σ)[9]? = some (a 9, .inl (cI, 5, .inl (σ 9))) := rfl
theorem MWs_9 (cI cZ : ClassId) (a : Nat → Nat) (σ : St) (i : Nat) (v : Int32) : (MW cI cZ a σ).set 9 (a 9, .inl (cI, 5, .inl (upd (σ 9) i v))) = MW cI cZ a (st σ 9 i v) := rfl
theorem MWa_10 (cI cZ : ClassId) (a : Nat → Nat) (σ : St) : (MW cI cZ a σ)[10]? = some (a 10, .inl (cI, 64, .inl (σ 10))) := rfl
theorem MWs_10 (cI cZ : ClassId) (a : Nat → Nat) (σ : St) (i : Nat) (v : Int32) : (MW cI cZ a σ).set 10 (a 10, .inl (cI, 64, .inl (upd (σ 10) i v))) = MW cI cZ a (st σ 10 i v) := rfl
theorem MWa_11 (cI cZ : ClassId) (a : Nat → Nat) (σ : St) : (MW cI cZ a σ)[11]? = some (a 11, .inl (cI, 64, .inl (σ 11))) := rfl
theorem MWs_11 (cI cZ : ClassId) (a : Nat → Nat) (σ : St) (i : Nat) (v : Int32) : (MW cI cZ a σ).set 11 (a 11, .inl (cI, 64, .inl (upd (σ 11) i v))) = MW cI cZ a (st σ 11 i v) := rfl
theorem MWa_12 (cI cZ : ClassId) (a : Nat → Nat) (σ : St) : (MW cI cZ a σ)[12]? = some (a 12, .inl (cI, 512, .inl (σ 12))) := rfl
theorem MWs_12 (cI cZ : ClassId) (a : Nat → Nat) (σ : St) (i : Nat) (v : Int32) : (MW cI cZ a σ).set 12 (a 12, .inl (cI, 512, .inl (upd (σ 12) i v))) = MW cI cZ a (st σ 12 i v) := rfl
theorem MWa_13 (cI cZ : ClassId) (a : Nat → Nat) (σ : St) : (MW cI cZ a σ)[13]? = some (a 13, .inl (cI, 64, .inl (σ 13))) := rfl
theorem MWs_13 (cI cZ : ClassId) (a : Nat → Nat) (σ : St) (i : Nat) (v : Int32) : (MW cI cZ a σ).set 13 (a 13, .inl (cI, 64, .inl (upd (σ 13) i v))) = MW cI cZ a (st σ 13 i v) := rfl
theorem MWa_14 (cI cZ : ClassId) (a : Nat → Nat) (σ : St) : (MW cI cZ a σ)[14]? = some (a 14, .inl (cI, 64, .inl (σ 14))) := rfl
theorem MWs_14 (cI cZ : ClassId) (a : Nat → Nat) (σ : St) (i : Nat) (v : Int32) : (MW cI cZ a σ).set 14 (a 14, .inl (cI, 64, .inl (upd (σ 14) i v))) = MW cI cZ a (st σ 14 i v) := rfl
theorem MWa_15 (cI cZ : ClassId) (a : Nat → Nat) (σ : St) : (MW cI cZ a σ)[15]? = some (a 15, .inl (cI, 64, .inl (σ 15))) := rfl
theorem MWs_15 (cI cZ : ClassId) (a : Nat → Nat) (σ : St) (i : Nat) (v : Int32) : (MW cI cZ a σ).set 15 (a 15, .inl (cI, 64, .inl (upd (σ 15) i v))) = MW cI cZ a (st σ 15 i v) := rfl
theorem MWa_16 (cI cZ : ClassId) (a : Nat → Nat) (σ : St) : (MW cI cZ a σ)[16]? = some (a 16, .inl (cI, 64, .inl (σ 16))) := rfl
theorem MWs_16 (cI cZ : ClassId) (a : Nat → Nat) (σ : St) (i : Nat) (v : Int32) : (MW cI cZ a σ).set 16 (a 16, .inl (cI, 64, .inl (upd (σ 16) i v))) = MW cI cZ a (st σ 16 i v) := rfl
theorem MWa_17 (cI cZ : ClassId) (a : Nat → Nat) (σ : St) : (MW cI cZ a σ)[17]? = some (a 17, .inl (cI, 64, .inl (σ 17))) := rfl
theorem MWs_17 (cI cZ : ClassId) (a : Nat → Nat) (σ : St) (i : Nat) (v : Int32) : (MW cI cZ a σ).set 17 (a 17, .inl (cI, 64, .inl (upd (σ 17) i v))) = MW cI cZ a (st σ 17 i v) := rfl
theorem MWa_18 (cI cZ : ClassId) (a : Nat → Nat) (σ : St) : (MW cI cZ a σ)[18]? = some (a 18, .inl (cI, 64, .inl (σ 18))) := rfl
theorem MWs_18 (cI cZ : ClassId) (a : Nat → Nat) (σ : St) (i : Nat) (v : Int32) : (MW cI cZ a σ).set 18 (a 18, .inl (cI, 64, .inl (upd (σ 18) i v))) = MW cI cZ a (st σ 18 i v) := rfl
theorem MWa_19 (cI cZ : ClassId) (a : Nat → Nat) (σ : St) : (MW cI cZ a σ)[19]? = some (a 19, .inl (cI, 64, .inl (σ 19))) := rfl
theorem MWs_19 (cI cZ : ClassId) (a : Nat → Nat) (σ : St) (i : Nat) (v : Int32) : (MW cI cZ a σ).set 19 (a 19, .inl (cI, 64, .inl (upd (σ 19) i v))) = MW cI cZ a (st σ 19 i v) := rfl
def XV (cI cZ : ClassId) (a : Nat → Nat) (tw sw : Nat) (σ : St) : va_W := [(a 0, .inr (6, [.ref (a 1), .ref (a 2), .ref (a 3), .ref (a 4)])),
  (a 1, .inr (5, [.ref tw, .int (σ 1 1)])),
  (a 2, .inr (4, [.ref sw, .int (σ 2 1), .int (σ 2 2), .int (σ 2 3)])),
  (a 3, .inr (0, [.int (σ 3 0), .ref (a 9), .ref (a 10), .ref (a 11), .ref (a 12), .ref (a 13), .ref (a 14)])),
  (a 4, .inr (3, [.int (σ 4 0), .int (σ 4 1), .ref (a 15), .ref (a 16), .ref (a 17), .ref (a 18), .ref (a 19), .ref (a 20), .ref (a 5), .ref (a 6)])),
  (a 5, .inr (1, [.int (σ 5 0), .ref (a 21), .ref (a 22), .ref (a 23), .ref (a 24)])),
  (a 6, .inr (2, [.ref (a 25), .ref (a 26)])),
  (a 7, .inl (cI, 2000, .inl (σ 7))),
  (a 8, .inl (cI, 2000, .inl (σ 8))),
  (a 9, .inl (cI, 32, .inl (σ 9))),
  (a 10, .inl (cI, 32, .inl (σ 10))),
  (a 11, .inl (cI, 480, .inl (σ 11))),
  (a 12, .inl (cI, 512, .inl (σ 12))),
  (a 13, .inl (cI, 512, .inl (σ 13))),
  (a 14, .inl (cI, 5, .inl (σ 14))),
  (a 15, .inl (cI, 64, .inl (σ 15))),
  (a 16, .inl (cI, 64, .inl (σ 16))),
  (a 17, .inl (cI, 512, .inl (σ 17))),
  (a 18, .inl (cI, 64, .inl (σ 18))),
  (a 19, .inl (cI, 64, .inl (σ 19))),
  (a 20, .inl (cI, 64, .inl (σ 20))),
  (a 21, .inl (cI, 64, .inl (σ 21))),
  (a 22, .inl (cI, 64, .inl (σ 22))),
  (a 23, .inl (cI, 64, .inl (σ 23))),
  (a 24, .inl (cI, 250, .inl (σ 24))),
  (a 25, .inl (cI, 64, .inl (σ 25))),
  (a 26, .inl (cI, 64, .inl (σ 26)))]

theorem XV_eq (cI cZ : ClassId) (a : Nat → Nat) (σ : St) : XV cI cZ a (a 7) (a 8) σ = XW cI cZ a σ := rfl
/-- the two rows of words change places -/
def swp (a : Nat → Nat) : Nat → Nat := fun k => if k = 7 then a 8 else if k = 8 then a 7 else a k
def asw (r : Int32) (a : Nat → Nat) : Nat → Nat := if r = 0 then a else swp a
def ssw (σ : St) : St := fun k => if k = 7 then σ 8 else if k = 8 then σ 7 else σ k
theorem asw_ne {r : Int32} {a : Nat → Nat} {k : Nat} (h7 : k ≠ 7) (h8 : k ≠ 8) : asw r a k = a k := by
  unfold asw
  split
  · rfl
  · unfold swp; rw [if_neg h7, if_neg h8]
theorem asw_0 (a : Nat → Nat) : asw 0 a = a := if_pos rfl
theorem asw_1 (a : Nat → Nat) : asw 1 a = swp a := if_neg (by decide)
