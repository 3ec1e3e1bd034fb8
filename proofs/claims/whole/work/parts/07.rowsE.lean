theorem goodIn_co {big a : List Cond} {c : Cond} (hc : c ∈ big) (hg : (c.onTables && c.keeps) = true ∨ ∃ ty, c = .arrayClass ty) (ha : GoodIn big a) : GoodIn big (c :: a) := fun w h => (List.mem_cons.mp h).elim (fun e => by rw [e]; exact ⟨hc, hg⟩) (ha w)
set_option maxRecDepth 20000 in
theorem ggX8_readAll_X8_over : GoodIn wsX8_readAll wsX8_over := goodIn_r _ [13, 6, 14, 15, 16, 12, 17, 8, 18, 19, 20, 21, 22, 23, 70, 71, 72, 73, 74, 75, 76, 77, 78, 79, 80, 81, 82, 83, 84, 85, 86, 87, 88, 89, 90, 91, 92, 93, 94, 95, 96, 97] (by decide +kernel) (by decide +kernel)
set_option maxRecDepth 20000 in
theorem gX8_readAll_X8_over : GoodIn wsX8_readAll (wsV RX8 92 RX8 yX8_over wsX8_over) := goodIn_app (goodIn_of _ (by decide +kernel)) ggX8_readAll_X8_over
set_option maxRecDepth 20000 in
theorem ggX8_readAll_X8_last : GoodIn wsX8_readAll wsX8_last := goodIn_r _ [27, 18, 6, 70, 71, 72, 73, 74, 75, 76, 77, 78, 79, 80, 81, 82, 83, 84, 85, 86, 87, 88, 89, 90, 91, 92, 93, 94, 95, 96, 97] (by decide +kernel) (by decide +kernel)
set_option maxRecDepth 20000 in
theorem gX8_readAll_X8_last : GoodIn wsX8_readAll (wsV RX8 96 RX8 yX8_last wsX8_last) := goodIn_app (goodIn_of _ (by decide +kernel)) ggX8_readAll_X8_last
set_option maxRecDepth 20000 in
theorem ggX8_readAll_X8_readClass : GoodIn wsX8_readAll wsX8_readClass := goodIn_r _ [31, 6, 32, 33, 34, 35, 36, 14, 15, 16, 12, 17, 8, 18, 19, 20, 21, 22, 23, 9, 10, 11, 13, 24, 25, 26, 27, 37, 38, 39, 40, 1, 70, 71, 72, 73, 74, 75, 76, 77, 78, 79, 80, 81, 82, 83, 84, 85, 86, 87, 88, 89, 90, 91, 92, 93, 94, 95, 96, 97] (by decide +kernel) (by decide +kernel)
set_option maxRecDepth 20000 in
theorem gX8_readAll_X8_readClass : GoodIn wsX8_readAll (wsV RX8 120 RX8 yX8_readClass wsX8_readClass) := goodIn_app (goodIn_of _ (by decide +kernel)) ggX8_readAll_X8_readClass
set_option maxRecDepth 20000 in
theorem ggX8_readAll_X8_overClass : GoodIn wsX8_readAll wsX8_overClass := goodIn_r _ [44, 1, 9, 10, 11, 12, 13, 6, 14, 15, 16, 17, 8, 18, 19, 20, 21, 22, 23, 70, 71, 72, 73, 74, 75, 76, 77, 78, 79, 80, 81, 82, 83, 84, 85, 86, 87, 88, 89, 90, 91, 92, 93, 94, 95, 96, 97] (by decide +kernel) (by decide +kernel)
set_option maxRecDepth 20000 in
theorem gX8_readAll_X8_overClass : GoodIn wsX8_readAll (wsV RX8 110 RX8 yX8_overClass wsX8_overClass) := goodIn_app (goodIn_of _ (by decide +kernel)) ggX8_readAll_X8_overClass
set_option maxRecDepth 20000 in
theorem ggX8_readAll_X8_readMethod_1_s0 : GoodIn wsX8_readAll [Cond.fieldLink RX8 89 "CodeImagesModel" "classes" "I", Cond.fieldLink RX8 75 "CodeImagesModel" "place" "I", Cond.fieldLink RX8 38 "CodeImagesModel" "owners" "[I", Cond.fieldLink RX8 44 "CodeImagesModel" "parameterTypes" "[I", Cond.fieldLink RX8 41 "CodeImagesModel" "parameterCounts" "[I", Cond.fieldLink RX8 47 "CodeImagesModel" "gives" "[I", Cond.fieldLink RX8 50 "CodeImagesModel" "locals" "[I", Cond.fieldLink RX8 53 "CodeImagesModel" "stacks" "[I", Cond.fieldLink RX8 59 "CodeImagesModel" "codeSizes" "[I", Cond.fieldLink RX8 56 "CodeImagesModel" "codeAt" "[I", Cond.fieldLink RX8 62 "CodeImagesModel" "handlerCounts" "[I", Cond.fieldLink RX8 65 "CodeImagesModel" "handlerAt" "[I", Cond.methodLink RX8 81 yX8_here, Cond.instanceMethod yX8_here, Cond.selects RX8 yX8_here yX8_here, Cond.initialized RX8] := goodIn_r _ [1, 6, 4, 49, 5, 50, 51, 52, 53, 54, 55, 56, 14, 15, 16, 12] (by decide +kernel) (by decide +kernel)
set_option maxRecDepth 20000 in
theorem ggX8_readAll_X8_readMethod_1_s1 : GoodIn wsX8_readAll [Cond.code yX8_here cX8_here 1 (some .int)] := goodIn_co (List.mem_of_getElem? (i := 17) rfl) (Or.inl rfl) (fun _ h => absurd h List.not_mem_nil)
set_option maxRecDepth 20000 in
theorem ggX8_readAll_X8_readMethod_1_s2 : GoodIn wsX8_readAll [Cond.fieldLink RX8 78 "CodeImagesModel" "size" "I", Cond.fieldLink RX8 13 "CodeImagesModel" "image" "[I", Cond.methodLink RX8 85 yX8_bad, Cond.instanceMethod yX8_bad, Cond.selects RX8 yX8_bad yX8_bad] := goodIn_r _ [8, 18, 19, 20, 21] (by decide +kernel) (by decide +kernel)
set_option maxRecDepth 20000 in
theorem ggX8_readAll_X8_readMethod_1_s3 : GoodIn wsX8_readAll [Cond.code yX8_bad cX8_bad 2 (some .boolean)] := goodIn_co (List.mem_of_getElem? (i := 22) rfl) (Or.inl rfl) (fun _ h => absurd h List.not_mem_nil)
set_option maxRecDepth 20000 in
theorem ggX8_readAll_X8_readMethod_1_s4 : GoodIn wsX8_readAll [Cond.fieldLink RX8 72 "CodeImagesModel" "wrong" "I"] := goodIn_r _ [23] (by decide +kernel) (by decide +kernel)
set_option maxRecDepth 20000 in
theorem ggX8_readAll_X8_readMethod_1 : GoodIn wsX8_readAll wsX8_readMethod_r1 := goodIn_app ggX8_readAll_X8_readMethod_1_s0 (goodIn_app ggX8_readAll_X8_readMethod_1_s1 (goodIn_app ggX8_readAll_X8_readMethod_1_s2 (goodIn_app ggX8_readAll_X8_readMethod_1_s3 ggX8_readAll_X8_readMethod_1_s4)))
set_option maxRecDepth 20000 in
theorem ggX8_readAll_X8_readMethod_2_s0 : GoodIn wsX8_readAll [Cond.methodLink RX8 92 yX8_over, Cond.instanceMethod yX8_over, Cond.selects RX8 yX8_over yX8_over] := goodIn_r _ [9, 10, 11] (by decide +kernel) (by decide +kernel)
set_option maxRecDepth 20000 in
theorem ggX8_readAll_X8_readMethod_2_s1 : GoodIn wsX8_readAll [Cond.code yX8_over cX8_over 3 (some .boolean)] := goodIn_co (List.mem_of_getElem? (i := 13) rfl) (Or.inl rfl) (fun _ h => absurd h List.not_mem_nil)
set_option maxRecDepth 20000 in
theorem ggX8_readAll_X8_readMethod_2_s2 : GoodIn wsX8_readAll [Cond.methodLink RX8 96 yX8_last, Cond.instanceMethod yX8_last, Cond.selects RX8 yX8_last yX8_last] := goodIn_r _ [24, 25, 26] (by decide +kernel) (by decide +kernel)
set_option maxRecDepth 20000 in
theorem ggX8_readAll_X8_readMethod_2_s3 : GoodIn wsX8_readAll [Cond.code yX8_last cX8_last 1 (some .int)] := goodIn_co (List.mem_of_getElem? (i := 27) rfl) (Or.inl rfl) (fun _ h => absurd h List.not_mem_nil)
set_option maxRecDepth 20000 in
theorem ggX8_readAll_X8_readMethod_2_s4 : GoodIn wsX8_readAll [Cond.methodLink RX8 99 yX8_overType, Cond.instanceMethod yX8_overType, Cond.selects RX8 yX8_overType yX8_overType] := goodIn_r _ [37, 38, 39] (by decide +kernel) (by decide +kernel)
set_option maxRecDepth 20000 in
theorem ggX8_readAll_X8_readMethod_2_s5 : GoodIn wsX8_readAll [Cond.code yX8_overType cX8_overType 4 (some .boolean)] := goodIn_co (List.mem_of_getElem? (i := 40) rfl) (Or.inl rfl) (fun _ h => absurd h List.not_mem_nil)
set_option maxRecDepth 20000 in
theorem ggX8_readAll_X8_readMethod_2_s6 : GoodIn wsX8_readAll [Cond.methodLink RX8 103 yX8_two, Cond.instanceMethod yX8_two, Cond.selects RX8 yX8_two yX8_two] := goodIn_r _ [57, 58, 59] (by decide +kernel) (by decide +kernel)
set_option maxRecDepth 20000 in
theorem ggX8_readAll_X8_readMethod_2_s7 : GoodIn wsX8_readAll [Cond.code yX8_two cX8_two 2 (some .int)] := goodIn_co (List.mem_of_getElem? (i := 60) rfl) (Or.inl rfl) (fun _ h => absurd h List.not_mem_nil)
set_option maxRecDepth 20000 in
theorem ggX8_readAll_X8_readMethod_2_s8 : GoodIn wsX8_readAll [Cond.methodLink RX8 107 yX8_readInstruction, Cond.instanceMethod yX8_readInstruction, Cond.selects RX8 yX8_readInstruction yX8_readInstruction] := goodIn_r _ [61, 62, 63] (by decide +kernel) (by decide +kernel)
set_option maxRecDepth 20000 in
theorem ggX8_readAll_X8_readMethod_2_s9 : GoodIn wsX8_readAll [Cond.code yX8_readInstruction cX8_readInstruction 8 (some .boolean)] := goodIn_co (List.mem_of_getElem? (i := 64) rfl) (Or.inl rfl) (fun _ h => absurd h List.not_mem_nil)
set_option maxRecDepth 20000 in
theorem ggX8_readAll_X8_readMethod_2_s10 : GoodIn wsX8_readAll [Cond.fieldLink RX8 23 "CodeImagesModel" "fieldCounts" "[I", Cond.fieldLink RX8 29 "CodeImagesModel" "slots" "[I", Cond.fieldLink RX8 16 "CodeImagesModel" "begins" "[Z", Cond.fieldLink RX8 117 "CodeImagesModel" "instructions" "I"] := goodIn_r _ [33, 35, 65, 66] (by decide +kernel) (by decide +kernel)
set_option maxRecDepth 20000 in
theorem ggX8_readAll_X8_readMethod_2 : GoodIn wsX8_readAll wsX8_readMethod_r2 := goodIn_app ggX8_readAll_X8_readMethod_2_s0 (goodIn_app ggX8_readAll_X8_readMethod_2_s1 (goodIn_app ggX8_readAll_X8_readMethod_2_s2 (goodIn_app ggX8_readAll_X8_readMethod_2_s3 (goodIn_app ggX8_readAll_X8_readMethod_2_s4 (goodIn_app ggX8_readAll_X8_readMethod_2_s5 (goodIn_app ggX8_readAll_X8_readMethod_2_s6 (goodIn_app ggX8_readAll_X8_readMethod_2_s7 (goodIn_app ggX8_readAll_X8_readMethod_2_s8 (goodIn_app ggX8_readAll_X8_readMethod_2_s9 ggX8_readAll_X8_readMethod_2_s10)))))))))
set_option maxRecDepth 20000 in
theorem ggX8_readAll_X8_readMethod_3_s0 : GoodIn wsX8_readAll [Cond.methodLink RX8 114 yX8_wide, Cond.static yX8_wide] := goodIn_r _ [67, 68] (by decide +kernel) (by decide +kernel)
set_option maxRecDepth 20000 in
theorem ggX8_readAll_X8_readMethod_3_s1 : GoodIn wsX8_readAll [Cond.code yX8_wide cX8_wide 1 (some .int)] := goodIn_co (List.mem_of_getElem? (i := 69) rfl) (Or.inl rfl) (fun _ h => absurd h List.not_mem_nil)
set_option maxRecDepth 20000 in
theorem ggX8_readAll_X8_readMethod_3_s2 : GoodIn wsX8_readAll [Cond.methodLink RX8 110 yX8_overClass, Cond.instanceMethod yX8_overClass, Cond.selects RX8 yX8_overClass yX8_overClass] := goodIn_r _ [41, 42, 43] (by decide +kernel) (by decide +kernel)
set_option maxRecDepth 20000 in
theorem ggX8_readAll_X8_readMethod_3_s3 : GoodIn wsX8_readAll [Cond.code yX8_overClass cX8_overClass 1 (some .boolean)] := goodIn_co (List.mem_of_getElem? (i := 44) rfl) (Or.inl rfl) (fun _ h => absurd h List.not_mem_nil)
set_option maxRecDepth 20000 in
theorem ggX8_readAll_X8_readMethod_3 : GoodIn wsX8_readAll wsX8_readMethod_r3 := goodIn_app ggX8_readAll_X8_readMethod_3_s0 (goodIn_app ggX8_readAll_X8_readMethod_3_s1 (goodIn_app ggX8_readAll_X8_readMethod_3_s2 ggX8_readAll_X8_readMethod_3_s3))
set_option maxRecDepth 20000 in
theorem ggX8_readAll_X8_readMethod_0 : GoodIn wsX8_readAll wsX80 := goodIn_r _ [70, 71, 72, 73, 74, 75, 76, 77, 78, 79, 80, 81, 82, 83, 84, 85, 86, 87, 88, 89, 90, 91, 92, 93, 94, 95, 96, 97] (by decide +kernel) (by decide +kernel)
set_option maxRecDepth 20000 in
theorem ggX8_readAll_X8_readMethod : GoodIn wsX8_readAll wsX8_readMethod := goodIn_co (List.mem_of_getElem? (i := 48) rfl) (Or.inl rfl) (goodIn_app (goodIn_app ggX8_readAll_X8_readMethod_1 (goodIn_app ggX8_readAll_X8_readMethod_2 ggX8_readAll_X8_readMethod_3)) ggX8_readAll_X8_readMethod_0)
set_option maxRecDepth 20000 in
theorem gX8_readAll_X8_readMethod : GoodIn wsX8_readAll (wsV RX8 126 RX8 yX8_readMethod wsX8_readMethod) := goodIn_app (goodIn_of _ (by decide +kernel)) ggX8_readAll_X8_readMethod
set_option maxRecDepth 20000 in
theorem ggX8_readAll_X8_here : GoodIn wsX8_readAll wsX8_here := goodIn_r _ [17, 6, 8, 18, 70, 71, 72, 73, 74, 75, 76, 77, 78, 79, 80, 81, 82, 83, 84, 85, 86, 87, 88, 89, 90, 91, 92, 93, 94, 95, 96, 97] (by decide +kernel) (by decide +kernel)
set_option maxRecDepth 20000 in
theorem gX8_readAll_X8_here : GoodIn wsX8_readAll (wsV RX8 81 RX8 yX8_here wsX8_here) := goodIn_app (goodIn_of _ (by decide +kernel)) ggX8_readAll_X8_here
set_option maxRecDepth 20000 in
theorem ggX8_readAll_X8_bad : GoodIn wsX8_readAll wsX8_bad := goodIn_r _ [22, 23, 70, 71, 72, 73, 74, 75, 76, 77, 78, 79, 80, 81, 82, 83, 84, 85, 86, 87, 88, 89, 90, 91, 92, 93, 94, 95, 96, 97] (by decide +kernel) (by decide +kernel)
set_option maxRecDepth 20000 in
theorem gX8_readAll_X8_bad : GoodIn wsX8_readAll (wsV RX8 85 RX8 yX8_bad wsX8_bad) := goodIn_app (goodIn_of _ (by decide +kernel)) ggX8_readAll_X8_bad
theorem dX8_readAll_0 : decode cX8_readAll 0 = .ok (.aload_n 0, 1) := by decide +kernel
theorem dX8_readAll_1 : decode cX8_readAll 1 = .ok (.iconst 1, 1) := by decide +kernel
theorem dX8_readAll_2 : decode cX8_readAll 2 = .ok (.bipush 32, 2) := by decide +kernel
theorem dX8_readAll_4 : decode cX8_readAll 4 = .ok (.invokevirtual 92, 3) := by decide +kernel
theorem dX8_readAll_7 : decode cX8_readAll 7 = .ok (.ifCond .ne 5, 3) := by decide +kernel
theorem dX8_readAll_10 : decode cX8_readAll 10 = .ok (.iconst 0, 1) := by decide +kernel
theorem dX8_readAll_11 : decode cX8_readAll 11 = .ok (.ireturn, 1) := by decide +kernel
theorem dX8_readAll_12 : decode cX8_readAll 12 = .ok (.aload_n 0, 1) := by decide +kernel
theorem dX8_readAll_13 : decode cX8_readAll 13 = .ok (.aload_n 0, 1) := by decide +kernel
theorem dX8_readAll_14 : decode cX8_readAll 14 = .ok (.invokevirtual 96, 3) := by decide +kernel
theorem dX8_readAll_17 : decode cX8_readAll 17 = .ok (.putfield 89, 3) := by decide +kernel
theorem dX8_readAll_20 : decode cX8_readAll 20 = .ok (.iconst 0, 1) := by decide +kernel
theorem dX8_readAll_21 : decode cX8_readAll 21 = .ok (.istore_n 1, 1) := by decide +kernel
theorem dX8_readAll_22 : decode cX8_readAll 22 = .ok (.iload_n 1, 1) := by decide +kernel
theorem dX8_readAll_23 : decode cX8_readAll 23 = .ok (.aload_n 0, 1) := by decide +kernel
theorem dX8_readAll_24 : decode cX8_readAll 24 = .ok (.getfield 89, 3) := by decide +kernel
theorem dX8_readAll_27 : decode cX8_readAll 27 = .ok (.if_icmp .ge 19, 3) := by decide +kernel
theorem dX8_readAll_30 : decode cX8_readAll 30 = .ok (.aload_n 0, 1) := by decide +kernel
theorem dX8_readAll_31 : decode cX8_readAll 31 = .ok (.iload_n 1, 1) := by decide +kernel
theorem dX8_readAll_32 : decode cX8_readAll 32 = .ok (.invokevirtual 120, 3) := by decide +kernel
theorem dX8_readAll_35 : decode cX8_readAll 35 = .ok (.ifCond .ne 5, 3) := by decide +kernel
theorem dX8_readAll_38 : decode cX8_readAll 38 = .ok (.iconst 0, 1) := by decide +kernel
theorem dX8_readAll_39 : decode cX8_readAll 39 = .ok (.ireturn, 1) := by decide +kernel
theorem dX8_readAll_40 : decode cX8_readAll 40 = .ok (.iinc 1 1, 3) := by decide +kernel
theorem dX8_readAll_43 : decode cX8_readAll 43 = .ok (.goto (-21), 3) := by decide +kernel
theorem dX8_readAll_46 : decode cX8_readAll 46 = .ok (.iconst 0, 1) := by decide +kernel
theorem dX8_readAll_47 : decode cX8_readAll 47 = .ok (.istore_n 1, 1) := by decide +kernel
theorem dX8_readAll_48 : decode cX8_readAll 48 = .ok (.iload_n 1, 1) := by decide +kernel
theorem dX8_readAll_49 : decode cX8_readAll 49 = .ok (.iconst 5, 1) := by decide +kernel
theorem dX8_readAll_50 : decode cX8_readAll 50 = .ok (.if_icmp .ge 28, 3) := by decide +kernel
theorem dX8_readAll_53 : decode cX8_readAll 53 = .ok (.aload_n 0, 1) := by decide +kernel
theorem dX8_readAll_54 : decode cX8_readAll 54 = .ok (.invokevirtual 110, 3) := by decide +kernel
theorem dX8_readAll_57 : decode cX8_readAll 57 = .ok (.ifCond .ne 5, 3) := by decide +kernel
theorem dX8_readAll_60 : decode cX8_readAll 60 = .ok (.iconst 0, 1) := by decide +kernel
theorem dX8_readAll_61 : decode cX8_readAll 61 = .ok (.ireturn, 1) := by decide +kernel
theorem dX8_readAll_62 : decode cX8_readAll 62 = .ok (.aload_n 0, 1) := by decide +kernel
theorem dX8_readAll_63 : decode cX8_readAll 63 = .ok (.getfield 35, 3) := by decide +kernel
theorem dX8_readAll_66 : decode cX8_readAll 66 = .ok (.iload_n 1, 1) := by decide +kernel
theorem dX8_readAll_67 : decode cX8_readAll 67 = .ok (.aload_n 0, 1) := by decide +kernel
theorem dX8_readAll_68 : decode cX8_readAll 68 = .ok (.invokevirtual 96, 3) := by decide +kernel
theorem dX8_readAll_71 : decode cX8_readAll 71 = .ok (.iastore, 1) := by decide +kernel
theorem dX8_readAll_72 : decode cX8_readAll 72 = .ok (.iinc 1 1, 3) := by decide +kernel
theorem dX8_readAll_75 : decode cX8_readAll 75 = .ok (.goto (-27), 3) := by decide +kernel
theorem dX8_readAll_78 : decode cX8_readAll 78 = .ok (.aload_n 0, 1) := by decide +kernel
theorem dX8_readAll_79 : decode cX8_readAll 79 = .ok (.iconst 1, 1) := by decide +kernel
theorem dX8_readAll_80 : decode cX8_readAll 80 = .ok (.bipush 64, 2) := by decide +kernel
theorem dX8_readAll_82 : decode cX8_readAll 82 = .ok (.invokevirtual 92, 3) := by decide +kernel
theorem dX8_readAll_85 : decode cX8_readAll 85 = .ok (.ifCond .ne 5, 3) := by decide +kernel
theorem dX8_readAll_88 : decode cX8_readAll 88 = .ok (.iconst 0, 1) := by decide +kernel
theorem dX8_readAll_89 : decode cX8_readAll 89 = .ok (.ireturn, 1) := by decide +kernel
theorem dX8_readAll_90 : decode cX8_readAll 90 = .ok (.aload_n 0, 1) := by decide +kernel
theorem dX8_readAll_91 : decode cX8_readAll 91 = .ok (.aload_n 0, 1) := by decide +kernel
theorem dX8_readAll_92 : decode cX8_readAll 92 = .ok (.invokevirtual 96, 3) := by decide +kernel
theorem dX8_readAll_95 : decode cX8_readAll 95 = .ok (.putfield 123, 3) := by decide +kernel
theorem dX8_readAll_98 : decode cX8_readAll 98 = .ok (.iconst 0, 1) := by decide +kernel
theorem dX8_readAll_99 : decode cX8_readAll 99 = .ok (.istore_n 1, 1) := by decide +kernel
theorem dX8_readAll_100 : decode cX8_readAll 100 = .ok (.iload_n 1, 1) := by decide +kernel
theorem dX8_readAll_101 : decode cX8_readAll 101 = .ok (.aload_n 0, 1) := by decide +kernel
theorem dX8_readAll_102 : decode cX8_readAll 102 = .ok (.getfield 123, 3) := by decide +kernel
theorem dX8_readAll_105 : decode cX8_readAll 105 = .ok (.if_icmp .ge 19, 3) := by decide +kernel
theorem dX8_readAll_108 : decode cX8_readAll 108 = .ok (.aload_n 0, 1) := by decide +kernel
theorem dX8_readAll_109 : decode cX8_readAll 109 = .ok (.iload_n 1, 1) := by decide +kernel
theorem dX8_readAll_110 : decode cX8_readAll 110 = .ok (.invokevirtual 126, 3) := by decide +kernel
theorem dX8_readAll_113 : decode cX8_readAll 113 = .ok (.ifCond .ne 5, 3) := by decide +kernel
theorem dX8_readAll_116 : decode cX8_readAll 116 = .ok (.iconst 0, 1) := by decide +kernel
theorem dX8_readAll_117 : decode cX8_readAll 117 = .ok (.ireturn, 1) := by decide +kernel
theorem dX8_readAll_118 : decode cX8_readAll 118 = .ok (.iinc 1 1, 3) := by decide +kernel
theorem dX8_readAll_121 : decode cX8_readAll 121 = .ok (.goto (-21), 3) := by decide +kernel
theorem dX8_readAll_124 : decode cX8_readAll 124 = .ok (.aload_n 0, 1) := by decide +kernel
theorem dX8_readAll_125 : decode cX8_readAll 125 = .ok (.invokevirtual 81, 3) := by decide +kernel
theorem dX8_readAll_128 : decode cX8_readAll 128 = .ok (.istore_n 1, 1) := by decide +kernel
theorem dX8_readAll_129 : decode cX8_readAll 129 = .ok (.iload_n 1, 1) := by decide +kernel
theorem dX8_readAll_130 : decode cX8_readAll 130 = .ok (.aload_n 0, 1) := by decide +kernel
theorem dX8_readAll_131 : decode cX8_readAll 131 = .ok (.getfield 123, 3) := by decide +kernel
theorem dX8_readAll_134 : decode cX8_readAll 134 = .ok (.if_icmp .ge 22, 3) := by decide +kernel
theorem dX8_readAll_137 : decode cX8_readAll 137 = .ok (.aload_n 0, 1) := by decide +kernel
theorem dX8_readAll_138 : decode cX8_readAll 138 = .ok (.getfield 38, 3) := by decide +kernel
theorem dX8_readAll_141 : decode cX8_readAll 141 = .ok (.iload_n 1, 1) := by decide +kernel
theorem dX8_readAll_142 : decode cX8_readAll 142 = .ok (.iaload, 1) := by decide +kernel
theorem dX8_readAll_143 : decode cX8_readAll 143 = .ok (.iconst (-1), 1) := by decide +kernel
theorem dX8_readAll_144 : decode cX8_readAll 144 = .ok (.if_icmp .ne 12, 3) := by decide +kernel
theorem dX8_readAll_147 : decode cX8_readAll 147 = .ok (.aload_n 0, 1) := by decide +kernel
theorem dX8_readAll_148 : decode cX8_readAll 148 = .ok (.getfield 41, 3) := by decide +kernel
theorem dX8_readAll_151 : decode cX8_readAll 151 = .ok (.iload_n 1, 1) := by decide +kernel
theorem dX8_readAll_152 : decode cX8_readAll 152 = .ok (.iaload, 1) := by decide +kernel
theorem dX8_readAll_153 : decode cX8_readAll 153 = .ok (.ifCond .le 12, 3) := by decide +kernel
theorem dX8_readAll_156 : decode cX8_readAll 156 = .ok (.aload_n 0, 1) := by decide +kernel
theorem dX8_readAll_157 : decode cX8_readAll 157 = .ok (.aload_n 0, 1) := by decide +kernel
theorem dX8_readAll_158 : decode cX8_readAll 158 = .ok (.getfield 75, 3) := by decide +kernel
theorem dX8_readAll_161 : decode cX8_readAll 161 = .ok (.invokevirtual 85, 3) := by decide +kernel
theorem dX8_readAll_164 : decode cX8_readAll 164 = .ok (.ireturn, 1) := by decide +kernel
theorem dX8_readAll_165 : decode cX8_readAll 165 = .ok (.aload_n 0, 1) := by decide +kernel
theorem dX8_readAll_166 : decode cX8_readAll 166 = .ok (.iload_n 1, 1) := by decide +kernel
theorem dX8_readAll_167 : decode cX8_readAll 167 = .ok (.putfield 129, 3) := by decide +kernel
theorem dX8_readAll_170 : decode cX8_readAll 170 = .ok (.aload_n 0, 1) := by decide +kernel
theorem dX8_readAll_171 : decode cX8_readAll 171 = .ok (.dup, 1) := by decide +kernel
theorem dX8_readAll_172 : decode cX8_readAll 172 = .ok (.getfield 75, 3) := by decide +kernel
theorem dX8_readAll_175 : decode cX8_readAll 175 = .ok (.iconst 1, 1) := by decide +kernel
theorem dX8_readAll_176 : decode cX8_readAll 176 = .ok (.iadd, 1) := by decide +kernel
theorem dX8_readAll_177 : decode cX8_readAll 177 = .ok (.putfield 75, 3) := by decide +kernel
theorem dX8_readAll_180 : decode cX8_readAll 180 = .ok (.aload_n 0, 1) := by decide +kernel
theorem dX8_readAll_181 : decode cX8_readAll 181 = .ok (.getfield 75, 3) := by decide +kernel
theorem dX8_readAll_184 : decode cX8_readAll 184 = .ok (.aload_n 0, 1) := by decide +kernel
theorem dX8_readAll_185 : decode cX8_readAll 185 = .ok (.getfield 78, 3) := by decide +kernel
theorem dX8_readAll_188 : decode cX8_readAll 188 = .ok (.if_icmp .eq 14, 3) := by decide +kernel
theorem dX8_readAll_191 : decode cX8_readAll 191 = .ok (.aload_n 0, 1) := by decide +kernel
theorem dX8_readAll_192 : decode cX8_readAll 192 = .ok (.aload_n 0, 1) := by decide +kernel
theorem dX8_readAll_193 : decode cX8_readAll 193 = .ok (.getfield 75, 3) := by decide +kernel
theorem dX8_readAll_196 : decode cX8_readAll 196 = .ok (.invokevirtual 85, 3) := by decide +kernel
theorem dX8_readAll_199 : decode cX8_readAll 199 = .ok (.ifCond .eq 7, 3) := by decide +kernel
theorem dX8_readAll_202 : decode cX8_readAll 202 = .ok (.iconst 1, 1) := by decide +kernel
theorem dX8_readAll_203 : decode cX8_readAll 203 = .ok (.goto 4, 3) := by decide +kernel
theorem dX8_readAll_206 : decode cX8_readAll 206 = .ok (.iconst 0, 1) := by decide +kernel
theorem dX8_readAll_207 : decode cX8_readAll 207 = .ok (.ireturn, 1) := by decide +kernel
theorem dX8_note_0 : decode cX8_note 0 = .ok (.aload_n 0, 1) := by decide +kernel
theorem dX8_note_1 : decode cX8_note 1 = .ok (.iload_n 2, 1) := by decide +kernel
theorem dX8_note_2 : decode cX8_note 2 = .ok (.ifCond .ne 22, 3) := by decide +kernel
theorem dX8_note_5 : decode cX8_note 5 = .ok (.aload_n 0, 1) := by decide +kernel
theorem dX8_note_6 : decode cX8_note 6 = .ok (.getfield 72, 3) := by decide +kernel
theorem dX8_note_9 : decode cX8_note 9 = .ok (.ifCond .lt 11, 3) := by decide +kernel
theorem dX8_note_12 : decode cX8_note 12 = .ok (.iload_n 1, 1) := by decide +kernel
theorem dX8_note_13 : decode cX8_note 13 = .ok (.aload_n 0, 1) := by decide +kernel
theorem dX8_note_14 : decode cX8_note 14 = .ok (.getfield 72, 3) := by decide +kernel
theorem dX8_note_17 : decode cX8_note 17 = .ok (.if_icmp .ge 7, 3) := by decide +kernel
theorem dX8_note_20 : decode cX8_note 20 = .ok (.iload_n 1, 1) := by decide +kernel
theorem dX8_note_21 : decode cX8_note 21 = .ok (.goto 7, 3) := by decide +kernel
theorem dX8_note_24 : decode cX8_note 24 = .ok (.aload_n 0, 1) := by decide +kernel
theorem dX8_note_25 : decode cX8_note 25 = .ok (.getfield 72, 3) := by decide +kernel
theorem dX8_note_28 : decode cX8_note 28 = .ok (.putfield 72, 3) := by decide +kernel
theorem dX8_note_31 : decode cX8_note 31 = .ok (.return_, 1) := by decide +kernel
theorem dX8_isBegin_0 : decode cX8_isBegin 0 = .ok (.iload_n 2, 1) := by decide +kernel
theorem dX8_isBegin_1 : decode cX8_isBegin 1 = .ok (.aload_n 0, 1) := by decide +kernel
theorem dX8_isBegin_2 : decode cX8_isBegin 2 = .ok (.getfield 59, 3) := by decide +kernel
theorem dX8_isBegin_5 : decode cX8_isBegin 5 = .ok (.iload_n 1, 1) := by decide +kernel
theorem dX8_isBegin_6 : decode cX8_isBegin 6 = .ok (.iaload, 1) := by decide +kernel
theorem dX8_isBegin_7 : decode cX8_isBegin 7 = .ok (.if_icmp .ge 23, 3) := by decide +kernel
theorem dX8_isBegin_10 : decode cX8_isBegin 10 = .ok (.aload_n 0, 1) := by decide +kernel
theorem dX8_isBegin_11 : decode cX8_isBegin 11 = .ok (.getfield 16, 3) := by decide +kernel
theorem dX8_isBegin_14 : decode cX8_isBegin 14 = .ok (.aload_n 0, 1) := by decide +kernel
theorem dX8_isBegin_15 : decode cX8_isBegin 15 = .ok (.getfield 56, 3) := by decide +kernel
theorem dX8_isBegin_18 : decode cX8_isBegin 18 = .ok (.iload_n 1, 1) := by decide +kernel
theorem dX8_isBegin_19 : decode cX8_isBegin 19 = .ok (.iaload, 1) := by decide +kernel
theorem dX8_isBegin_20 : decode cX8_isBegin 20 = .ok (.iload_n 2, 1) := by decide +kernel
theorem dX8_isBegin_21 : decode cX8_isBegin 21 = .ok (.iadd, 1) := by decide +kernel
theorem dX8_isBegin_22 : decode cX8_isBegin 22 = .ok (.baload, 1) := by decide +kernel
theorem dX8_isBegin_23 : decode cX8_isBegin 23 = .ok (.ifCond .eq 7, 3) := by decide +kernel
theorem dX8_isBegin_26 : decode cX8_isBegin 26 = .ok (.iconst 1, 1) := by decide +kernel
theorem dX8_isBegin_27 : decode cX8_isBegin 27 = .ok (.goto 4, 3) := by decide +kernel
theorem dX8_isBegin_30 : decode cX8_isBegin 30 = .ok (.iconst 0, 1) := by decide +kernel
theorem dX8_isBegin_31 : decode cX8_isBegin 31 = .ok (.ireturn, 1) := by decide +kernel
theorem dX8_isLike_0 : decode cX8_isLike 0 = .ok (.aload_n 0, 1) := by decide +kernel
theorem dX8_isLike_1 : decode cX8_isLike 1 = .ok (.getfield 41, 3) := by decide +kernel
theorem dX8_isLike_4 : decode cX8_isLike 4 = .ok (.iload_n 1, 1) := by decide +kernel
theorem dX8_isLike_5 : decode cX8_isLike 5 = .ok (.iaload, 1) := by decide +kernel
theorem dX8_isLike_6 : decode cX8_isLike 6 = .ok (.aload_n 0, 1) := by decide +kernel
theorem dX8_isLike_7 : decode cX8_isLike 7 = .ok (.getfield 41, 3) := by decide +kernel
theorem dX8_isLike_10 : decode cX8_isLike 10 = .ok (.iload_n 2, 1) := by decide +kernel
theorem dX8_isLike_11 : decode cX8_isLike 11 = .ok (.iaload, 1) := by decide +kernel
theorem dX8_isLike_12 : decode cX8_isLike 12 = .ok (.if_icmp .ne 22, 3) := by decide +kernel
theorem dX8_isLike_15 : decode cX8_isLike 15 = .ok (.aload_n 0, 1) := by decide +kernel
theorem dX8_isLike_16 : decode cX8_isLike 16 = .ok (.getfield 47, 3) := by decide +kernel
theorem dX8_isLike_19 : decode cX8_isLike 19 = .ok (.iload_n 1, 1) := by decide +kernel
theorem dX8_isLike_20 : decode cX8_isLike 20 = .ok (.iaload, 1) := by decide +kernel
theorem dX8_isLike_21 : decode cX8_isLike 21 = .ok (.aload_n 0, 1) := by decide +kernel
theorem dX8_isLike_22 : decode cX8_isLike 22 = .ok (.getfield 47, 3) := by decide +kernel
theorem dX8_isLike_25 : decode cX8_isLike 25 = .ok (.iload_n 2, 1) := by decide +kernel
theorem dX8_isLike_26 : decode cX8_isLike 26 = .ok (.iaload, 1) := by decide +kernel
theorem dX8_isLike_27 : decode cX8_isLike 27 = .ok (.if_icmp .ne 7, 3) := by decide +kernel
theorem dX8_isLike_30 : decode cX8_isLike 30 = .ok (.iconst 1, 1) := by decide +kernel
theorem dX8_isLike_31 : decode cX8_isLike 31 = .ok (.goto 4, 3) := by decide +kernel
theorem dX8_isLike_34 : decode cX8_isLike 34 = .ok (.iconst 0, 1) := by decide +kernel
theorem dX8_isLike_35 : decode cX8_isLike 35 = .ok (.istore_n 3, 1) := by decide +kernel
theorem dX8_isLike_36 : decode cX8_isLike 36 = .ok (.iconst 1, 1) := by decide +kernel
theorem dX8_isLike_37 : decode cX8_isLike 37 = .ok (.istore 4, 2) := by decide +kernel
theorem dX8_isLike_39 : decode cX8_isLike 39 = .ok (.iload 4, 2) := by decide +kernel
theorem dX8_isLike_41 : decode cX8_isLike 41 = .ok (.aload_n 0, 1) := by decide +kernel
theorem dX8_isLike_42 : decode cX8_isLike 42 = .ok (.getfield 41, 3) := by decide +kernel
theorem dX8_isLike_45 : decode cX8_isLike 45 = .ok (.iload_n 1, 1) := by decide +kernel
theorem dX8_isLike_46 : decode cX8_isLike 46 = .ok (.iaload, 1) := by decide +kernel
theorem dX8_isLike_47 : decode cX8_isLike 47 = .ok (.if_icmp .ge 46, 3) := by decide +kernel
theorem dX8_isLike_50 : decode cX8_isLike 50 = .ok (.iload_n 3, 1) := by decide +kernel
theorem dX8_isLike_51 : decode cX8_isLike 51 = .ok (.ifCond .eq 42, 3) := by decide +kernel
theorem dX8_isLike_54 : decode cX8_isLike 54 = .ok (.aload_n 0, 1) := by decide +kernel
theorem dX8_isLike_55 : decode cX8_isLike 55 = .ok (.getfield 44, 3) := by decide +kernel
theorem dX8_isLike_58 : decode cX8_isLike 58 = .ok (.bipush 8, 2) := by decide +kernel
theorem dX8_isLike_60 : decode cX8_isLike 60 = .ok (.iload_n 1, 1) := by decide +kernel
theorem dX8_isLike_61 : decode cX8_isLike 61 = .ok (.imul, 1) := by decide +kernel
theorem dX8_isLike_62 : decode cX8_isLike 62 = .ok (.iload 4, 2) := by decide +kernel
theorem dX8_isLike_64 : decode cX8_isLike 64 = .ok (.iadd, 1) := by decide +kernel
theorem dX8_isLike_65 : decode cX8_isLike 65 = .ok (.iaload, 1) := by decide +kernel
theorem dX8_isLike_66 : decode cX8_isLike 66 = .ok (.aload_n 0, 1) := by decide +kernel
theorem dX8_isLike_67 : decode cX8_isLike 67 = .ok (.getfield 44, 3) := by decide +kernel
theorem dX8_isLike_70 : decode cX8_isLike 70 = .ok (.bipush 8, 2) := by decide +kernel
theorem dX8_isLike_72 : decode cX8_isLike 72 = .ok (.iload_n 2, 1) := by decide +kernel
theorem dX8_isLike_73 : decode cX8_isLike 73 = .ok (.imul, 1) := by decide +kernel
theorem dX8_isLike_74 : decode cX8_isLike 74 = .ok (.iload 4, 2) := by decide +kernel
theorem dX8_isLike_76 : decode cX8_isLike 76 = .ok (.iadd, 1) := by decide +kernel
theorem dX8_isLike_77 : decode cX8_isLike 77 = .ok (.iaload, 1) := by decide +kernel
theorem dX8_isLike_78 : decode cX8_isLike 78 = .ok (.if_icmp .ne 7, 3) := by decide +kernel
theorem dX8_isLike_81 : decode cX8_isLike 81 = .ok (.iconst 1, 1) := by decide +kernel
theorem dX8_isLike_82 : decode cX8_isLike 82 = .ok (.goto 4, 3) := by decide +kernel
theorem dX8_isLike_85 : decode cX8_isLike 85 = .ok (.iconst 0, 1) := by decide +kernel
theorem dX8_isLike_86 : decode cX8_isLike 86 = .ok (.istore_n 3, 1) := by decide +kernel
theorem dX8_isLike_87 : decode cX8_isLike 87 = .ok (.iinc 4 1, 3) := by decide +kernel
theorem dX8_isLike_90 : decode cX8_isLike 90 = .ok (.goto (-51), 3) := by decide +kernel
theorem dX8_isLike_93 : decode cX8_isLike 93 = .ok (.iload_n 3, 1) := by decide +kernel
theorem dX8_isLike_94 : decode cX8_isLike 94 = .ok (.ireturn, 1) := by decide +kernel
set_option maxRecDepth 20000 in
theorem ggX8_checkSlots_X8_isLike : GoodIn wsX8_checkSlots wsX8_isLike := goodIn_r _ [11, 12, 13, 14, 20, 21, 22, 23, 24, 25, 26, 27, 28, 29, 30, 31, 32, 33, 34, 35, 36, 37, 38, 39, 40, 41, 42, 43, 44, 45, 46, 47] (by decide +kernel) (by decide +kernel)
set_option maxRecDepth 20000 in
theorem gX8_checkSlots_X8_isLike : GoodIn wsX8_checkSlots (wsV RX8 132 RX8 yX8_isLike wsX8_isLike) := goodIn_app (goodIn_of _ (by decide +kernel)) ggX8_checkSlots_X8_isLike
set_option maxRecDepth 20000 in
theorem ggX8_checkSlots_X8_note : GoodIn wsX8_checkSlots wsX8_note := goodIn_r _ [18, 19, 20, 21, 22, 23, 24, 25, 26, 27, 28, 29, 30, 31, 32, 33, 34, 35, 36, 37, 38, 39, 40, 41, 42, 43, 44, 45, 46, 47] (by decide +kernel) (by decide +kernel)
set_option maxRecDepth 20000 in
theorem gX8_checkSlots_X8_note : GoodIn wsX8_checkSlots (wsV RX8 135 RX8 yX8_note wsX8_note) := goodIn_app (goodIn_of _ (by decide +kernel)) ggX8_checkSlots_X8_note
theorem dX8_checkSlots_0 : decode cX8_checkSlots 0 = .ok (.iconst 0, 1) := by decide +kernel
theorem dX8_checkSlots_1 : decode cX8_checkSlots 1 = .ok (.istore_n 1, 1) := by decide +kernel
theorem dX8_checkSlots_2 : decode cX8_checkSlots 2 = .ok (.iload_n 1, 1) := by decide +kernel
theorem dX8_checkSlots_3 : decode cX8_checkSlots 3 = .ok (.bipush 16, 2) := by decide +kernel
theorem dX8_checkSlots_5 : decode cX8_checkSlots 5 = .ok (.aload_n 0, 1) := by decide +kernel
theorem dX8_checkSlots_6 : decode cX8_checkSlots 6 = .ok (.getfield 89, 3) := by decide +kernel
theorem dX8_checkSlots_9 : decode cX8_checkSlots 9 = .ok (.imul, 1) := by decide +kernel
theorem dX8_checkSlots_10 : decode cX8_checkSlots 10 = .ok (.if_icmp .ge 127, 3) := by decide +kernel
theorem dX8_checkSlots_13 : decode cX8_checkSlots 13 = .ok (.iload_n 1, 1) := by decide +kernel
theorem dX8_checkSlots_14 : decode cX8_checkSlots 14 = .ok (.bipush 16, 2) := by decide +kernel
theorem dX8_checkSlots_16 : decode cX8_checkSlots 16 = .ok (.idiv, 1) := by decide +kernel
theorem dX8_checkSlots_17 : decode cX8_checkSlots 17 = .ok (.istore_n 2, 1) := by decide +kernel
theorem dX8_checkSlots_18 : decode cX8_checkSlots 18 = .ok (.aload_n 0, 1) := by decide +kernel
theorem dX8_checkSlots_19 : decode cX8_checkSlots 19 = .ok (.getfield 29, 3) := by decide +kernel
theorem dX8_checkSlots_22 : decode cX8_checkSlots 22 = .ok (.iload_n 1, 1) := by decide +kernel
theorem dX8_checkSlots_23 : decode cX8_checkSlots 23 = .ok (.iaload, 1) := by decide +kernel
theorem dX8_checkSlots_24 : decode cX8_checkSlots 24 = .ok (.istore_n 3, 1) := by decide +kernel
theorem dX8_checkSlots_25 : decode cX8_checkSlots 25 = .ok (.aload_n 0, 1) := by decide +kernel
theorem dX8_checkSlots_26 : decode cX8_checkSlots 26 = .ok (.getfield 32, 3) := by decide +kernel
theorem dX8_checkSlots_29 : decode cX8_checkSlots 29 = .ok (.iload_n 1, 1) := by decide +kernel
theorem dX8_checkSlots_30 : decode cX8_checkSlots 30 = .ok (.iaload, 1) := by decide +kernel
theorem dX8_checkSlots_31 : decode cX8_checkSlots 31 = .ok (.iconst (-1), 1) := by decide +kernel
theorem dX8_checkSlots_32 : decode cX8_checkSlots 32 = .ok (.if_icmp .eq 99, 3) := by decide +kernel
theorem dX8_checkSlots_35 : decode cX8_checkSlots 35 = .ok (.aload_n 0, 1) := by decide +kernel
theorem dX8_checkSlots_36 : decode cX8_checkSlots 36 = .ok (.getfield 20, 3) := by decide +kernel
theorem dX8_checkSlots_39 : decode cX8_checkSlots 39 = .ok (.iload_n 2, 1) := by decide +kernel
theorem dX8_checkSlots_40 : decode cX8_checkSlots 40 = .ok (.iaload, 1) := by decide +kernel
theorem dX8_checkSlots_41 : decode cX8_checkSlots 41 = .ok (.ifCond .ge 7, 3) := by decide +kernel
theorem dX8_checkSlots_44 : decode cX8_checkSlots 44 = .ok (.iconst (-1), 1) := by decide +kernel
theorem dX8_checkSlots_45 : decode cX8_checkSlots 45 = .ok (.goto 22, 3) := by decide +kernel
theorem dX8_checkSlots_48 : decode cX8_checkSlots 48 = .ok (.aload_n 0, 1) := by decide +kernel
theorem dX8_checkSlots_49 : decode cX8_checkSlots 49 = .ok (.getfield 29, 3) := by decide +kernel
theorem dX8_checkSlots_52 : decode cX8_checkSlots 52 = .ok (.bipush 16, 2) := by decide +kernel
theorem dX8_checkSlots_54 : decode cX8_checkSlots 54 = .ok (.aload_n 0, 1) := by decide +kernel
theorem dX8_checkSlots_55 : decode cX8_checkSlots 55 = .ok (.getfield 20, 3) := by decide +kernel
theorem dX8_checkSlots_58 : decode cX8_checkSlots 58 = .ok (.iload_n 2, 1) := by decide +kernel
theorem dX8_checkSlots_59 : decode cX8_checkSlots 59 = .ok (.iaload, 1) := by decide +kernel
theorem dX8_checkSlots_60 : decode cX8_checkSlots 60 = .ok (.imul, 1) := by decide +kernel
theorem dX8_checkSlots_61 : decode cX8_checkSlots 61 = .ok (.iload_n 1, 1) := by decide +kernel
theorem dX8_checkSlots_62 : decode cX8_checkSlots 62 = .ok (.bipush 16, 2) := by decide +kernel
theorem dX8_checkSlots_64 : decode cX8_checkSlots 64 = .ok (.irem, 1) := by decide +kernel
theorem dX8_checkSlots_65 : decode cX8_checkSlots 65 = .ok (.iadd, 1) := by decide +kernel
theorem dX8_checkSlots_66 : decode cX8_checkSlots 66 = .ok (.iaload, 1) := by decide +kernel
theorem dX8_checkSlots_67 : decode cX8_checkSlots 67 = .ok (.istore 4, 2) := by decide +kernel
theorem dX8_checkSlots_69 : decode cX8_checkSlots 69 = .ok (.iload_n 3, 1) := by decide +kernel
theorem dX8_checkSlots_70 : decode cX8_checkSlots 70 = .ok (.aload_n 0, 1) := by decide +kernel
theorem dX8_checkSlots_71 : decode cX8_checkSlots 71 = .ok (.getfield 123, 3) := by decide +kernel
theorem dX8_checkSlots_74 : decode cX8_checkSlots 74 = .ok (.if_icmp .ge 42, 3) := by decide +kernel
theorem dX8_checkSlots_77 : decode cX8_checkSlots 77 = .ok (.aload_n 0, 1) := by decide +kernel
theorem dX8_checkSlots_78 : decode cX8_checkSlots 78 = .ok (.getfield 38, 3) := by decide +kernel
theorem dX8_checkSlots_81 : decode cX8_checkSlots 81 = .ok (.iload_n 3, 1) := by decide +kernel
theorem dX8_checkSlots_82 : decode cX8_checkSlots 82 = .ok (.iaload, 1) := by decide +kernel
theorem dX8_checkSlots_83 : decode cX8_checkSlots 83 = .ok (.iload_n 2, 1) := by decide +kernel
theorem dX8_checkSlots_84 : decode cX8_checkSlots 84 = .ok (.if_icmp .ne 32, 3) := by decide +kernel
theorem dX8_checkSlots_87 : decode cX8_checkSlots 87 = .ok (.iload 4, 2) := by decide +kernel
theorem dX8_checkSlots_89 : decode cX8_checkSlots 89 = .ok (.iconst (-1), 1) := by decide +kernel
theorem dX8_checkSlots_90 : decode cX8_checkSlots 90 = .ok (.if_icmp .eq 22, 3) := by decide +kernel
theorem dX8_checkSlots_93 : decode cX8_checkSlots 93 = .ok (.iload 4, 2) := by decide +kernel
theorem dX8_checkSlots_95 : decode cX8_checkSlots 95 = .ok (.aload_n 0, 1) := by decide +kernel
theorem dX8_checkSlots_96 : decode cX8_checkSlots 96 = .ok (.getfield 123, 3) := by decide +kernel
theorem dX8_checkSlots_99 : decode cX8_checkSlots 99 = .ok (.if_icmp .ge 13, 3) := by decide +kernel
theorem dX8_checkSlots_102 : decode cX8_checkSlots 102 = .ok (.aload_n 0, 1) := by decide +kernel
theorem dX8_checkSlots_103 : decode cX8_checkSlots 103 = .ok (.iload_n 3, 1) := by decide +kernel
theorem dX8_checkSlots_104 : decode cX8_checkSlots 104 = .ok (.iload 4, 2) := by decide +kernel
theorem dX8_checkSlots_106 : decode cX8_checkSlots 106 = .ok (.invokevirtual 132, 3) := by decide +kernel
theorem dX8_checkSlots_109 : decode cX8_checkSlots 109 = .ok (.ifCond .eq 7, 3) := by decide +kernel
theorem dX8_checkSlots_112 : decode cX8_checkSlots 112 = .ok (.iconst 1, 1) := by decide +kernel
theorem dX8_checkSlots_113 : decode cX8_checkSlots 113 = .ok (.goto 4, 3) := by decide +kernel
theorem dX8_checkSlots_116 : decode cX8_checkSlots 116 = .ok (.iconst 0, 1) := by decide +kernel
theorem dX8_checkSlots_117 : decode cX8_checkSlots 117 = .ok (.istore 5, 2) := by decide +kernel
theorem dX8_checkSlots_119 : decode cX8_checkSlots 119 = .ok (.aload_n 0, 1) := by decide +kernel
theorem dX8_checkSlots_120 : decode cX8_checkSlots 120 = .ok (.aload_n 0, 1) := by decide +kernel
theorem dX8_checkSlots_121 : decode cX8_checkSlots 121 = .ok (.getfield 32, 3) := by decide +kernel
theorem dX8_checkSlots_124 : decode cX8_checkSlots 124 = .ok (.iload_n 1, 1) := by decide +kernel
theorem dX8_checkSlots_125 : decode cX8_checkSlots 125 = .ok (.iaload, 1) := by decide +kernel
theorem dX8_checkSlots_126 : decode cX8_checkSlots 126 = .ok (.iload 5, 2) := by decide +kernel
theorem dX8_checkSlots_128 : decode cX8_checkSlots 128 = .ok (.invokevirtual 135, 3) := by decide +kernel
theorem dX8_checkSlots_131 : decode cX8_checkSlots 131 = .ok (.iinc 1 1, 3) := by decide +kernel
theorem dX8_checkSlots_134 : decode cX8_checkSlots 134 = .ok (.goto (-132), 3) := by decide +kernel
theorem dX8_checkSlots_137 : decode cX8_checkSlots 137 = .ok (.return_, 1) := by decide +kernel
set_option maxRecDepth 20000 in
theorem ggX8_checkCode_X8_two : GoodIn wsX8_checkCode wsX8_two := goodIn_r _ [12, 4, 22, 23, 24, 25, 26, 27, 28, 29, 30, 31, 32, 33, 34, 35, 36, 37, 38, 39, 40, 41, 42, 43, 44, 45, 46, 47, 48, 49] (by decide +kernel) (by decide +kernel)
set_option maxRecDepth 20000 in
theorem gX8_checkCode_X8_two : GoodIn wsX8_checkCode (wsV RX8 103 RX8 yX8_two wsX8_two) := goodIn_app (goodIn_of _ (by decide +kernel)) ggX8_checkCode_X8_two
set_option maxRecDepth 20000 in
theorem ggX8_checkCode_X8_isBegin : GoodIn wsX8_checkCode wsX8_isBegin := goodIn_r _ [16, 2, 3, 1, 22, 23, 24, 25, 26, 27, 28, 29, 30, 31, 32, 33, 34, 35, 36, 37, 38, 39, 40, 41, 42, 43, 44, 45, 46, 47, 48, 49] (by decide +kernel) (by decide +kernel)
set_option maxRecDepth 20000 in
theorem gX8_checkCode_X8_isBegin : GoodIn wsX8_checkCode (wsV RX8 139 RX8 yX8_isBegin wsX8_isBegin) := goodIn_app (goodIn_of _ (by decide +kernel)) ggX8_checkCode_X8_isBegin
set_option maxRecDepth 20000 in
theorem ggX8_checkCode_X8_note : GoodIn wsX8_checkCode wsX8_note := goodIn_r _ [20, 21, 22, 23, 24, 25, 26, 27, 28, 29, 30, 31, 32, 33, 34, 35, 36, 37, 38, 39, 40, 41, 42, 43, 44, 45, 46, 47, 48, 49] (by decide +kernel) (by decide +kernel)
set_option maxRecDepth 20000 in
theorem gX8_checkCode_X8_note : GoodIn wsX8_checkCode (wsV RX8 135 RX8 yX8_note wsX8_note) := goodIn_app (goodIn_of _ (by decide +kernel)) ggX8_checkCode_X8_note
theorem dX8_checkCode_0 : decode cX8_checkCode 0 = .ok (.aload_n 0, 1) := by decide +kernel
theorem dX8_checkCode_1 : decode cX8_checkCode 1 = .ok (.getfield 56, 3) := by decide +kernel
theorem dX8_checkCode_4 : decode cX8_checkCode 4 = .ok (.iload_n 1, 1) := by decide +kernel
theorem dX8_checkCode_5 : decode cX8_checkCode 5 = .ok (.iaload, 1) := by decide +kernel
theorem dX8_checkCode_6 : decode cX8_checkCode 6 = .ok (.istore_n 2, 1) := by decide +kernel
theorem dX8_checkCode_7 : decode cX8_checkCode 7 = .ok (.iload_n 2, 1) := by decide +kernel
theorem dX8_checkCode_8 : decode cX8_checkCode 8 = .ok (.aload_n 0, 1) := by decide +kernel
theorem dX8_checkCode_9 : decode cX8_checkCode 9 = .ok (.getfield 56, 3) := by decide +kernel
theorem dX8_checkCode_12 : decode cX8_checkCode 12 = .ok (.iload_n 1, 1) := by decide +kernel
theorem dX8_checkCode_13 : decode cX8_checkCode 13 = .ok (.iaload, 1) := by decide +kernel
theorem dX8_checkCode_14 : decode cX8_checkCode 14 = .ok (.aload_n 0, 1) := by decide +kernel
theorem dX8_checkCode_15 : decode cX8_checkCode 15 = .ok (.getfield 59, 3) := by decide +kernel
theorem dX8_checkCode_18 : decode cX8_checkCode 18 = .ok (.iload_n 1, 1) := by decide +kernel
theorem dX8_checkCode_19 : decode cX8_checkCode 19 = .ok (.iaload, 1) := by decide +kernel
theorem dX8_checkCode_20 : decode cX8_checkCode 20 = .ok (.iadd, 1) := by decide +kernel
theorem dX8_checkCode_21 : decode cX8_checkCode 21 = .ok (.if_icmp .ge 120, 3) := by decide +kernel
theorem dX8_checkCode_24 : decode cX8_checkCode 24 = .ok (.aload_n 0, 1) := by decide +kernel
theorem dX8_checkCode_25 : decode cX8_checkCode 25 = .ok (.getfield 16, 3) := by decide +kernel
theorem dX8_checkCode_28 : decode cX8_checkCode 28 = .ok (.iload_n 2, 1) := by decide +kernel
theorem dX8_checkCode_29 : decode cX8_checkCode 29 = .ok (.baload, 1) := by decide +kernel
theorem dX8_checkCode_30 : decode cX8_checkCode 30 = .ok (.ifCond .eq 105, 3) := by decide +kernel
theorem dX8_checkCode_33 : decode cX8_checkCode 33 = .ok (.aload_n 0, 1) := by decide +kernel
theorem dX8_checkCode_34 : decode cX8_checkCode 34 = .ok (.getfield 13, 3) := by decide +kernel
theorem dX8_checkCode_37 : decode cX8_checkCode 37 = .ok (.iload_n 2, 1) := by decide +kernel
theorem dX8_checkCode_38 : decode cX8_checkCode 38 = .ok (.iaload, 1) := by decide +kernel
theorem dX8_checkCode_39 : decode cX8_checkCode 39 = .ok (.istore_n 3, 1) := by decide +kernel
theorem dX8_checkCode_40 : decode cX8_checkCode 40 = .ok (.iload_n 3, 1) := by decide +kernel
theorem dX8_checkCode_41 : decode cX8_checkCode 41 = .ok (.bipush 19, 2) := by decide +kernel
theorem dX8_checkCode_43 : decode cX8_checkCode 43 = .ok (.if_icmp .eq 9, 3) := by decide +kernel
theorem dX8_checkCode_46 : decode cX8_checkCode 46 = .ok (.iload_n 3, 1) := by decide +kernel
theorem dX8_checkCode_47 : decode cX8_checkCode 47 = .ok (.bipush 20, 2) := by decide +kernel
theorem dX8_checkCode_49 : decode cX8_checkCode 49 = .ok (.if_icmp .ne 9, 3) := by decide +kernel
theorem dX8_checkCode_52 : decode cX8_checkCode 52 = .ok (.iload_n 2, 1) := by decide +kernel
theorem dX8_checkCode_53 : decode cX8_checkCode 53 = .ok (.iconst 2, 1) := by decide +kernel
theorem dX8_checkCode_54 : decode cX8_checkCode 54 = .ok (.iadd, 1) := by decide +kernel
theorem dX8_checkCode_55 : decode cX8_checkCode 55 = .ok (.goto 22, 3) := by decide +kernel
theorem dX8_checkCode_58 : decode cX8_checkCode 58 = .ok (.iload_n 3, 1) := by decide +kernel
theorem dX8_checkCode_59 : decode cX8_checkCode 59 = .ok (.bipush 21, 2) := by decide +kernel
theorem dX8_checkCode_61 : decode cX8_checkCode 61 = .ok (.if_icmp .lt 15, 3) := by decide +kernel
theorem dX8_checkCode_64 : decode cX8_checkCode 64 = .ok (.iload_n 3, 1) := by decide +kernel
theorem dX8_checkCode_65 : decode cX8_checkCode 65 = .ok (.bipush 25, 2) := by decide +kernel
theorem dX8_checkCode_67 : decode cX8_checkCode 67 = .ok (.if_icmp .gt 9, 3) := by decide +kernel
theorem dX8_checkCode_70 : decode cX8_checkCode 70 = .ok (.iload_n 2, 1) := by decide +kernel
theorem dX8_checkCode_71 : decode cX8_checkCode 71 = .ok (.iconst 1, 1) := by decide +kernel
theorem dX8_checkCode_72 : decode cX8_checkCode 72 = .ok (.iadd, 1) := by decide +kernel
theorem dX8_checkCode_73 : decode cX8_checkCode 73 = .ok (.goto 4, 3) := by decide +kernel
theorem dX8_checkCode_76 : decode cX8_checkCode 76 = .ok (.iconst (-1), 1) := by decide +kernel
theorem dX8_checkCode_77 : decode cX8_checkCode 77 = .ok (.istore 4, 2) := by decide +kernel
theorem dX8_checkCode_79 : decode cX8_checkCode 79 = .ok (.iload 4, 2) := by decide +kernel
theorem dX8_checkCode_81 : decode cX8_checkCode 81 = .ok (.iconst (-1), 1) := by decide +kernel
theorem dX8_checkCode_82 : decode cX8_checkCode 82 = .ok (.if_icmp .eq 20, 3) := by decide +kernel
theorem dX8_checkCode_85 : decode cX8_checkCode 85 = .ok (.aload_n 0, 1) := by decide +kernel
theorem dX8_checkCode_86 : decode cX8_checkCode 86 = .ok (.iload 4, 2) := by decide +kernel
theorem dX8_checkCode_88 : decode cX8_checkCode 88 = .ok (.aload_n 0, 1) := by decide +kernel
theorem dX8_checkCode_89 : decode cX8_checkCode 89 = .ok (.iload_n 1, 1) := by decide +kernel
theorem dX8_checkCode_90 : decode cX8_checkCode 90 = .ok (.aload_n 0, 1) := by decide +kernel
theorem dX8_checkCode_91 : decode cX8_checkCode 91 = .ok (.iload 4, 2) := by decide +kernel
theorem dX8_checkCode_93 : decode cX8_checkCode 93 = .ok (.invokevirtual 103, 3) := by decide +kernel
theorem dX8_checkCode_96 : decode cX8_checkCode 96 = .ok (.invokevirtual 139, 3) := by decide +kernel
theorem dX8_checkCode_99 : decode cX8_checkCode 99 = .ok (.invokevirtual 135, 3) := by decide +kernel
theorem dX8_checkCode_102 : decode cX8_checkCode 102 = .ok (.iload_n 3, 1) := by decide +kernel
theorem dX8_checkCode_103 : decode cX8_checkCode 103 = .ok (.bipush 35, 2) := by decide +kernel
theorem dX8_checkCode_105 : decode cX8_checkCode 105 = .ok (.if_icmp .ne 30, 3) := by decide +kernel
theorem dX8_checkCode_108 : decode cX8_checkCode 108 = .ok (.aload_n 0, 1) := by decide +kernel
theorem dX8_checkCode_109 : decode cX8_checkCode 109 = .ok (.iload_n 2, 1) := by decide +kernel
theorem dX8_checkCode_110 : decode cX8_checkCode 110 = .ok (.iconst 1, 1) := by decide +kernel
theorem dX8_checkCode_111 : decode cX8_checkCode 111 = .ok (.iadd, 1) := by decide +kernel
theorem dX8_checkCode_112 : decode cX8_checkCode 112 = .ok (.aload_n 0, 1) := by decide +kernel
theorem dX8_checkCode_113 : decode cX8_checkCode 113 = .ok (.getfield 13, 3) := by decide +kernel
theorem dX8_checkCode_116 : decode cX8_checkCode 116 = .ok (.iload_n 2, 1) := by decide +kernel
theorem dX8_checkCode_117 : decode cX8_checkCode 117 = .ok (.iconst 1, 1) := by decide +kernel
theorem dX8_checkCode_118 : decode cX8_checkCode 118 = .ok (.iadd, 1) := by decide +kernel
theorem dX8_checkCode_119 : decode cX8_checkCode 119 = .ok (.iaload, 1) := by decide +kernel
theorem dX8_checkCode_120 : decode cX8_checkCode 120 = .ok (.aload_n 0, 1) := by decide +kernel
theorem dX8_checkCode_121 : decode cX8_checkCode 121 = .ok (.getfield 123, 3) := by decide +kernel
theorem dX8_checkCode_124 : decode cX8_checkCode 124 = .ok (.if_icmp .ge 7, 3) := by decide +kernel
theorem dX8_checkCode_127 : decode cX8_checkCode 127 = .ok (.iconst 1, 1) := by decide +kernel
theorem dX8_checkCode_128 : decode cX8_checkCode 128 = .ok (.goto 4, 3) := by decide +kernel
theorem dX8_checkCode_131 : decode cX8_checkCode 131 = .ok (.iconst 0, 1) := by decide +kernel
theorem dX8_checkCode_132 : decode cX8_checkCode 132 = .ok (.invokevirtual 135, 3) := by decide +kernel
theorem dX8_checkCode_135 : decode cX8_checkCode 135 = .ok (.iinc 2 1, 3) := by decide +kernel
theorem dX8_checkCode_138 : decode cX8_checkCode 138 = .ok (.goto (-131), 3) := by decide +kernel
theorem dX8_checkCode_141 : decode cX8_checkCode 141 = .ok (.iconst 0, 1) := by decide +kernel
theorem dX8_checkCode_142 : decode cX8_checkCode 142 = .ok (.istore_n 2, 1) := by decide +kernel
theorem dX8_checkCode_143 : decode cX8_checkCode 143 = .ok (.iload_n 2, 1) := by decide +kernel
theorem dX8_checkCode_144 : decode cX8_checkCode 144 = .ok (.aload_n 0, 1) := by decide +kernel
theorem dX8_checkCode_145 : decode cX8_checkCode 145 = .ok (.getfield 62, 3) := by decide +kernel
theorem dX8_checkCode_148 : decode cX8_checkCode 148 = .ok (.iload_n 1, 1) := by decide +kernel
theorem dX8_checkCode_149 : decode cX8_checkCode 149 = .ok (.iaload, 1) := by decide +kernel
theorem dX8_checkCode_150 : decode cX8_checkCode 150 = .ok (.if_icmp .ge 121, 3) := by decide +kernel
theorem dX8_checkCode_153 : decode cX8_checkCode 153 = .ok (.aload_n 0, 1) := by decide +kernel
theorem dX8_checkCode_154 : decode cX8_checkCode 154 = .ok (.getfield 65, 3) := by decide +kernel
theorem dX8_checkCode_157 : decode cX8_checkCode 157 = .ok (.iload_n 1, 1) := by decide +kernel
theorem dX8_checkCode_158 : decode cX8_checkCode 158 = .ok (.iaload, 1) := by decide +kernel
theorem dX8_checkCode_159 : decode cX8_checkCode 159 = .ok (.bipush 7, 2) := by decide +kernel
theorem dX8_checkCode_161 : decode cX8_checkCode 161 = .ok (.iload_n 2, 1) := by decide +kernel
theorem dX8_checkCode_162 : decode cX8_checkCode 162 = .ok (.imul, 1) := by decide +kernel
theorem dX8_checkCode_163 : decode cX8_checkCode 163 = .ok (.iadd, 1) := by decide +kernel
theorem dX8_checkCode_164 : decode cX8_checkCode 164 = .ok (.istore_n 3, 1) := by decide +kernel
theorem dX8_checkCode_165 : decode cX8_checkCode 165 = .ok (.aload_n 0, 1) := by decide +kernel
theorem dX8_checkCode_166 : decode cX8_checkCode 166 = .ok (.iload_n 3, 1) := by decide +kernel
theorem dX8_checkCode_167 : decode cX8_checkCode 167 = .ok (.aload_n 0, 1) := by decide +kernel
theorem dX8_checkCode_168 : decode cX8_checkCode 168 = .ok (.iload_n 1, 1) := by decide +kernel
theorem dX8_checkCode_169 : decode cX8_checkCode 169 = .ok (.aload_n 0, 1) := by decide +kernel
theorem dX8_checkCode_170 : decode cX8_checkCode 170 = .ok (.iload_n 3, 1) := by decide +kernel
theorem dX8_checkCode_171 : decode cX8_checkCode 171 = .ok (.invokevirtual 103, 3) := by decide +kernel
theorem dX8_checkCode_174 : decode cX8_checkCode 174 = .ok (.invokevirtual 139, 3) := by decide +kernel
theorem dX8_checkCode_177 : decode cX8_checkCode 177 = .ok (.ifCond .eq 22, 3) := by decide +kernel
theorem dX8_checkCode_180 : decode cX8_checkCode 180 = .ok (.aload_n 0, 1) := by decide +kernel
theorem dX8_checkCode_181 : decode cX8_checkCode 181 = .ok (.iload_n 3, 1) := by decide +kernel
theorem dX8_checkCode_182 : decode cX8_checkCode 182 = .ok (.invokevirtual 103, 3) := by decide +kernel
theorem dX8_checkCode_185 : decode cX8_checkCode 185 = .ok (.aload_n 0, 1) := by decide +kernel
theorem dX8_checkCode_186 : decode cX8_checkCode 186 = .ok (.iload_n 3, 1) := by decide +kernel
theorem dX8_checkCode_187 : decode cX8_checkCode 187 = .ok (.iconst 2, 1) := by decide +kernel
theorem dX8_checkCode_188 : decode cX8_checkCode 188 = .ok (.iadd, 1) := by decide +kernel
theorem dX8_checkCode_189 : decode cX8_checkCode 189 = .ok (.invokevirtual 103, 3) := by decide +kernel
theorem dX8_checkCode_192 : decode cX8_checkCode 192 = .ok (.if_icmp .ge 7, 3) := by decide +kernel
theorem dX8_checkCode_195 : decode cX8_checkCode 195 = .ok (.iconst 1, 1) := by decide +kernel
theorem dX8_checkCode_196 : decode cX8_checkCode 196 = .ok (.goto 4, 3) := by decide +kernel
theorem dX8_checkCode_199 : decode cX8_checkCode 199 = .ok (.iconst 0, 1) := by decide +kernel
theorem dX8_checkCode_200 : decode cX8_checkCode 200 = .ok (.invokevirtual 135, 3) := by decide +kernel
theorem dX8_checkCode_203 : decode cX8_checkCode 203 = .ok (.aload_n 0, 1) := by decide +kernel
theorem dX8_checkCode_204 : decode cX8_checkCode 204 = .ok (.iload_n 3, 1) := by decide +kernel
theorem dX8_checkCode_205 : decode cX8_checkCode 205 = .ok (.iconst 2, 1) := by decide +kernel
theorem dX8_checkCode_206 : decode cX8_checkCode 206 = .ok (.iadd, 1) := by decide +kernel
theorem dX8_checkCode_207 : decode cX8_checkCode 207 = .ok (.aload_n 0, 1) := by decide +kernel
theorem dX8_checkCode_208 : decode cX8_checkCode 208 = .ok (.iload_n 1, 1) := by decide +kernel
theorem dX8_checkCode_209 : decode cX8_checkCode 209 = .ok (.aload_n 0, 1) := by decide +kernel
theorem dX8_checkCode_210 : decode cX8_checkCode 210 = .ok (.iload_n 3, 1) := by decide +kernel
theorem dX8_checkCode_211 : decode cX8_checkCode 211 = .ok (.iconst 2, 1) := by decide +kernel
theorem dX8_checkCode_212 : decode cX8_checkCode 212 = .ok (.iadd, 1) := by decide +kernel
theorem dX8_checkCode_213 : decode cX8_checkCode 213 = .ok (.invokevirtual 103, 3) := by decide +kernel
theorem dX8_checkCode_216 : decode cX8_checkCode 216 = .ok (.invokevirtual 139, 3) := by decide +kernel
theorem dX8_checkCode_219 : decode cX8_checkCode 219 = .ok (.ifCond .ne 19, 3) := by decide +kernel
theorem dX8_checkCode_222 : decode cX8_checkCode 222 = .ok (.aload_n 0, 1) := by decide +kernel
theorem dX8_checkCode_223 : decode cX8_checkCode 223 = .ok (.iload_n 3, 1) := by decide +kernel
theorem dX8_checkCode_224 : decode cX8_checkCode 224 = .ok (.iconst 2, 1) := by decide +kernel
theorem dX8_checkCode_225 : decode cX8_checkCode 225 = .ok (.iadd, 1) := by decide +kernel
theorem dX8_checkCode_226 : decode cX8_checkCode 226 = .ok (.invokevirtual 103, 3) := by decide +kernel
theorem dX8_checkCode_229 : decode cX8_checkCode 229 = .ok (.aload_n 0, 1) := by decide +kernel
theorem dX8_checkCode_230 : decode cX8_checkCode 230 = .ok (.getfield 59, 3) := by decide +kernel
theorem dX8_checkCode_233 : decode cX8_checkCode 233 = .ok (.iload_n 1, 1) := by decide +kernel
theorem dX8_checkCode_234 : decode cX8_checkCode 234 = .ok (.iaload, 1) := by decide +kernel
theorem dX8_checkCode_235 : decode cX8_checkCode 235 = .ok (.if_icmp .ne 7, 3) := by decide +kernel
theorem dX8_checkCode_238 : decode cX8_checkCode 238 = .ok (.iconst 1, 1) := by decide +kernel
theorem dX8_checkCode_239 : decode cX8_checkCode 239 = .ok (.goto 4, 3) := by decide +kernel
theorem dX8_checkCode_242 : decode cX8_checkCode 242 = .ok (.iconst 0, 1) := by decide +kernel
theorem dX8_checkCode_243 : decode cX8_checkCode 243 = .ok (.invokevirtual 135, 3) := by decide +kernel
theorem dX8_checkCode_246 : decode cX8_checkCode 246 = .ok (.aload_n 0, 1) := by decide +kernel
theorem dX8_checkCode_247 : decode cX8_checkCode 247 = .ok (.iload_n 3, 1) := by decide +kernel
theorem dX8_checkCode_248 : decode cX8_checkCode 248 = .ok (.iconst 5, 1) := by decide +kernel
theorem dX8_checkCode_249 : decode cX8_checkCode 249 = .ok (.iadd, 1) := by decide +kernel
theorem dX8_checkCode_250 : decode cX8_checkCode 250 = .ok (.aload_n 0, 1) := by decide +kernel
theorem dX8_checkCode_251 : decode cX8_checkCode 251 = .ok (.iload_n 1, 1) := by decide +kernel
theorem dX8_checkCode_252 : decode cX8_checkCode 252 = .ok (.aload_n 0, 1) := by decide +kernel
theorem dX8_checkCode_253 : decode cX8_checkCode 253 = .ok (.iload_n 3, 1) := by decide +kernel
theorem dX8_checkCode_254 : decode cX8_checkCode 254 = .ok (.iconst 5, 1) := by decide +kernel
theorem dX8_checkCode_255 : decode cX8_checkCode 255 = .ok (.iadd, 1) := by decide +kernel
theorem dX8_checkCode_256 : decode cX8_checkCode 256 = .ok (.invokevirtual 103, 3) := by decide +kernel
theorem dX8_checkCode_259 : decode cX8_checkCode 259 = .ok (.invokevirtual 139, 3) := by decide +kernel
theorem dX8_checkCode_262 : decode cX8_checkCode 262 = .ok (.invokevirtual 135, 3) := by decide +kernel
theorem dX8_checkCode_265 : decode cX8_checkCode 265 = .ok (.iinc 2 1, 3) := by decide +kernel
theorem dX8_checkCode_268 : decode cX8_checkCode 268 = .ok (.goto (-125), 3) := by decide +kernel
theorem dX8_checkCode_271 : decode cX8_checkCode 271 = .ok (.return_, 1) := by decide +kernel
set_option maxRecDepth 20000 in
theorem ggX8_end_X8_readAll_1_s0 : GoodIn wsX8_end [Cond.fieldLink RX8 89 "CodeImagesModel" "classes" "I", Cond.fieldLink RX8 35 "CodeImagesModel" "throwns" "[I", Cond.fieldLink RX8 123 "CodeImagesModel" "methods" "I", Cond.fieldLink RX8 38 "CodeImagesModel" "owners" "[I", Cond.fieldLink RX8 41 "CodeImagesModel" "parameterCounts" "[I", Cond.fieldLink RX8 75 "CodeImagesModel" "place" "I", Cond.fieldLink RX8 129 "CodeImagesModel" "first" "I", Cond.fieldLink RX8 78 "CodeImagesModel" "size" "I", Cond.methodLink RX8 92 yX8_over, Cond.instanceMethod yX8_over, Cond.selects RX8 yX8_over yX8_over, Cond.initialized RX8] := goodIn_r _ [16, 17, 10, 18, 19, 6, 20, 2, 21, 22, 23, 14] (by decide +kernel) (by decide +kernel)
set_option maxRecDepth 20000 in
theorem ggX8_end_X8_readAll_1_s1 : GoodIn wsX8_end [Cond.code yX8_over cX8_over 3 (some .boolean)] := goodIn_co (List.mem_of_getElem? (i := 24) rfl) (Or.inl rfl) (fun _ h => absurd h List.not_mem_nil)
set_option maxRecDepth 20000 in
theorem ggX8_end_X8_readAll_1_s2 : GoodIn wsX8_end [Cond.methodLink RX8 81 yX8_here, Cond.instanceMethod yX8_here, Cond.selects RX8 yX8_here yX8_here] := goodIn_r _ [25, 26, 27] (by decide +kernel) (by decide +kernel)
set_option maxRecDepth 20000 in
theorem ggX8_end_X8_readAll_1_s3 : GoodIn wsX8_end [Cond.code yX8_here cX8_here 1 (some .int)] := goodIn_co (List.mem_of_getElem? (i := 28) rfl) (Or.inl rfl) (fun _ h => absurd h List.not_mem_nil)
set_option maxRecDepth 20000 in
theorem ggX8_end_X8_readAll_1_s4 : GoodIn wsX8_end [Cond.fieldLink RX8 13 "CodeImagesModel" "image" "[I", Cond.methodLink RX8 85 yX8_bad, Cond.instanceMethod yX8_bad, Cond.selects RX8 yX8_bad yX8_bad] := goodIn_r _ [3, 29, 30, 31] (by decide +kernel) (by decide +kernel)
set_option maxRecDepth 20000 in
theorem ggX8_end_X8_readAll_1_s5 : GoodIn wsX8_end [Cond.code yX8_bad cX8_bad 2 (some .boolean)] := goodIn_co (List.mem_of_getElem? (i := 32) rfl) (Or.inl rfl) (fun _ h => absurd h List.not_mem_nil)
set_option maxRecDepth 20000 in
theorem ggX8_end_X8_readAll_1_s6 : GoodIn wsX8_end [Cond.fieldLink RX8 72 "CodeImagesModel" "wrong" "I", Cond.methodLink RX8 96 yX8_last] := goodIn_r _ [7, 33] (by decide +kernel) (by decide +kernel)
set_option maxRecDepth 20000 in
theorem ggX8_end_X8_readAll_1 : GoodIn wsX8_end wsX8_readAll_r1 := goodIn_app ggX8_end_X8_readAll_1_s0 (goodIn_app ggX8_end_X8_readAll_1_s1 (goodIn_app ggX8_end_X8_readAll_1_s2 (goodIn_app ggX8_end_X8_readAll_1_s3 (goodIn_app ggX8_end_X8_readAll_1_s4 (goodIn_app ggX8_end_X8_readAll_1_s5 ggX8_end_X8_readAll_1_s6)))))
set_option maxRecDepth 20000 in
theorem ggX8_end_X8_readAll_2_s0 : GoodIn wsX8_end [Cond.instanceMethod yX8_last, Cond.selects RX8 yX8_last yX8_last] := goodIn_r _ [34, 35] (by decide +kernel) (by decide +kernel)
set_option maxRecDepth 20000 in
theorem ggX8_end_X8_readAll_2_s1 : GoodIn wsX8_end [Cond.code yX8_last cX8_last 1 (some .int)] := goodIn_co (List.mem_of_getElem? (i := 36) rfl) (Or.inl rfl) (fun _ h => absurd h List.not_mem_nil)
set_option maxRecDepth 20000 in
theorem ggX8_end_X8_readAll_2_s2 : GoodIn wsX8_end [Cond.methodLink RX8 120 yX8_readClass, Cond.instanceMethod yX8_readClass, Cond.selects RX8 yX8_readClass yX8_readClass] := goodIn_r _ [37, 38, 39] (by decide +kernel) (by decide +kernel)
set_option maxRecDepth 20000 in
theorem ggX8_end_X8_readAll_2_s3 : GoodIn wsX8_end [Cond.code yX8_readClass cX8_readClass 8 (some .boolean)] := goodIn_co (List.mem_of_getElem? (i := 40) rfl) (Or.inl rfl) (fun _ h => absurd h List.not_mem_nil)
set_option maxRecDepth 20000 in
theorem ggX8_end_X8_readAll_2_s4 : GoodIn wsX8_end [Cond.fieldLink RX8 20 "CodeImagesModel" "uppers" "[I", Cond.fieldLink RX8 23 "CodeImagesModel" "fieldCounts" "[I", Cond.fieldLink RX8 26 "CodeImagesModel" "fieldTypes" "[I", Cond.fieldLink RX8 29 "CodeImagesModel" "slots" "[I", Cond.fieldLink RX8 32 "CodeImagesModel" "slotPlaces" "[I", Cond.methodLink RX8 99 yX8_overType, Cond.instanceMethod yX8_overType, Cond.selects RX8 yX8_overType yX8_overType] := goodIn_r _ [41, 42, 43, 44, 45, 46, 47, 48] (by decide +kernel) (by decide +kernel)
set_option maxRecDepth 20000 in
theorem ggX8_end_X8_readAll_2_s5 : GoodIn wsX8_end [Cond.code yX8_overType cX8_overType 4 (some .boolean)] := goodIn_co (List.mem_of_getElem? (i := 49) rfl) (Or.inl rfl) (fun _ h => absurd h List.not_mem_nil)
set_option maxRecDepth 20000 in
theorem ggX8_end_X8_readAll_2_s6 : GoodIn wsX8_end [Cond.methodLink RX8 110 yX8_overClass, Cond.instanceMethod yX8_overClass, Cond.selects RX8 yX8_overClass yX8_overClass] := goodIn_r _ [50, 51, 52] (by decide +kernel) (by decide +kernel)
set_option maxRecDepth 20000 in
theorem ggX8_end_X8_readAll_2_s7 : GoodIn wsX8_end [Cond.code yX8_overClass cX8_overClass 1 (some .boolean)] := goodIn_co (List.mem_of_getElem? (i := 53) rfl) (Or.inl rfl) (fun _ h => absurd h List.not_mem_nil)
set_option maxRecDepth 20000 in
theorem ggX8_end_X8_readAll_2_s8 : GoodIn wsX8_end [Cond.methodLink RX8 126 yX8_readMethod, Cond.instanceMethod yX8_readMethod, Cond.selects RX8 yX8_readMethod yX8_readMethod] := goodIn_r _ [54, 55, 56] (by decide +kernel) (by decide +kernel)
set_option maxRecDepth 20000 in
theorem ggX8_end_X8_readAll_2_s9 : GoodIn wsX8_end [Cond.code yX8_readMethod cX8_readMethod 7 (some .boolean)] := goodIn_co (List.mem_of_getElem? (i := 57) rfl) (Or.inl rfl) (fun _ h => absurd h List.not_mem_nil)
set_option maxRecDepth 20000 in
theorem ggX8_end_X8_readAll_2 : GoodIn wsX8_end wsX8_readAll_r2 := goodIn_app ggX8_end_X8_readAll_2_s0 (goodIn_app ggX8_end_X8_readAll_2_s1 (goodIn_app ggX8_end_X8_readAll_2_s2 (goodIn_app ggX8_end_X8_readAll_2_s3 (goodIn_app ggX8_end_X8_readAll_2_s4 (goodIn_app ggX8_end_X8_readAll_2_s5 (goodIn_app ggX8_end_X8_readAll_2_s6 (goodIn_app ggX8_end_X8_readAll_2_s7 (goodIn_app ggX8_end_X8_readAll_2_s8 ggX8_end_X8_readAll_2_s9))))))))
set_option maxRecDepth 20000 in
theorem ggX8_end_X8_readAll_3_s0 : GoodIn wsX8_end [Cond.fieldLink RX8 44 "CodeImagesModel" "parameterTypes" "[I", Cond.fieldLink RX8 47 "CodeImagesModel" "gives" "[I", Cond.fieldLink RX8 50 "CodeImagesModel" "locals" "[I", Cond.fieldLink RX8 53 "CodeImagesModel" "stacks" "[I", Cond.fieldLink RX8 59 "CodeImagesModel" "codeSizes" "[I", Cond.fieldLink RX8 56 "CodeImagesModel" "codeAt" "[I", Cond.fieldLink RX8 62 "CodeImagesModel" "handlerCounts" "[I", Cond.fieldLink RX8 65 "CodeImagesModel" "handlerAt" "[I", Cond.methodLink RX8 103 yX8_two, Cond.instanceMethod yX8_two, Cond.selects RX8 yX8_two yX8_two] := goodIn_r _ [58, 59, 60, 61, 62, 63, 64, 65, 66, 67, 68] (by decide +kernel) (by decide +kernel)
set_option maxRecDepth 20000 in
theorem ggX8_end_X8_readAll_3_s1 : GoodIn wsX8_end [Cond.code yX8_two cX8_two 2 (some .int)] := goodIn_co (List.mem_of_getElem? (i := 69) rfl) (Or.inl rfl) (fun _ h => absurd h List.not_mem_nil)
set_option maxRecDepth 20000 in
theorem ggX8_end_X8_readAll_3_s2 : GoodIn wsX8_end [Cond.methodLink RX8 107 yX8_readInstruction, Cond.instanceMethod yX8_readInstruction, Cond.selects RX8 yX8_readInstruction yX8_readInstruction] := goodIn_r _ [70, 71, 72] (by decide +kernel) (by decide +kernel)
set_option maxRecDepth 20000 in
theorem ggX8_end_X8_readAll_3_s3 : GoodIn wsX8_end [Cond.code yX8_readInstruction cX8_readInstruction 8 (some .boolean)] := goodIn_co (List.mem_of_getElem? (i := 73) rfl) (Or.inl rfl) (fun _ h => absurd h List.not_mem_nil)
set_option maxRecDepth 20000 in
theorem ggX8_end_X8_readAll_3_s4 : GoodIn wsX8_end [Cond.fieldLink RX8 16 "CodeImagesModel" "begins" "[Z", Cond.fieldLink RX8 117 "CodeImagesModel" "instructions" "I", Cond.methodLink RX8 114 yX8_wide, Cond.static yX8_wide] := goodIn_r _ [5, 8, 74, 75] (by decide +kernel) (by decide +kernel)
set_option maxRecDepth 20000 in
theorem ggX8_end_X8_readAll_3_s5 : GoodIn wsX8_end [Cond.code yX8_wide cX8_wide 1 (some .int)] := goodIn_co (List.mem_of_getElem? (i := 76) rfl) (Or.inl rfl) (fun _ h => absurd h List.not_mem_nil)
set_option maxRecDepth 20000 in
theorem ggX8_end_X8_readAll_3 : GoodIn wsX8_end wsX8_readAll_r3 := goodIn_app ggX8_end_X8_readAll_3_s0 (goodIn_app ggX8_end_X8_readAll_3_s1 (goodIn_app ggX8_end_X8_readAll_3_s2 (goodIn_app ggX8_end_X8_readAll_3_s3 (goodIn_app ggX8_end_X8_readAll_3_s4 ggX8_end_X8_readAll_3_s5))))
set_option maxRecDepth 20000 in
theorem ggX8_end_X8_readAll_0 : GoodIn wsX8_end wsX80 := goodIn_r _ [97, 98, 99, 100, 101, 102, 103, 104, 105, 106, 107, 108, 109, 110, 111, 112, 113, 114, 115, 116, 117, 118, 119, 120, 121, 122, 123, 124] (by decide +kernel) (by decide +kernel)
set_option maxRecDepth 20000 in
theorem ggX8_end_X8_readAll : GoodIn wsX8_end wsX8_readAll := goodIn_co (List.mem_of_getElem? (i := 15) rfl) (Or.inl rfl) (goodIn_app (goodIn_app ggX8_end_X8_readAll_1 (goodIn_app ggX8_end_X8_readAll_2 ggX8_end_X8_readAll_3)) ggX8_end_X8_readAll_0)
set_option maxRecDepth 20000 in
theorem gX8_end_X8_readAll : GoodIn wsX8_end (wsV RX8 146 RX8 yX8_readAll wsX8_readAll) := goodIn_app (goodIn_of _ (by decide +kernel)) ggX8_end_X8_readAll
set_option maxRecDepth 20000 in
theorem ggX8_end_X8_checkSlots : GoodIn wsX8_end wsX8_checkSlots := goodIn_r _ [80, 16, 44, 45, 41, 10, 18, 81, 82, 83, 14, 84, 19, 59, 58, 85, 86, 87, 88, 7, 97, 98, 99, 100, 101, 102, 103, 104, 105, 106, 107, 108, 109, 110, 111, 112, 113, 114, 115, 116, 117, 118, 119, 120, 121, 122, 123, 124] (by decide +kernel) (by decide +kernel)
set_option maxRecDepth 20000 in
theorem gX8_end_X8_checkSlots : GoodIn wsX8_end (wsV RX8 149 RX8 yX8_checkSlots wsX8_checkSlots) := goodIn_app (goodIn_of _ (by decide +kernel)) ggX8_end_X8_checkSlots
set_option maxRecDepth 20000 in
theorem ggX8_end_X8_checkCode : GoodIn wsX8_end wsX8_checkCode := goodIn_r _ [92, 63, 62, 5, 3, 10, 64, 65, 66, 67, 68, 14, 69, 93, 94, 95, 96, 85, 86, 87, 88, 7, 97, 98, 99, 100, 101, 102, 103, 104, 105, 106, 107, 108, 109, 110, 111, 112, 113, 114, 115, 116, 117, 118, 119, 120, 121, 122, 123, 124] (by decide +kernel) (by decide +kernel)
set_option maxRecDepth 20000 in
theorem gX8_end_X8_checkCode : GoodIn wsX8_end (wsV RX8 152 RX8 yX8_checkCode wsX8_checkCode) := goodIn_app (goodIn_of _ (by decide +kernel)) ggX8_end_X8_checkCode
theorem dX8_end_0 : decode cX8_end 0 = .ok (.iload_n 1, 1) := by decide +kernel
theorem dX8_end_1 : decode cX8_end 1 = .ok (.ifCond .lt 11, 3) := by decide +kernel
theorem dX8_end_4 : decode cX8_end 4 = .ok (.iload_n 1, 1) := by decide +kernel
theorem dX8_end_5 : decode cX8_end 5 = .ok (.aload_n 0, 1) := by decide +kernel
theorem dX8_end_6 : decode cX8_end 6 = .ok (.getfield 68, 3) := by decide +kernel
theorem dX8_end_9 : decode cX8_end 9 = .ok (.if_icmp .le 10, 3) := by decide +kernel
theorem dX8_end_12 : decode cX8_end 12 = .ok (.aload_n 0, 1) := by decide +kernel
theorem dX8_end_13 : decode cX8_end 13 = .ok (.iconst 0, 1) := by decide +kernel
theorem dX8_end_14 : decode cX8_end 14 = .ok (.putfield 68, 3) := by decide +kernel
theorem dX8_end_17 : decode cX8_end 17 = .ok (.iconst (-1), 1) := by decide +kernel
theorem dX8_end_18 : decode cX8_end 18 = .ok (.ireturn, 1) := by decide +kernel
