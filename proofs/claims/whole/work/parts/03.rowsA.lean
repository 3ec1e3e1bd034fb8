theorem dX0_init_0 : decode cX0_init 0 = .ok (.aload_n 0, 1) := by decide +kernel
theorem dX0_init_1 : decode cX0_init 1 = .ok (.invokespecial 3, 3) := by decide +kernel
theorem dX0_init_4 : decode cX0_init 4 = .ok (.aload_n 0, 1) := by decide +kernel
theorem dX0_init_5 : decode cX0_init 5 = .ok (.bipush 32, 2) := by decide +kernel
theorem dX0_init_7 : decode cX0_init 7 = .ok (.newarray .int, 2) := by decide +kernel
theorem dX0_init_9 : decode cX0_init 9 = .ok (.putfield 11, 3) := by decide +kernel
theorem dX0_init_12 : decode cX0_init 12 = .ok (.aload_n 0, 1) := by decide +kernel
theorem dX0_init_13 : decode cX0_init 13 = .ok (.bipush 32, 2) := by decide +kernel
theorem dX0_init_15 : decode cX0_init 15 = .ok (.newarray .int, 2) := by decide +kernel
theorem dX0_init_17 : decode cX0_init 17 = .ok (.putfield 15, 3) := by decide +kernel
theorem dX0_init_20 : decode cX0_init 20 = .ok (.aload_n 0, 1) := by decide +kernel
theorem dX0_init_21 : decode cX0_init 21 = .ok (.sipush 480, 3) := by decide +kernel
theorem dX0_init_24 : decode cX0_init 24 = .ok (.newarray .int, 2) := by decide +kernel
theorem dX0_init_26 : decode cX0_init 26 = .ok (.putfield 18, 3) := by decide +kernel
theorem dX0_init_29 : decode cX0_init 29 = .ok (.aload_n 0, 1) := by decide +kernel
theorem dX0_init_30 : decode cX0_init 30 = .ok (.sipush 512, 3) := by decide +kernel
theorem dX0_init_33 : decode cX0_init 33 = .ok (.newarray .int, 2) := by decide +kernel
theorem dX0_init_35 : decode cX0_init 35 = .ok (.putfield 21, 3) := by decide +kernel
theorem dX0_init_38 : decode cX0_init 38 = .ok (.aload_n 0, 1) := by decide +kernel
theorem dX0_init_39 : decode cX0_init 39 = .ok (.sipush 512, 3) := by decide +kernel
theorem dX0_init_42 : decode cX0_init 42 = .ok (.newarray .int, 2) := by decide +kernel
theorem dX0_init_44 : decode cX0_init 44 = .ok (.putfield 24, 3) := by decide +kernel
theorem dX0_init_47 : decode cX0_init 47 = .ok (.aload_n 0, 1) := by decide +kernel
theorem dX0_init_48 : decode cX0_init 48 = .ok (.iconst 5, 1) := by decide +kernel
theorem dX0_init_49 : decode cX0_init 49 = .ok (.newarray .int, 2) := by decide +kernel
theorem dX0_init_51 : decode cX0_init 51 = .ok (.putfield 27, 3) := by decide +kernel
theorem dX0_init_54 : decode cX0_init 54 = .ok (.return_, 1) := by decide +kernel
theorem dX0_clear_0 : decode cX0_clear 0 = .ok (.aload_n 0, 1) := by decide +kernel
theorem dX0_clear_1 : decode cX0_clear 1 = .ok (.iconst 0, 1) := by decide +kernel
theorem dX0_clear_2 : decode cX0_clear 2 = .ok (.putfield 30, 3) := by decide +kernel
theorem dX0_clear_5 : decode cX0_clear 5 = .ok (.return_, 1) := by decide +kernel
theorem dX0_size_0 : decode cX0_size 0 = .ok (.aload_n 0, 1) := by decide +kernel
theorem dX0_size_1 : decode cX0_size 1 = .ok (.getfield 30, 3) := by decide +kernel
theorem dX0_size_4 : decode cX0_size 4 = .ok (.ireturn, 1) := by decide +kernel
theorem dX0_has_0 : decode cX0_has 0 = .ok (.iload_n 1, 1) := by decide +kernel
theorem dX0_has_1 : decode cX0_has 1 = .ok (.ifCond .lt 21, 3) := by decide +kernel
theorem dX0_has_4 : decode cX0_has 4 = .ok (.iload_n 1, 1) := by decide +kernel
theorem dX0_has_5 : decode cX0_has 5 = .ok (.aload_n 0, 1) := by decide +kernel
theorem dX0_has_6 : decode cX0_has 6 = .ok (.getfield 30, 3) := by decide +kernel
theorem dX0_has_9 : decode cX0_has 9 = .ok (.if_icmp .ge 13, 3) := by decide +kernel
theorem dX0_has_12 : decode cX0_has 12 = .ok (.iload_n 1, 1) := by decide +kernel
theorem dX0_has_13 : decode cX0_has 13 = .ok (.bipush 32, 2) := by decide +kernel
theorem dX0_has_15 : decode cX0_has 15 = .ok (.if_icmp .ge 7, 3) := by decide +kernel
theorem dX0_has_18 : decode cX0_has 18 = .ok (.iconst 1, 1) := by decide +kernel
theorem dX0_has_19 : decode cX0_has 19 = .ok (.goto 4, 3) := by decide +kernel
theorem dX0_has_22 : decode cX0_has 22 = .ok (.iconst 0, 1) := by decide +kernel
theorem dX0_has_23 : decode cX0_has 23 = .ok (.ireturn, 1) := by decide +kernel
set_option maxRecDepth 20000 in
theorem ggX0_read_X5_number : GoodIn wsX0_read wsX5_number := goodIn_r _ [11, 12, 13, 14, 15, 16, 10, 17, 18, 19, 86, 87, 88, 89] (by decide +kernel) (by decide +kernel)
set_option maxRecDepth 20000 in
theorem gX0_read_X5_number : GoodIn wsX0_read (wsV RX0 34 RX5 yX5_number wsX5_number) := goodIn_app (goodIn_of _ (by decide +kernel)) ggX0_read_X5_number
set_option maxRecDepth 20000 in
theorem ggX0_read_X5_stopped : GoodIn wsX0_read wsX5_stopped := goodIn_r _ [23, 13, 86, 87, 88, 89] (by decide +kernel) (by decide +kernel)
set_option maxRecDepth 20000 in
theorem gX0_read_X5_stopped : GoodIn wsX0_read (wsV RX0 45 RX5 yX5_stopped wsX5_stopped) := goodIn_app (goodIn_of _ (by decide +kernel)) ggX0_read_X5_stopped
set_option maxRecDepth 20000 in
theorem ggX0_read_X0_readClass : GoodIn wsX0_read wsX0_readClass := goodIn_r _ [28, 29, 30, 31, 32, 10, 33, 34, 35, 36, 37, 12, 14, 15, 16, 17, 18, 19, 38, 8, 9, 11, 13, 39, 40, 41, 27, 42, 1, 2, 3, 4, 43, 44, 45, 46, 47, 48, 49, 50, 51, 52, 53, 54, 5, 55, 56, 57, 58, 59, 60, 61, 62, 63, 64, 65, 66, 7, 20, 21, 22, 23, 67, 68, 69, 70, 71, 72, 73, 74, 75, 76, 77, 78, 79, 80, 81, 82, 83, 84, 85, 86, 87, 88, 89] (by decide +kernel) (by decide +kernel)
set_option maxRecDepth 20000 in
theorem gX0_read_X0_readClass : GoodIn wsX0_read (wsV RX0 49 RX0 yX0_readClass wsX0_readClass) := goodIn_app (goodIn_of _ (by decide +kernel)) ggX0_read_X0_readClass
theorem dX0_read_0 : decode cX0_read 0 = .ok (.aload_n 0, 1) := by decide +kernel
theorem dX0_read_1 : decode cX0_read 1 = .ok (.aload_n 1, 1) := by decide +kernel
theorem dX0_read_2 : decode cX0_read 2 = .ok (.iconst 1, 1) := by decide +kernel
theorem dX0_read_3 : decode cX0_read 3 = .ok (.bipush 32, 2) := by decide +kernel
theorem dX0_read_5 : decode cX0_read 5 = .ok (.invokevirtual 34, 3) := by decide +kernel
theorem dX0_read_8 : decode cX0_read 8 = .ok (.iconst 0, 1) := by decide +kernel
theorem dX0_read_9 : decode cX0_read 9 = .ok (.invokestatic 40, 3) := by decide +kernel
theorem dX0_read_12 : decode cX0_read 12 = .ok (.putfield 30, 3) := by decide +kernel
theorem dX0_read_15 : decode cX0_read 15 = .ok (.iconst 0, 1) := by decide +kernel
theorem dX0_read_16 : decode cX0_read 16 = .ok (.istore_n 2, 1) := by decide +kernel
theorem dX0_read_17 : decode cX0_read 17 = .ok (.iload_n 2, 1) := by decide +kernel
theorem dX0_read_18 : decode cX0_read 18 = .ok (.aload_n 0, 1) := by decide +kernel
theorem dX0_read_19 : decode cX0_read 19 = .ok (.getfield 30, 3) := by decide +kernel
theorem dX0_read_22 : decode cX0_read 22 = .ok (.if_icmp .ge 22, 3) := by decide +kernel
theorem dX0_read_25 : decode cX0_read 25 = .ok (.aload_n 1, 1) := by decide +kernel
theorem dX0_read_26 : decode cX0_read 26 = .ok (.invokevirtual 45, 3) := by decide +kernel
theorem dX0_read_29 : decode cX0_read 29 = .ok (.ifCond .ne 15, 3) := by decide +kernel
theorem dX0_read_32 : decode cX0_read 32 = .ok (.aload_n 0, 1) := by decide +kernel
theorem dX0_read_33 : decode cX0_read 33 = .ok (.aload_n 1, 1) := by decide +kernel
theorem dX0_read_34 : decode cX0_read 34 = .ok (.iload_n 2, 1) := by decide +kernel
theorem dX0_read_35 : decode cX0_read 35 = .ok (.invokevirtual 49, 3) := by decide +kernel
theorem dX0_read_38 : decode cX0_read 38 = .ok (.iinc 2 1, 3) := by decide +kernel
theorem dX0_read_41 : decode cX0_read 41 = .ok (.goto (-24), 3) := by decide +kernel
theorem dX0_read_44 : decode cX0_read 44 = .ok (.iconst 0, 1) := by decide +kernel
theorem dX0_read_45 : decode cX0_read 45 = .ok (.istore_n 2, 1) := by decide +kernel
theorem dX0_read_46 : decode cX0_read 46 = .ok (.iload_n 2, 1) := by decide +kernel
theorem dX0_read_47 : decode cX0_read 47 = .ok (.iconst 5, 1) := by decide +kernel
theorem dX0_read_48 : decode cX0_read 48 = .ok (.if_icmp .ge 26, 3) := by decide +kernel
theorem dX0_read_51 : decode cX0_read 51 = .ok (.aload_n 0, 1) := by decide +kernel
theorem dX0_read_52 : decode cX0_read 52 = .ok (.getfield 27, 3) := by decide +kernel
theorem dX0_read_55 : decode cX0_read 55 = .ok (.iload_n 2, 1) := by decide +kernel
theorem dX0_read_56 : decode cX0_read 56 = .ok (.aload_n 1, 1) := by decide +kernel
theorem dX0_read_57 : decode cX0_read 57 = .ok (.iconst 0, 1) := by decide +kernel
theorem dX0_read_58 : decode cX0_read 58 = .ok (.aload_n 0, 1) := by decide +kernel
theorem dX0_read_59 : decode cX0_read 59 = .ok (.getfield 30, 3) := by decide +kernel
theorem dX0_read_62 : decode cX0_read 62 = .ok (.iconst 1, 1) := by decide +kernel
theorem dX0_read_63 : decode cX0_read 63 = .ok (.isub, 1) := by decide +kernel
theorem dX0_read_64 : decode cX0_read 64 = .ok (.invokevirtual 34, 3) := by decide +kernel
theorem dX0_read_67 : decode cX0_read 67 = .ok (.iastore, 1) := by decide +kernel
theorem dX0_read_68 : decode cX0_read 68 = .ok (.iinc 2 1, 3) := by decide +kernel
theorem dX0_read_71 : decode cX0_read 71 = .ok (.goto (-25), 3) := by decide +kernel
theorem dX0_read_74 : decode cX0_read 74 = .ok (.return_, 1) := by decide +kernel
set_option maxRecDepth 20000 in
theorem ggX0_readClass_X5_numberOrNothing : GoodIn wsX0_readClass wsX5_numberOrNothing := goodIn_r _ [6, 7, 8, 9, 5, 10, 11, 12, 13, 14, 15, 16, 17, 18, 19, 20, 21, 22, 81, 82, 83, 84] (by decide +kernel) (by decide +kernel)
set_option maxRecDepth 20000 in
theorem gX0_readClass_X5_numberOrNothing : GoodIn wsX0_readClass (wsV RX0 53 RX5 yX5_numberOrNothing wsX5_numberOrNothing) := goodIn_app (goodIn_of _ (by decide +kernel)) ggX0_readClass_X5_numberOrNothing
set_option maxRecDepth 20000 in
theorem ggX0_readClass_X0_inherit : GoodIn wsX0_readClass wsX0_inherit := goodIn_r _ [27, 1, 28, 29, 30, 31, 32, 33, 34, 35, 36, 37, 38, 26, 39, 40, 41, 42, 43, 44, 45, 46, 47, 48, 49, 50, 51, 52, 74, 75, 76, 77, 78, 79, 80] (by decide +kernel) (by decide +kernel)
set_option maxRecDepth 20000 in
theorem gX0_readClass_X0_inherit : GoodIn wsX0_readClass (wsV RX0 57 RX0 yX0_inherit wsX0_inherit) := goodIn_app (goodIn_of _ (by decide +kernel)) ggX0_readClass_X0_inherit
set_option maxRecDepth 20000 in
theorem ggX0_readClass_X0_readFields : GoodIn wsX0_readClass wsX0_readFields := goodIn_r _ [56, 32, 33, 44, 28, 29, 30, 31, 57, 19, 20, 5, 21, 11, 22, 12, 13, 14, 15, 16, 17, 58, 59, 60, 61, 62, 63, 64, 65, 7, 8, 9, 10, 18, 74, 75, 76, 77, 78, 79, 80, 81, 82, 83, 84] (by decide +kernel) (by decide +kernel)
set_option maxRecDepth 20000 in
theorem gX0_readClass_X0_readFields : GoodIn wsX0_readClass (wsV RX0 61 RX0 yX0_readFields wsX0_readFields) := goodIn_app (goodIn_of _ (by decide +kernel)) ggX0_readClass_X0_readFields
set_option maxRecDepth 20000 in
theorem ggX0_readClass_X0_readSlots : GoodIn wsX0_readClass wsX0_readSlots := goodIn_r _ [69, 34, 35, 57, 19, 20, 5, 21, 11, 22, 12, 13, 14, 15, 16, 17, 70, 71, 72, 73, 58, 59, 60, 61, 74, 75, 76, 77, 78, 79, 80, 81, 82, 83, 84] (by decide +kernel) (by decide +kernel)
set_option maxRecDepth 20000 in
theorem gX0_readClass_X0_readSlots : GoodIn wsX0_readClass (wsV RX0 64 RX0 yX0_readSlots wsX0_readSlots) := goodIn_app (goodIn_of _ (by decide +kernel)) ggX0_readClass_X0_readSlots
theorem dX0_readClass_0 : decode cX0_readClass 0 = .ok (.aload_n 1, 1) := by decide +kernel
theorem dX0_readClass_1 : decode cX0_readClass 1 = .ok (.iload_n 2, 1) := by decide +kernel
theorem dX0_readClass_2 : decode cX0_readClass 2 = .ok (.iconst 1, 1) := by decide +kernel
theorem dX0_readClass_3 : decode cX0_readClass 3 = .ok (.isub, 1) := by decide +kernel
theorem dX0_readClass_4 : decode cX0_readClass 4 = .ok (.invokevirtual 53, 3) := by decide +kernel
theorem dX0_readClass_7 : decode cX0_readClass 7 = .ok (.istore_n 3, 1) := by decide +kernel
theorem dX0_readClass_8 : decode cX0_readClass 8 = .ok (.aload_n 0, 1) := by decide +kernel
theorem dX0_readClass_9 : decode cX0_readClass 9 = .ok (.getfield 11, 3) := by decide +kernel
theorem dX0_readClass_12 : decode cX0_readClass 12 = .ok (.iload_n 2, 1) := by decide +kernel
theorem dX0_readClass_13 : decode cX0_readClass 13 = .ok (.iload_n 3, 1) := by decide +kernel
theorem dX0_readClass_14 : decode cX0_readClass 14 = .ok (.sipush 255, 3) := by decide +kernel
theorem dX0_readClass_17 : decode cX0_readClass 17 = .ok (.if_icmp .ne 7, 3) := by decide +kernel
theorem dX0_readClass_20 : decode cX0_readClass 20 = .ok (.iconst (-1), 1) := by decide +kernel
theorem dX0_readClass_21 : decode cX0_readClass 21 = .ok (.goto 4, 3) := by decide +kernel
theorem dX0_readClass_24 : decode cX0_readClass 24 = .ok (.iload_n 3, 1) := by decide +kernel
theorem dX0_readClass_25 : decode cX0_readClass 25 = .ok (.iastore, 1) := by decide +kernel
theorem dX0_readClass_26 : decode cX0_readClass 26 = .ok (.aload_n 0, 1) := by decide +kernel
theorem dX0_readClass_27 : decode cX0_readClass 27 = .ok (.iload_n 2, 1) := by decide +kernel
theorem dX0_readClass_28 : decode cX0_readClass 28 = .ok (.invokevirtual 57, 3) := by decide +kernel
theorem dX0_readClass_31 : decode cX0_readClass 31 = .ok (.aload_n 0, 1) := by decide +kernel
theorem dX0_readClass_32 : decode cX0_readClass 32 = .ok (.aload_n 1, 1) := by decide +kernel
theorem dX0_readClass_33 : decode cX0_readClass 33 = .ok (.iload_n 2, 1) := by decide +kernel
theorem dX0_readClass_34 : decode cX0_readClass 34 = .ok (.invokevirtual 61, 3) := by decide +kernel
theorem dX0_readClass_37 : decode cX0_readClass 37 = .ok (.aload_n 0, 1) := by decide +kernel
theorem dX0_readClass_38 : decode cX0_readClass 38 = .ok (.aload_n 1, 1) := by decide +kernel
theorem dX0_readClass_39 : decode cX0_readClass 39 = .ok (.iload_n 2, 1) := by decide +kernel
theorem dX0_readClass_40 : decode cX0_readClass 40 = .ok (.invokevirtual 64, 3) := by decide +kernel
theorem dX0_readClass_43 : decode cX0_readClass 43 = .ok (.return_, 1) := by decide +kernel
set_option maxRecDepth 20000 in
theorem ggX0_inherit_X0_fields : GoodIn wsX0_inherit wsX0_fields := goodIn_r _ [14, 6, 15, 16, 17, 13, 18, 19, 28, 29, 30, 31, 32, 33, 34] (by decide +kernel) (by decide +kernel)
set_option maxRecDepth 20000 in
theorem gX0_inherit_X0_fields : GoodIn wsX0_inherit (wsV RX0 67 RX0 yX0_fields wsX0_fields) := goodIn_app (goodIn_of _ (by decide +kernel)) ggX0_inherit_X0_fields
set_option maxRecDepth 20000 in
theorem ggX0_inherit_X0_fieldType : GoodIn wsX0_inherit wsX0_fieldType := goodIn_r _ [23, 7, 10, 11, 12, 13, 14, 6, 15, 16, 17, 18, 19, 28, 29, 30, 31, 32, 33, 34] (by decide +kernel) (by decide +kernel)
set_option maxRecDepth 20000 in
theorem gX0_inherit_X0_fieldType : GoodIn wsX0_inherit (wsV RX0 70 RX0 yX0_fieldType wsX0_fieldType) := goodIn_app (goodIn_of _ (by decide +kernel)) ggX0_inherit_X0_fieldType
set_option maxRecDepth 20000 in
theorem ggX0_inherit_X0_slotMethod : GoodIn wsX0_inherit wsX0_slotMethod := goodIn_r _ [27, 8, 15, 16, 17, 13, 18, 19, 28, 29, 30, 31, 32, 33, 34] (by decide +kernel) (by decide +kernel)
set_option maxRecDepth 20000 in
theorem gX0_inherit_X0_slotMethod : GoodIn wsX0_inherit (wsV RX0 73 RX0 yX0_slotMethod wsX0_slotMethod) := goodIn_app (goodIn_of _ (by decide +kernel)) ggX0_inherit_X0_slotMethod
theorem dX0_inherit_0 : decode cX0_inherit 0 = .ok (.aload_n 0, 1) := by decide +kernel
theorem dX0_inherit_1 : decode cX0_inherit 1 = .ok (.getfield 11, 3) := by decide +kernel
theorem dX0_inherit_4 : decode cX0_inherit 4 = .ok (.iload_n 1, 1) := by decide +kernel
theorem dX0_inherit_5 : decode cX0_inherit 5 = .ok (.iaload, 1) := by decide +kernel
theorem dX0_inherit_6 : decode cX0_inherit 6 = .ok (.istore_n 2, 1) := by decide +kernel
theorem dX0_inherit_7 : decode cX0_inherit 7 = .ok (.aload_n 0, 1) := by decide +kernel
theorem dX0_inherit_8 : decode cX0_inherit 8 = .ok (.iload_n 2, 1) := by decide +kernel
theorem dX0_inherit_9 : decode cX0_inherit 9 = .ok (.invokevirtual 67, 3) := by decide +kernel
theorem dX0_inherit_12 : decode cX0_inherit 12 = .ok (.iconst 0, 1) := by decide +kernel
theorem dX0_inherit_13 : decode cX0_inherit 13 = .ok (.invokestatic 40, 3) := by decide +kernel
theorem dX0_inherit_16 : decode cX0_inherit 16 = .ok (.istore_n 3, 1) := by decide +kernel
theorem dX0_inherit_17 : decode cX0_inherit 17 = .ok (.aload_n 0, 1) := by decide +kernel
theorem dX0_inherit_18 : decode cX0_inherit 18 = .ok (.getfield 15, 3) := by decide +kernel
theorem dX0_inherit_21 : decode cX0_inherit 21 = .ok (.iload_n 1, 1) := by decide +kernel
theorem dX0_inherit_22 : decode cX0_inherit 22 = .ok (.iload_n 3, 1) := by decide +kernel
theorem dX0_inherit_23 : decode cX0_inherit 23 = .ok (.iastore, 1) := by decide +kernel
theorem dX0_inherit_24 : decode cX0_inherit 24 = .ok (.iconst 0, 1) := by decide +kernel
theorem dX0_inherit_25 : decode cX0_inherit 25 = .ok (.istore 4, 2) := by decide +kernel
theorem dX0_inherit_27 : decode cX0_inherit 27 = .ok (.iload 4, 2) := by decide +kernel
theorem dX0_inherit_29 : decode cX0_inherit 29 = .ok (.iload_n 3, 1) := by decide +kernel
theorem dX0_inherit_30 : decode cX0_inherit 30 = .ok (.if_icmp .ge 28, 3) := by decide +kernel
theorem dX0_inherit_33 : decode cX0_inherit 33 = .ok (.aload_n 0, 1) := by decide +kernel
theorem dX0_inherit_34 : decode cX0_inherit 34 = .ok (.getfield 18, 3) := by decide +kernel
theorem dX0_inherit_37 : decode cX0_inherit 37 = .ok (.iload_n 1, 1) := by decide +kernel
theorem dX0_inherit_38 : decode cX0_inherit 38 = .ok (.bipush 15, 2) := by decide +kernel
theorem dX0_inherit_40 : decode cX0_inherit 40 = .ok (.imul, 1) := by decide +kernel
theorem dX0_inherit_41 : decode cX0_inherit 41 = .ok (.iload 4, 2) := by decide +kernel
theorem dX0_inherit_43 : decode cX0_inherit 43 = .ok (.iadd, 1) := by decide +kernel
theorem dX0_inherit_44 : decode cX0_inherit 44 = .ok (.aload_n 0, 1) := by decide +kernel
theorem dX0_inherit_45 : decode cX0_inherit 45 = .ok (.iload_n 2, 1) := by decide +kernel
theorem dX0_inherit_46 : decode cX0_inherit 46 = .ok (.iload 4, 2) := by decide +kernel
theorem dX0_inherit_48 : decode cX0_inherit 48 = .ok (.invokevirtual 70, 3) := by decide +kernel
theorem dX0_inherit_51 : decode cX0_inherit 51 = .ok (.iastore, 1) := by decide +kernel
theorem dX0_inherit_52 : decode cX0_inherit 52 = .ok (.iinc 4 1, 3) := by decide +kernel
theorem dX0_inherit_55 : decode cX0_inherit 55 = .ok (.goto (-28), 3) := by decide +kernel
theorem dX0_inherit_58 : decode cX0_inherit 58 = .ok (.iconst 0, 1) := by decide +kernel
theorem dX0_inherit_59 : decode cX0_inherit 59 = .ok (.istore 4, 2) := by decide +kernel
theorem dX0_inherit_61 : decode cX0_inherit 61 = .ok (.iload 4, 2) := by decide +kernel
theorem dX0_inherit_63 : decode cX0_inherit 63 = .ok (.bipush 16, 2) := by decide +kernel
theorem dX0_inherit_65 : decode cX0_inherit 65 = .ok (.if_icmp .ge 41, 3) := by decide +kernel
theorem dX0_inherit_68 : decode cX0_inherit 68 = .ok (.aload_n 0, 1) := by decide +kernel
theorem dX0_inherit_69 : decode cX0_inherit 69 = .ok (.getfield 21, 3) := by decide +kernel
theorem dX0_inherit_72 : decode cX0_inherit 72 = .ok (.iload_n 1, 1) := by decide +kernel
theorem dX0_inherit_73 : decode cX0_inherit 73 = .ok (.bipush 16, 2) := by decide +kernel
theorem dX0_inherit_75 : decode cX0_inherit 75 = .ok (.imul, 1) := by decide +kernel
theorem dX0_inherit_76 : decode cX0_inherit 76 = .ok (.iload 4, 2) := by decide +kernel
theorem dX0_inherit_78 : decode cX0_inherit 78 = .ok (.iadd, 1) := by decide +kernel
theorem dX0_inherit_79 : decode cX0_inherit 79 = .ok (.aload_n 0, 1) := by decide +kernel
theorem dX0_inherit_80 : decode cX0_inherit 80 = .ok (.iload_n 2, 1) := by decide +kernel
theorem dX0_inherit_81 : decode cX0_inherit 81 = .ok (.iload 4, 2) := by decide +kernel
theorem dX0_inherit_83 : decode cX0_inherit 83 = .ok (.invokevirtual 73, 3) := by decide +kernel
theorem dX0_inherit_86 : decode cX0_inherit 86 = .ok (.iastore, 1) := by decide +kernel
theorem dX0_inherit_87 : decode cX0_inherit 87 = .ok (.aload_n 0, 1) := by decide +kernel
theorem dX0_inherit_88 : decode cX0_inherit 88 = .ok (.getfield 24, 3) := by decide +kernel
theorem dX0_inherit_91 : decode cX0_inherit 91 = .ok (.iload_n 1, 1) := by decide +kernel
theorem dX0_inherit_92 : decode cX0_inherit 92 = .ok (.bipush 16, 2) := by decide +kernel
theorem dX0_inherit_94 : decode cX0_inherit 94 = .ok (.imul, 1) := by decide +kernel
theorem dX0_inherit_95 : decode cX0_inherit 95 = .ok (.iload 4, 2) := by decide +kernel
theorem dX0_inherit_97 : decode cX0_inherit 97 = .ok (.iadd, 1) := by decide +kernel
theorem dX0_inherit_98 : decode cX0_inherit 98 = .ok (.iconst (-1), 1) := by decide +kernel
theorem dX0_inherit_99 : decode cX0_inherit 99 = .ok (.iastore, 1) := by decide +kernel
theorem dX0_inherit_100 : decode cX0_inherit 100 = .ok (.iinc 4 1, 3) := by decide +kernel
theorem dX0_inherit_103 : decode cX0_inherit 103 = .ok (.goto (-42), 3) := by decide +kernel
theorem dX0_inherit_106 : decode cX0_inherit 106 = .ok (.return_, 1) := by decide +kernel
set_option maxRecDepth 20000 in
theorem ggX0_readFields_X5_number : GoodIn wsX0_readFields wsX5_number := goodIn_r _ [12, 13, 14, 15, 16, 17, 11, 18, 19, 20, 41, 42, 43, 44] (by decide +kernel) (by decide +kernel)
set_option maxRecDepth 20000 in
theorem gX0_readFields_X5_number : GoodIn wsX0_readFields (wsV RX0 34 RX5 yX5_number wsX5_number) := goodIn_app (goodIn_of _ (by decide +kernel)) ggX0_readFields_X5_number
set_option maxRecDepth 20000 in
theorem ggX0_readFields_X5_stopped : GoodIn wsX0_readFields wsX5_stopped := goodIn_r _ [24, 14, 41, 42, 43, 44] (by decide +kernel) (by decide +kernel)
set_option maxRecDepth 20000 in
theorem gX0_readFields_X5_stopped : GoodIn wsX0_readFields (wsV RX0 45 RX5 yX5_stopped wsX5_stopped) := goodIn_app (goodIn_of _ (by decide +kernel)) ggX0_readFields_X5_stopped
set_option maxRecDepth 20000 in
theorem ggX0_readFields_X5_type : GoodIn wsX0_readFields wsX5_type := goodIn_r _ [28, 29, 30, 31, 11, 32, 13, 15, 16, 17, 18, 19, 20, 33, 9, 10, 12, 14, 41, 42, 43, 44] (by decide +kernel) (by decide +kernel)
set_option maxRecDepth 20000 in
theorem gX0_readFields_X5_type : GoodIn wsX0_readFields (wsV RX0 76 RX5 yX5_type wsX5_type) := goodIn_app (goodIn_of _ (by decide +kernel)) ggX0_readFields_X5_type
theorem dX0_readFields_0 : decode cX0_readFields 0 = .ok (.aload_n 0, 1) := by decide +kernel
theorem dX0_readFields_1 : decode cX0_readFields 1 = .ok (.getfield 15, 3) := by decide +kernel
theorem dX0_readFields_4 : decode cX0_readFields 4 = .ok (.iload_n 2, 1) := by decide +kernel
theorem dX0_readFields_5 : decode cX0_readFields 5 = .ok (.iaload, 1) := by decide +kernel
theorem dX0_readFields_6 : decode cX0_readFields 6 = .ok (.istore_n 3, 1) := by decide +kernel
theorem dX0_readFields_7 : decode cX0_readFields 7 = .ok (.aload_n 1, 1) := by decide +kernel
theorem dX0_readFields_8 : decode cX0_readFields 8 = .ok (.iconst 0, 1) := by decide +kernel
theorem dX0_readFields_9 : decode cX0_readFields 9 = .ok (.bipush 15, 2) := by decide +kernel
theorem dX0_readFields_11 : decode cX0_readFields 11 = .ok (.iload_n 3, 1) := by decide +kernel
theorem dX0_readFields_12 : decode cX0_readFields 12 = .ok (.isub, 1) := by decide +kernel
theorem dX0_readFields_13 : decode cX0_readFields 13 = .ok (.invokevirtual 34, 3) := by decide +kernel
theorem dX0_readFields_16 : decode cX0_readFields 16 = .ok (.istore 4, 2) := by decide +kernel
theorem dX0_readFields_18 : decode cX0_readFields 18 = .ok (.iconst 0, 1) := by decide +kernel
theorem dX0_readFields_19 : decode cX0_readFields 19 = .ok (.istore 5, 2) := by decide +kernel
theorem dX0_readFields_21 : decode cX0_readFields 21 = .ok (.iload 5, 2) := by decide +kernel
theorem dX0_readFields_23 : decode cX0_readFields 23 = .ok (.iload 4, 2) := by decide +kernel
theorem dX0_readFields_25 : decode cX0_readFields 25 = .ok (.if_icmp .ge 38, 3) := by decide +kernel
theorem dX0_readFields_28 : decode cX0_readFields 28 = .ok (.aload_n 1, 1) := by decide +kernel
theorem dX0_readFields_29 : decode cX0_readFields 29 = .ok (.invokevirtual 45, 3) := by decide +kernel
theorem dX0_readFields_32 : decode cX0_readFields 32 = .ok (.ifCond .ne 31, 3) := by decide +kernel
theorem dX0_readFields_35 : decode cX0_readFields 35 = .ok (.aload_n 0, 1) := by decide +kernel
theorem dX0_readFields_36 : decode cX0_readFields 36 = .ok (.getfield 18, 3) := by decide +kernel
theorem dX0_readFields_39 : decode cX0_readFields 39 = .ok (.iload_n 2, 1) := by decide +kernel
theorem dX0_readFields_40 : decode cX0_readFields 40 = .ok (.bipush 15, 2) := by decide +kernel
theorem dX0_readFields_42 : decode cX0_readFields 42 = .ok (.imul, 1) := by decide +kernel
theorem dX0_readFields_43 : decode cX0_readFields 43 = .ok (.iload_n 3, 1) := by decide +kernel
theorem dX0_readFields_44 : decode cX0_readFields 44 = .ok (.iadd, 1) := by decide +kernel
theorem dX0_readFields_45 : decode cX0_readFields 45 = .ok (.iload 5, 2) := by decide +kernel
theorem dX0_readFields_47 : decode cX0_readFields 47 = .ok (.iadd, 1) := by decide +kernel
theorem dX0_readFields_48 : decode cX0_readFields 48 = .ok (.aload_n 1, 1) := by decide +kernel
theorem dX0_readFields_49 : decode cX0_readFields 49 = .ok (.aload_n 0, 1) := by decide +kernel
theorem dX0_readFields_50 : decode cX0_readFields 50 = .ok (.getfield 30, 3) := by decide +kernel
theorem dX0_readFields_53 : decode cX0_readFields 53 = .ok (.invokevirtual 76, 3) := by decide +kernel
theorem dX0_readFields_56 : decode cX0_readFields 56 = .ok (.iastore, 1) := by decide +kernel
theorem dX0_readFields_57 : decode cX0_readFields 57 = .ok (.iinc 5 1, 3) := by decide +kernel
theorem dX0_readFields_60 : decode cX0_readFields 60 = .ok (.goto (-39), 3) := by decide +kernel
theorem dX0_readFields_63 : decode cX0_readFields 63 = .ok (.aload_n 0, 1) := by decide +kernel
theorem dX0_readFields_64 : decode cX0_readFields 64 = .ok (.getfield 15, 3) := by decide +kernel
theorem dX0_readFields_67 : decode cX0_readFields 67 = .ok (.iload_n 2, 1) := by decide +kernel
theorem dX0_readFields_68 : decode cX0_readFields 68 = .ok (.iload_n 3, 1) := by decide +kernel
theorem dX0_readFields_69 : decode cX0_readFields 69 = .ok (.iload 4, 2) := by decide +kernel
theorem dX0_readFields_71 : decode cX0_readFields 71 = .ok (.iconst 0, 1) := by decide +kernel
theorem dX0_readFields_72 : decode cX0_readFields 72 = .ok (.invokestatic 40, 3) := by decide +kernel
theorem dX0_readFields_75 : decode cX0_readFields 75 = .ok (.iadd, 1) := by decide +kernel
theorem dX0_readFields_76 : decode cX0_readFields 76 = .ok (.iastore, 1) := by decide +kernel
theorem dX0_readFields_77 : decode cX0_readFields 77 = .ok (.return_, 1) := by decide +kernel
set_option maxRecDepth 20000 in
theorem ggX0_readSlots_X5_number : GoodIn wsX0_readSlots wsX5_number := goodIn_r _ [7, 8, 9, 10, 11, 12, 6, 13, 14, 15, 31, 32, 33, 34] (by decide +kernel) (by decide +kernel)
set_option maxRecDepth 20000 in
theorem gX0_readSlots_X5_number : GoodIn wsX0_readSlots (wsV RX0 34 RX5 yX5_number wsX5_number) := goodIn_app (goodIn_of _ (by decide +kernel)) ggX0_readSlots_X5_number
set_option maxRecDepth 20000 in
theorem ggX0_readSlots_X5_place : GoodIn wsX0_readSlots wsX5_place := goodIn_r _ [19, 8, 31, 32, 33, 34] (by decide +kernel) (by decide +kernel)
set_option maxRecDepth 20000 in
theorem gX0_readSlots_X5_place : GoodIn wsX0_readSlots (wsV RX0 79 RX5 yX5_place wsX5_place) := goodIn_app (goodIn_of _ (by decide +kernel)) ggX0_readSlots_X5_place
set_option maxRecDepth 20000 in
theorem ggX0_readSlots_X5_stopped : GoodIn wsX0_readSlots wsX5_stopped := goodIn_r _ [23, 9, 31, 32, 33, 34] (by decide +kernel) (by decide +kernel)
set_option maxRecDepth 20000 in
theorem gX0_readSlots_X5_stopped : GoodIn wsX0_readSlots (wsV RX0 45 RX5 yX5_stopped wsX5_stopped) := goodIn_app (goodIn_of _ (by decide +kernel)) ggX0_readSlots_X5_stopped
theorem dX0_readSlots_0 : decode cX0_readSlots 0 = .ok (.aload_n 1, 1) := by decide +kernel
theorem dX0_readSlots_1 : decode cX0_readSlots 1 = .ok (.iconst 0, 1) := by decide +kernel
theorem dX0_readSlots_2 : decode cX0_readSlots 2 = .ok (.bipush 16, 2) := by decide +kernel
theorem dX0_readSlots_4 : decode cX0_readSlots 4 = .ok (.invokevirtual 34, 3) := by decide +kernel
theorem dX0_readSlots_7 : decode cX0_readSlots 7 = .ok (.istore_n 3, 1) := by decide +kernel
theorem dX0_readSlots_8 : decode cX0_readSlots 8 = .ok (.iconst 0, 1) := by decide +kernel
theorem dX0_readSlots_9 : decode cX0_readSlots 9 = .ok (.istore 4, 2) := by decide +kernel
theorem dX0_readSlots_11 : decode cX0_readSlots 11 = .ok (.iconst 0, 1) := by decide +kernel
theorem dX0_readSlots_12 : decode cX0_readSlots 12 = .ok (.istore 5, 2) := by decide +kernel
theorem dX0_readSlots_14 : decode cX0_readSlots 14 = .ok (.iload 5, 2) := by decide +kernel
theorem dX0_readSlots_16 : decode cX0_readSlots 16 = .ok (.iload_n 3, 1) := by decide +kernel
theorem dX0_readSlots_17 : decode cX0_readSlots 17 = .ok (.if_icmp .ge 77, 3) := by decide +kernel
theorem dX0_readSlots_20 : decode cX0_readSlots 20 = .ok (.aload_n 1, 1) := by decide +kernel
theorem dX0_readSlots_21 : decode cX0_readSlots 21 = .ok (.iload 4, 2) := by decide +kernel
theorem dX0_readSlots_23 : decode cX0_readSlots 23 = .ok (.bipush 15, 2) := by decide +kernel
theorem dX0_readSlots_25 : decode cX0_readSlots 25 = .ok (.invokevirtual 34, 3) := by decide +kernel
theorem dX0_readSlots_28 : decode cX0_readSlots 28 = .ok (.istore 6, 2) := by decide +kernel
theorem dX0_readSlots_30 : decode cX0_readSlots 30 = .ok (.aload_n 1, 1) := by decide +kernel
theorem dX0_readSlots_31 : decode cX0_readSlots 31 = .ok (.invokevirtual 79, 3) := by decide +kernel
theorem dX0_readSlots_34 : decode cX0_readSlots 34 = .ok (.istore 7, 2) := by decide +kernel
theorem dX0_readSlots_36 : decode cX0_readSlots 36 = .ok (.aload_n 1, 1) := by decide +kernel
theorem dX0_readSlots_37 : decode cX0_readSlots 37 = .ok (.iconst 0, 1) := by decide +kernel
theorem dX0_readSlots_38 : decode cX0_readSlots 38 = .ok (.sipush 255, 3) := by decide +kernel
theorem dX0_readSlots_41 : decode cX0_readSlots 41 = .ok (.invokevirtual 34, 3) := by decide +kernel
theorem dX0_readSlots_44 : decode cX0_readSlots 44 = .ok (.istore 8, 2) := by decide +kernel
theorem dX0_readSlots_46 : decode cX0_readSlots 46 = .ok (.aload_n 1, 1) := by decide +kernel
theorem dX0_readSlots_47 : decode cX0_readSlots 47 = .ok (.invokevirtual 45, 3) := by decide +kernel
theorem dX0_readSlots_50 : decode cX0_readSlots 50 = .ok (.ifCond .eq 4, 3) := by decide +kernel
theorem dX0_readSlots_53 : decode cX0_readSlots 53 = .ok (.return_, 1) := by decide +kernel
theorem dX0_readSlots_54 : decode cX0_readSlots 54 = .ok (.aload_n 0, 1) := by decide +kernel
theorem dX0_readSlots_55 : decode cX0_readSlots 55 = .ok (.getfield 21, 3) := by decide +kernel
theorem dX0_readSlots_58 : decode cX0_readSlots 58 = .ok (.iload_n 2, 1) := by decide +kernel
theorem dX0_readSlots_59 : decode cX0_readSlots 59 = .ok (.bipush 16, 2) := by decide +kernel
theorem dX0_readSlots_61 : decode cX0_readSlots 61 = .ok (.imul, 1) := by decide +kernel
theorem dX0_readSlots_62 : decode cX0_readSlots 62 = .ok (.iload 6, 2) := by decide +kernel
theorem dX0_readSlots_64 : decode cX0_readSlots 64 = .ok (.iadd, 1) := by decide +kernel
theorem dX0_readSlots_65 : decode cX0_readSlots 65 = .ok (.iload 8, 2) := by decide +kernel
theorem dX0_readSlots_67 : decode cX0_readSlots 67 = .ok (.iastore, 1) := by decide +kernel
theorem dX0_readSlots_68 : decode cX0_readSlots 68 = .ok (.aload_n 0, 1) := by decide +kernel
theorem dX0_readSlots_69 : decode cX0_readSlots 69 = .ok (.getfield 24, 3) := by decide +kernel
theorem dX0_readSlots_72 : decode cX0_readSlots 72 = .ok (.iload_n 2, 1) := by decide +kernel
theorem dX0_readSlots_73 : decode cX0_readSlots 73 = .ok (.bipush 16, 2) := by decide +kernel
theorem dX0_readSlots_75 : decode cX0_readSlots 75 = .ok (.imul, 1) := by decide +kernel
theorem dX0_readSlots_76 : decode cX0_readSlots 76 = .ok (.iload 6, 2) := by decide +kernel
theorem dX0_readSlots_78 : decode cX0_readSlots 78 = .ok (.iadd, 1) := by decide +kernel
theorem dX0_readSlots_79 : decode cX0_readSlots 79 = .ok (.iload 7, 2) := by decide +kernel
theorem dX0_readSlots_81 : decode cX0_readSlots 81 = .ok (.iastore, 1) := by decide +kernel
theorem dX0_readSlots_82 : decode cX0_readSlots 82 = .ok (.iload 6, 2) := by decide +kernel
theorem dX0_readSlots_84 : decode cX0_readSlots 84 = .ok (.iconst 1, 1) := by decide +kernel
theorem dX0_readSlots_85 : decode cX0_readSlots 85 = .ok (.iadd, 1) := by decide +kernel
theorem dX0_readSlots_86 : decode cX0_readSlots 86 = .ok (.istore 4, 2) := by decide +kernel
theorem dX0_readSlots_88 : decode cX0_readSlots 88 = .ok (.iinc 5 1, 3) := by decide +kernel
theorem dX0_readSlots_91 : decode cX0_readSlots 91 = .ok (.goto (-77), 3) := by decide +kernel
theorem dX0_readSlots_94 : decode cX0_readSlots 94 = .ok (.return_, 1) := by decide +kernel
set_option maxRecDepth 20000 in
theorem ggX0_upper_X0_has : GoodIn wsX0_upper wsX0_has := goodIn_r _ [6, 7, 8, 9, 10, 11, 12, 13, 14] (by decide +kernel) (by decide +kernel)
set_option maxRecDepth 20000 in
theorem gX0_upper_X0_has : GoodIn wsX0_upper (wsV RX0 83 RX0 yX0_has wsX0_has) := goodIn_app (goodIn_of _ (by decide +kernel)) ggX0_upper_X0_has
theorem dX0_upper_0 : decode cX0_upper 0 = .ok (.aload_n 0, 1) := by decide +kernel
theorem dX0_upper_1 : decode cX0_upper 1 = .ok (.iload_n 1, 1) := by decide +kernel
theorem dX0_upper_2 : decode cX0_upper 2 = .ok (.invokevirtual 83, 3) := by decide +kernel
theorem dX0_upper_5 : decode cX0_upper 5 = .ok (.ifCond .eq 12, 3) := by decide +kernel
theorem dX0_upper_8 : decode cX0_upper 8 = .ok (.aload_n 0, 1) := by decide +kernel
theorem dX0_upper_9 : decode cX0_upper 9 = .ok (.getfield 11, 3) := by decide +kernel
theorem dX0_upper_12 : decode cX0_upper 12 = .ok (.iload_n 1, 1) := by decide +kernel
theorem dX0_upper_13 : decode cX0_upper 13 = .ok (.iaload, 1) := by decide +kernel
theorem dX0_upper_14 : decode cX0_upper 14 = .ok (.goto 4, 3) := by decide +kernel
theorem dX0_upper_17 : decode cX0_upper 17 = .ok (.iconst (-1), 1) := by decide +kernel
theorem dX0_upper_18 : decode cX0_upper 18 = .ok (.ireturn, 1) := by decide +kernel
set_option maxRecDepth 20000 in
theorem ggX0_fields_X0_has : GoodIn wsX0_fields wsX0_has := goodIn_r _ [6, 7, 8, 9, 10, 11, 12, 13, 14] (by decide +kernel) (by decide +kernel)
set_option maxRecDepth 20000 in
theorem gX0_fields_X0_has : GoodIn wsX0_fields (wsV RX0 83 RX0 yX0_has wsX0_has) := goodIn_app (goodIn_of _ (by decide +kernel)) ggX0_fields_X0_has
theorem dX0_fields_0 : decode cX0_fields 0 = .ok (.aload_n 0, 1) := by decide +kernel
theorem dX0_fields_1 : decode cX0_fields 1 = .ok (.iload_n 1, 1) := by decide +kernel
theorem dX0_fields_2 : decode cX0_fields 2 = .ok (.invokevirtual 83, 3) := by decide +kernel
theorem dX0_fields_5 : decode cX0_fields 5 = .ok (.ifCond .eq 12, 3) := by decide +kernel
theorem dX0_fields_8 : decode cX0_fields 8 = .ok (.aload_n 0, 1) := by decide +kernel
theorem dX0_fields_9 : decode cX0_fields 9 = .ok (.getfield 15, 3) := by decide +kernel
theorem dX0_fields_12 : decode cX0_fields 12 = .ok (.iload_n 1, 1) := by decide +kernel
theorem dX0_fields_13 : decode cX0_fields 13 = .ok (.iaload, 1) := by decide +kernel
theorem dX0_fields_14 : decode cX0_fields 14 = .ok (.goto 4, 3) := by decide +kernel
theorem dX0_fields_17 : decode cX0_fields 17 = .ok (.iconst (-1), 1) := by decide +kernel
theorem dX0_fields_18 : decode cX0_fields 18 = .ok (.ireturn, 1) := by decide +kernel
set_option maxRecDepth 20000 in
theorem ggX0_fieldType_X0_fields : GoodIn wsX0_fieldType wsX0_fields := goodIn_r _ [6, 7, 8, 9, 10, 5, 11, 12, 13, 14, 15, 16, 17, 18, 19] (by decide +kernel) (by decide +kernel)
set_option maxRecDepth 20000 in
theorem gX0_fieldType_X0_fields : GoodIn wsX0_fieldType (wsV RX0 67 RX0 yX0_fields wsX0_fields) := goodIn_app (goodIn_of _ (by decide +kernel)) ggX0_fieldType_X0_fields
theorem dX0_fieldType_0 : decode cX0_fieldType 0 = .ok (.iload_n 2, 1) := by decide +kernel
theorem dX0_fieldType_1 : decode cX0_fieldType 1 = .ok (.ifCond .lt 26, 3) := by decide +kernel
theorem dX0_fieldType_4 : decode cX0_fieldType 4 = .ok (.iload_n 2, 1) := by decide +kernel
theorem dX0_fieldType_5 : decode cX0_fieldType 5 = .ok (.aload_n 0, 1) := by decide +kernel
theorem dX0_fieldType_6 : decode cX0_fieldType 6 = .ok (.iload_n 1, 1) := by decide +kernel
theorem dX0_fieldType_7 : decode cX0_fieldType 7 = .ok (.invokevirtual 67, 3) := by decide +kernel
theorem dX0_fieldType_10 : decode cX0_fieldType 10 = .ok (.if_icmp .ge 17, 3) := by decide +kernel
theorem dX0_fieldType_13 : decode cX0_fieldType 13 = .ok (.aload_n 0, 1) := by decide +kernel
theorem dX0_fieldType_14 : decode cX0_fieldType 14 = .ok (.getfield 18, 3) := by decide +kernel
theorem dX0_fieldType_17 : decode cX0_fieldType 17 = .ok (.iload_n 1, 1) := by decide +kernel
theorem dX0_fieldType_18 : decode cX0_fieldType 18 = .ok (.bipush 15, 2) := by decide +kernel
theorem dX0_fieldType_20 : decode cX0_fieldType 20 = .ok (.imul, 1) := by decide +kernel
theorem dX0_fieldType_21 : decode cX0_fieldType 21 = .ok (.iload_n 2, 1) := by decide +kernel
theorem dX0_fieldType_22 : decode cX0_fieldType 22 = .ok (.iadd, 1) := by decide +kernel
theorem dX0_fieldType_23 : decode cX0_fieldType 23 = .ok (.iaload, 1) := by decide +kernel
theorem dX0_fieldType_24 : decode cX0_fieldType 24 = .ok (.goto 4, 3) := by decide +kernel
theorem dX0_fieldType_27 : decode cX0_fieldType 27 = .ok (.iconst (-1), 1) := by decide +kernel
theorem dX0_fieldType_28 : decode cX0_fieldType 28 = .ok (.ireturn, 1) := by decide +kernel
set_option maxRecDepth 20000 in
theorem ggX0_slotMethod_X0_has : GoodIn wsX0_slotMethod wsX0_has := goodIn_r _ [6, 7, 8, 9, 10, 11, 12, 13, 14] (by decide +kernel) (by decide +kernel)
set_option maxRecDepth 20000 in
theorem gX0_slotMethod_X0_has : GoodIn wsX0_slotMethod (wsV RX0 83 RX0 yX0_has wsX0_has) := goodIn_app (goodIn_of _ (by decide +kernel)) ggX0_slotMethod_X0_has
theorem dX0_slotMethod_0 : decode cX0_slotMethod 0 = .ok (.aload_n 0, 1) := by decide +kernel
theorem dX0_slotMethod_1 : decode cX0_slotMethod 1 = .ok (.iload_n 1, 1) := by decide +kernel
theorem dX0_slotMethod_2 : decode cX0_slotMethod 2 = .ok (.invokevirtual 83, 3) := by decide +kernel
theorem dX0_slotMethod_5 : decode cX0_slotMethod 5 = .ok (.ifCond .eq 27, 3) := by decide +kernel
theorem dX0_slotMethod_8 : decode cX0_slotMethod 8 = .ok (.iload_n 2, 1) := by decide +kernel
theorem dX0_slotMethod_9 : decode cX0_slotMethod 9 = .ok (.ifCond .lt 23, 3) := by decide +kernel
theorem dX0_slotMethod_12 : decode cX0_slotMethod 12 = .ok (.iload_n 2, 1) := by decide +kernel
theorem dX0_slotMethod_13 : decode cX0_slotMethod 13 = .ok (.bipush 16, 2) := by decide +kernel
theorem dX0_slotMethod_15 : decode cX0_slotMethod 15 = .ok (.if_icmp .ge 17, 3) := by decide +kernel
theorem dX0_slotMethod_18 : decode cX0_slotMethod 18 = .ok (.aload_n 0, 1) := by decide +kernel
theorem dX0_slotMethod_19 : decode cX0_slotMethod 19 = .ok (.getfield 21, 3) := by decide +kernel
theorem dX0_slotMethod_22 : decode cX0_slotMethod 22 = .ok (.iload_n 1, 1) := by decide +kernel
theorem dX0_slotMethod_23 : decode cX0_slotMethod 23 = .ok (.bipush 16, 2) := by decide +kernel
theorem dX0_slotMethod_25 : decode cX0_slotMethod 25 = .ok (.imul, 1) := by decide +kernel
theorem dX0_slotMethod_26 : decode cX0_slotMethod 26 = .ok (.iload_n 2, 1) := by decide +kernel
theorem dX0_slotMethod_27 : decode cX0_slotMethod 27 = .ok (.iadd, 1) := by decide +kernel
theorem dX0_slotMethod_28 : decode cX0_slotMethod 28 = .ok (.iaload, 1) := by decide +kernel
theorem dX0_slotMethod_29 : decode cX0_slotMethod 29 = .ok (.goto 4, 3) := by decide +kernel
theorem dX0_slotMethod_32 : decode cX0_slotMethod 32 = .ok (.iconst (-1), 1) := by decide +kernel
theorem dX0_slotMethod_33 : decode cX0_slotMethod 33 = .ok (.ireturn, 1) := by decide +kernel
set_option maxRecDepth 20000 in
theorem ggX0_slotPlace_X0_has : GoodIn wsX0_slotPlace wsX0_has := goodIn_r _ [6, 7, 8, 9, 10, 11, 12, 13, 14] (by decide +kernel) (by decide +kernel)
set_option maxRecDepth 20000 in
theorem gX0_slotPlace_X0_has : GoodIn wsX0_slotPlace (wsV RX0 83 RX0 yX0_has wsX0_has) := goodIn_app (goodIn_of _ (by decide +kernel)) ggX0_slotPlace_X0_has
theorem dX0_slotPlace_0 : decode cX0_slotPlace 0 = .ok (.aload_n 0, 1) := by decide +kernel
theorem dX0_slotPlace_1 : decode cX0_slotPlace 1 = .ok (.iload_n 1, 1) := by decide +kernel
theorem dX0_slotPlace_2 : decode cX0_slotPlace 2 = .ok (.invokevirtual 83, 3) := by decide +kernel
theorem dX0_slotPlace_5 : decode cX0_slotPlace 5 = .ok (.ifCond .eq 27, 3) := by decide +kernel
theorem dX0_slotPlace_8 : decode cX0_slotPlace 8 = .ok (.iload_n 2, 1) := by decide +kernel
theorem dX0_slotPlace_9 : decode cX0_slotPlace 9 = .ok (.ifCond .lt 23, 3) := by decide +kernel
theorem dX0_slotPlace_12 : decode cX0_slotPlace 12 = .ok (.iload_n 2, 1) := by decide +kernel
theorem dX0_slotPlace_13 : decode cX0_slotPlace 13 = .ok (.bipush 16, 2) := by decide +kernel
theorem dX0_slotPlace_15 : decode cX0_slotPlace 15 = .ok (.if_icmp .ge 17, 3) := by decide +kernel
theorem dX0_slotPlace_18 : decode cX0_slotPlace 18 = .ok (.aload_n 0, 1) := by decide +kernel
theorem dX0_slotPlace_19 : decode cX0_slotPlace 19 = .ok (.getfield 24, 3) := by decide +kernel
theorem dX0_slotPlace_22 : decode cX0_slotPlace 22 = .ok (.iload_n 1, 1) := by decide +kernel
theorem dX0_slotPlace_23 : decode cX0_slotPlace 23 = .ok (.bipush 16, 2) := by decide +kernel
theorem dX0_slotPlace_25 : decode cX0_slotPlace 25 = .ok (.imul, 1) := by decide +kernel
theorem dX0_slotPlace_26 : decode cX0_slotPlace 26 = .ok (.iload_n 2, 1) := by decide +kernel
theorem dX0_slotPlace_27 : decode cX0_slotPlace 27 = .ok (.iadd, 1) := by decide +kernel
theorem dX0_slotPlace_28 : decode cX0_slotPlace 28 = .ok (.iaload, 1) := by decide +kernel
theorem dX0_slotPlace_29 : decode cX0_slotPlace 29 = .ok (.goto 4, 3) := by decide +kernel
theorem dX0_slotPlace_32 : decode cX0_slotPlace 32 = .ok (.iconst (-1), 1) := by decide +kernel
theorem dX0_slotPlace_33 : decode cX0_slotPlace 33 = .ok (.ireturn, 1) := by decide +kernel
set_option maxRecDepth 20000 in
theorem ggX0_reaches_X0_has : GoodIn wsX0_reaches wsX0_has := goodIn_r _ [6, 7, 8, 9, 10, 11, 12, 13, 14] (by decide +kernel) (by decide +kernel)
set_option maxRecDepth 20000 in
theorem gX0_reaches_X0_has : GoodIn wsX0_reaches (wsV RX0 83 RX0 yX0_has wsX0_has) := goodIn_app (goodIn_of _ (by decide +kernel)) ggX0_reaches_X0_has
theorem dX0_reaches_0 : decode cX0_reaches 0 = .ok (.iload_n 1, 1) := by decide +kernel
theorem dX0_reaches_1 : decode cX0_reaches 1 = .ok (.istore_n 3, 1) := by decide +kernel
theorem dX0_reaches_2 : decode cX0_reaches 2 = .ok (.iconst 0, 1) := by decide +kernel
theorem dX0_reaches_3 : decode cX0_reaches 3 = .ok (.istore 4, 2) := by decide +kernel
theorem dX0_reaches_5 : decode cX0_reaches 5 = .ok (.iload 4, 2) := by decide +kernel
theorem dX0_reaches_7 : decode cX0_reaches 7 = .ok (.bipush 32, 2) := by decide +kernel
theorem dX0_reaches_9 : decode cX0_reaches 9 = .ok (.if_icmp .ge 31, 3) := by decide +kernel
theorem dX0_reaches_12 : decode cX0_reaches 12 = .ok (.aload_n 0, 1) := by decide +kernel
theorem dX0_reaches_13 : decode cX0_reaches 13 = .ok (.iload_n 3, 1) := by decide +kernel
theorem dX0_reaches_14 : decode cX0_reaches 14 = .ok (.invokevirtual 83, 3) := by decide +kernel
theorem dX0_reaches_17 : decode cX0_reaches 17 = .ok (.ifCond .eq 23, 3) := by decide +kernel
theorem dX0_reaches_20 : decode cX0_reaches 20 = .ok (.iload_n 3, 1) := by decide +kernel
theorem dX0_reaches_21 : decode cX0_reaches 21 = .ok (.iload_n 2, 1) := by decide +kernel
theorem dX0_reaches_22 : decode cX0_reaches 22 = .ok (.if_icmp .ne 5, 3) := by decide +kernel
theorem dX0_reaches_25 : decode cX0_reaches 25 = .ok (.iconst 1, 1) := by decide +kernel
theorem dX0_reaches_26 : decode cX0_reaches 26 = .ok (.ireturn, 1) := by decide +kernel
theorem dX0_reaches_27 : decode cX0_reaches 27 = .ok (.aload_n 0, 1) := by decide +kernel
theorem dX0_reaches_28 : decode cX0_reaches 28 = .ok (.getfield 11, 3) := by decide +kernel
theorem dX0_reaches_31 : decode cX0_reaches 31 = .ok (.iload_n 3, 1) := by decide +kernel
theorem dX0_reaches_32 : decode cX0_reaches 32 = .ok (.iaload, 1) := by decide +kernel
theorem dX0_reaches_33 : decode cX0_reaches 33 = .ok (.istore_n 3, 1) := by decide +kernel
theorem dX0_reaches_34 : decode cX0_reaches 34 = .ok (.iinc 4 1, 3) := by decide +kernel
theorem dX0_reaches_37 : decode cX0_reaches 37 = .ok (.goto (-32), 3) := by decide +kernel
theorem dX0_reaches_40 : decode cX0_reaches 40 = .ok (.iconst 0, 1) := by decide +kernel
theorem dX0_reaches_41 : decode cX0_reaches 41 = .ok (.ireturn, 1) := by decide +kernel
theorem dX0_fault_0 : decode cX0_fault 0 = .ok (.aload_n 0, 1) := by decide +kernel
theorem dX0_fault_1 : decode cX0_fault 1 = .ok (.getfield 30, 3) := by decide +kernel
theorem dX0_fault_4 : decode cX0_fault 4 = .ok (.ifCond .le 21, 3) := by decide +kernel
theorem dX0_fault_7 : decode cX0_fault 7 = .ok (.iload_n 1, 1) := by decide +kernel
theorem dX0_fault_8 : decode cX0_fault 8 = .ok (.ifCond .lt 17, 3) := by decide +kernel
theorem dX0_fault_11 : decode cX0_fault 11 = .ok (.iload_n 1, 1) := by decide +kernel
theorem dX0_fault_12 : decode cX0_fault 12 = .ok (.iconst 5, 1) := by decide +kernel
theorem dX0_fault_13 : decode cX0_fault 13 = .ok (.if_icmp .ge 12, 3) := by decide +kernel
theorem dX0_fault_16 : decode cX0_fault 16 = .ok (.aload_n 0, 1) := by decide +kernel
theorem dX0_fault_17 : decode cX0_fault 17 = .ok (.getfield 27, 3) := by decide +kernel
theorem dX0_fault_20 : decode cX0_fault 20 = .ok (.iload_n 1, 1) := by decide +kernel
theorem dX0_fault_21 : decode cX0_fault 21 = .ok (.iaload, 1) := by decide +kernel
theorem dX0_fault_22 : decode cX0_fault 22 = .ok (.goto 4, 3) := by decide +kernel
theorem dX0_fault_25 : decode cX0_fault 25 = .ok (.iconst (-1), 1) := by decide +kernel
theorem dX0_fault_26 : decode cX0_fault 26 = .ok (.ireturn, 1) := by decide +kernel
theorem dX1_init_0 : decode cX1_init 0 = .ok (.aload_n 0, 1) := by decide +kernel
theorem dX1_init_1 : decode cX1_init 1 = .ok (.invokespecial 3, 3) := by decide +kernel
theorem dX1_init_4 : decode cX1_init 4 = .ok (.aload_n 0, 1) := by decide +kernel
theorem dX1_init_5 : decode cX1_init 5 = .ok (.bipush 64, 2) := by decide +kernel
theorem dX1_init_7 : decode cX1_init 7 = .ok (.newarray .int, 2) := by decide +kernel
theorem dX1_init_9 : decode cX1_init 9 = .ok (.putfield 11, 3) := by decide +kernel
theorem dX1_init_12 : decode cX1_init 12 = .ok (.aload_n 0, 1) := by decide +kernel
theorem dX1_init_13 : decode cX1_init 13 = .ok (.bipush 64, 2) := by decide +kernel
theorem dX1_init_15 : decode cX1_init 15 = .ok (.newarray .int, 2) := by decide +kernel
theorem dX1_init_17 : decode cX1_init 17 = .ok (.putfield 17, 3) := by decide +kernel
theorem dX1_init_20 : decode cX1_init 20 = .ok (.aload_n 0, 1) := by decide +kernel
theorem dX1_init_21 : decode cX1_init 21 = .ok (.bipush 64, 2) := by decide +kernel
theorem dX1_init_23 : decode cX1_init 23 = .ok (.newarray .int, 2) := by decide +kernel
theorem dX1_init_25 : decode cX1_init 25 = .ok (.putfield 20, 3) := by decide +kernel
theorem dX1_init_28 : decode cX1_init 28 = .ok (.aload_n 0, 1) := by decide +kernel
theorem dX1_init_29 : decode cX1_init 29 = .ok (.sipush 250, 3) := by decide +kernel
theorem dX1_init_32 : decode cX1_init 32 = .ok (.newarray .int, 2) := by decide +kernel
theorem dX1_init_34 : decode cX1_init 34 = .ok (.putfield 25, 3) := by decide +kernel
theorem dX1_init_37 : decode cX1_init 37 = .ok (.return_, 1) := by decide +kernel
set_option maxRecDepth 20000 in
theorem ggX1_clear_J7_fill_53178 : GoodIn wsX1_clear wsJ7_fill_53178 := goodIn_r _ [6] (by decide +kernel) (by decide +kernel)
set_option maxRecDepth 20000 in
theorem gX1_clear_J7_fill_53178 : GoodIn wsX1_clear (va_wsS RX1 32 yJ7_fill_53178 wsJ7_fill_53178) := goodIn_app (goodIn_of _ (by decide +kernel)) ggX1_clear_J7_fill_53178
theorem dX1_clear_0 : decode cX1_clear 0 = .ok (.aload_n 0, 1) := by decide +kernel
theorem dX1_clear_1 : decode cX1_clear 1 = .ok (.iconst 0, 1) := by decide +kernel
theorem dX1_clear_2 : decode cX1_clear 2 = .ok (.putfield 28, 3) := by decide +kernel
theorem dX1_clear_5 : decode cX1_clear 5 = .ok (.aload_n 0, 1) := by decide +kernel
theorem dX1_clear_6 : decode cX1_clear 6 = .ok (.getfield 25, 3) := by decide +kernel
theorem dX1_clear_9 : decode cX1_clear 9 = .ok (.iconst 0, 1) := by decide +kernel
theorem dX1_clear_10 : decode cX1_clear 10 = .ok (.invokestatic 32, 3) := by decide +kernel
theorem dX1_clear_13 : decode cX1_clear 13 = .ok (.return_, 1) := by decide +kernel
theorem dX1_total_0 : decode cX1_total 0 = .ok (.aload_n 0, 1) := by decide +kernel
theorem dX1_total_1 : decode cX1_total 1 = .ok (.getfield 28, 3) := by decide +kernel
theorem dX1_total_4 : decode cX1_total 4 = .ok (.ireturn, 1) := by decide +kernel
set_option maxRecDepth 20000 in
theorem ggX1_read_X5_pair : GoodIn wsX1_read wsX5_pair := goodIn_r _ [13, 14, 15, 16, 17, 12, 18, 19, 20, 21, 22, 23, 24, 25, 108, 109, 110, 111] (by decide +kernel) (by decide +kernel)
set_option maxRecDepth 20000 in
theorem gX1_read_X5_pair : GoodIn wsX1_read (wsV RX1 38 RX5 yX5_pair wsX5_pair) := goodIn_app (goodIn_of _ (by decide +kernel)) ggX1_read_X5_pair
set_option maxRecDepth 20000 in
theorem ggX1_read_X5_place : GoodIn wsX1_read wsX5_place := goodIn_r _ [29, 19, 108, 109, 110, 111] (by decide +kernel) (by decide +kernel)
set_option maxRecDepth 20000 in
theorem gX1_read_X5_place : GoodIn wsX1_read (wsV RX1 49 RX5 yX5_place wsX5_place) := goodIn_app (goodIn_of _ (by decide +kernel)) ggX1_read_X5_place
set_option maxRecDepth 20000 in
theorem ggX1_read_X5_stopped : GoodIn wsX1_read wsX5_stopped := goodIn_r _ [33, 14, 108, 109, 110, 111] (by decide +kernel) (by decide +kernel)
set_option maxRecDepth 20000 in
theorem gX1_read_X5_stopped : GoodIn wsX1_read (wsV RX1 53 RX5 yX5_stopped wsX5_stopped) := goodIn_app (goodIn_of _ (by decide +kernel)) ggX1_read_X5_stopped
set_option maxRecDepth 20000 in
theorem ggX1_read_X1_readInstruction : GoodIn wsX1_read wsX1_readInstruction := goodIn_r _ [38, 26, 27, 28, 12, 29, 19, 39, 16, 17, 18, 14, 20, 21, 22, 23, 24, 25, 30, 31, 32, 33, 40, 41, 42, 43, 44, 45, 46, 47, 48, 49, 50, 51, 52, 53, 54, 55, 56, 57, 58, 59, 60, 61, 62, 37, 63, 64, 65, 66, 67, 68, 69, 70, 71, 72, 73, 74, 75, 76, 77, 78, 79, 80, 81, 82, 83, 84, 85, 86, 87, 88, 89, 90, 91, 92, 93, 94, 95, 96, 97, 98, 99, 100, 101, 102, 108, 109, 110, 111, 103, 104, 105, 106, 107, 112, 113, 114, 115, 116, 117, 118] (by decide +kernel) (by decide +kernel)
set_option maxRecDepth 20000 in
theorem gX1_read_X1_readInstruction : GoodIn wsX1_read (wsV RX1 57 RX1 yX1_readInstruction wsX1_readInstruction) := goodIn_app (goodIn_of _ (by decide +kernel)) ggX1_read_X1_readInstruction
theorem dX1_read_0 : decode cX1_read 0 = .ok (.aload_n 1, 1) := by decide +kernel
theorem dX1_read_1 : decode cX1_read 1 = .ok (.iconst 1, 1) := by decide +kernel
theorem dX1_read_2 : decode cX1_read 2 = .ok (.sipush 1000, 3) := by decide +kernel
theorem dX1_read_5 : decode cX1_read 5 = .ok (.invokevirtual 38, 3) := by decide +kernel
theorem dX1_read_8 : decode cX1_read 8 = .ok (.iconst 0, 1) := by decide +kernel
theorem dX1_read_9 : decode cX1_read 9 = .ok (.invokestatic 44, 3) := by decide +kernel
theorem dX1_read_12 : decode cX1_read 12 = .ok (.istore 5, 2) := by decide +kernel
theorem dX1_read_14 : decode cX1_read 14 = .ok (.aload_n 1, 1) := by decide +kernel
theorem dX1_read_15 : decode cX1_read 15 = .ok (.invokevirtual 49, 3) := by decide +kernel
theorem dX1_read_18 : decode cX1_read 18 = .ok (.istore 6, 2) := by decide +kernel
theorem dX1_read_20 : decode cX1_read 20 = .ok (.iconst 0, 1) := by decide +kernel
theorem dX1_read_21 : decode cX1_read 21 = .ok (.istore 7, 2) := by decide +kernel
theorem dX1_read_23 : decode cX1_read 23 = .ok (.iconst 0, 1) := by decide +kernel
theorem dX1_read_24 : decode cX1_read 24 = .ok (.istore 8, 2) := by decide +kernel
theorem dX1_read_26 : decode cX1_read 26 = .ok (.iload 8, 2) := by decide +kernel
theorem dX1_read_28 : decode cX1_read 28 = .ok (.iload 5, 2) := by decide +kernel
theorem dX1_read_30 : decode cX1_read 30 = .ok (.if_icmp .ge 44, 3) := by decide +kernel
theorem dX1_read_33 : decode cX1_read 33 = .ok (.aload_n 1, 1) := by decide +kernel
theorem dX1_read_34 : decode cX1_read 34 = .ok (.invokevirtual 49, 3) := by decide +kernel
theorem dX1_read_37 : decode cX1_read 37 = .ok (.iload 6, 2) := by decide +kernel
theorem dX1_read_39 : decode cX1_read 39 = .ok (.iload 5, 2) := by decide +kernel
theorem dX1_read_41 : decode cX1_read 41 = .ok (.iadd, 1) := by decide +kernel
theorem dX1_read_42 : decode cX1_read 42 = .ok (.if_icmp .ge 32, 3) := by decide +kernel
theorem dX1_read_45 : decode cX1_read 45 = .ok (.aload_n 1, 1) := by decide +kernel
theorem dX1_read_46 : decode cX1_read 46 = .ok (.invokevirtual 53, 3) := by decide +kernel
theorem dX1_read_49 : decode cX1_read 49 = .ok (.ifCond .ne 25, 3) := by decide +kernel
theorem dX1_read_52 : decode cX1_read 52 = .ok (.aload_n 0, 1) := by decide +kernel
theorem dX1_read_53 : decode cX1_read 53 = .ok (.aload_n 1, 1) := by decide +kernel
theorem dX1_read_54 : decode cX1_read 54 = .ok (.aload_n 2, 1) := by decide +kernel
theorem dX1_read_55 : decode cX1_read 55 = .ok (.iload 4, 2) := by decide +kernel
theorem dX1_read_57 : decode cX1_read 57 = .ok (.iload 6, 2) := by decide +kernel
theorem dX1_read_59 : decode cX1_read 59 = .ok (.iload 5, 2) := by decide +kernel
theorem dX1_read_61 : decode cX1_read 61 = .ok (.iadd, 1) := by decide +kernel
theorem dX1_read_62 : decode cX1_read 62 = .ok (.invokevirtual 57, 3) := by decide +kernel
theorem dX1_read_65 : decode cX1_read 65 = .ok (.iinc 7 1, 3) := by decide +kernel
theorem dX1_read_68 : decode cX1_read 68 = .ok (.iinc 8 1, 3) := by decide +kernel
theorem dX1_read_71 : decode cX1_read 71 = .ok (.goto (-45), 3) := by decide +kernel
theorem dX1_read_74 : decode cX1_read 74 = .ok (.aload_n 0, 1) := by decide +kernel
theorem dX1_read_75 : decode cX1_read 75 = .ok (.getfield 11, 3) := by decide +kernel
theorem dX1_read_78 : decode cX1_read 78 = .ok (.iload_n 3, 1) := by decide +kernel
theorem dX1_read_79 : decode cX1_read 79 = .ok (.iload 6, 2) := by decide +kernel
theorem dX1_read_81 : decode cX1_read 81 = .ok (.iastore, 1) := by decide +kernel
theorem dX1_read_82 : decode cX1_read 82 = .ok (.aload_n 0, 1) := by decide +kernel
theorem dX1_read_83 : decode cX1_read 83 = .ok (.getfield 17, 3) := by decide +kernel
theorem dX1_read_86 : decode cX1_read 86 = .ok (.iload_n 3, 1) := by decide +kernel
theorem dX1_read_87 : decode cX1_read 87 = .ok (.iload 5, 2) := by decide +kernel
theorem dX1_read_89 : decode cX1_read 89 = .ok (.iastore, 1) := by decide +kernel
theorem dX1_read_90 : decode cX1_read 90 = .ok (.aload_n 0, 1) := by decide +kernel
theorem dX1_read_91 : decode cX1_read 91 = .ok (.getfield 20, 3) := by decide +kernel
theorem dX1_read_94 : decode cX1_read 94 = .ok (.iload_n 3, 1) := by decide +kernel
theorem dX1_read_95 : decode cX1_read 95 = .ok (.iload 7, 2) := by decide +kernel
theorem dX1_read_97 : decode cX1_read 97 = .ok (.iastore, 1) := by decide +kernel
theorem dX1_read_98 : decode cX1_read 98 = .ok (.aload_n 0, 1) := by decide +kernel
theorem dX1_read_99 : decode cX1_read 99 = .ok (.dup, 1) := by decide +kernel
theorem dX1_read_100 : decode cX1_read 100 = .ok (.getfield 28, 3) := by decide +kernel
theorem dX1_read_103 : decode cX1_read 103 = .ok (.iload 7, 2) := by decide +kernel
theorem dX1_read_105 : decode cX1_read 105 = .ok (.iadd, 1) := by decide +kernel
theorem dX1_read_106 : decode cX1_read 106 = .ok (.putfield 28, 3) := by decide +kernel
theorem dX1_read_109 : decode cX1_read 109 = .ok (.return_, 1) := by decide +kernel
set_option maxRecDepth 20000 in
theorem ggX1_readInstruction_X5_place : GoodIn wsX1_readInstruction wsX5_place := goodIn_r _ [5, 6, 86, 87, 88, 89] (by decide +kernel) (by decide +kernel)
set_option maxRecDepth 20000 in
theorem gX1_readInstruction_X5_place : GoodIn wsX1_readInstruction (wsV RX1 49 RX5 yX5_place wsX5_place) := goodIn_app (goodIn_of _ (by decide +kernel)) ggX1_readInstruction_X5_place
set_option maxRecDepth 20000 in
theorem ggX1_readInstruction_X5_number : GoodIn wsX1_readInstruction wsX5_number := goodIn_r _ [10, 6, 11, 12, 13, 14, 4, 15, 16, 17, 86, 87, 88, 89] (by decide +kernel) (by decide +kernel)
set_option maxRecDepth 20000 in
theorem gX1_readInstruction_X5_number : GoodIn wsX1_readInstruction (wsV RX1 63 RX5 yX5_number wsX5_number) := goodIn_app (goodIn_of _ (by decide +kernel)) ggX1_readInstruction_X5_number
set_option maxRecDepth 20000 in
theorem ggX1_readInstruction_X5_stopped : GoodIn wsX1_readInstruction wsX5_stopped := goodIn_r _ [21, 11, 86, 87, 88, 89] (by decide +kernel) (by decide +kernel)
set_option maxRecDepth 20000 in
theorem gX1_readInstruction_X5_stopped : GoodIn wsX1_readInstruction (wsV RX1 53 RX5 yX5_stopped wsX5_stopped) := goodIn_app (goodIn_of _ (by decide +kernel)) ggX1_readInstruction_X5_stopped
set_option maxRecDepth 20000 in
theorem ggX1_readInstruction_X4_length : GoodIn wsX1_readInstruction wsX4_length := goodIn_r _ [25, 26, 27, 24, 28, 29, 30, 31, 32, 33, 34, 35, 36, 37] (by decide +kernel) (by decide +kernel)
set_option maxRecDepth 20000 in
theorem gX1_readInstruction_X4_length : GoodIn wsX1_readInstruction (va_wsS RX1 66 yX4_length wsX4_length) := goodIn_app (goodIn_of _ (by decide +kernel)) ggX1_readInstruction_X4_length
set_option maxRecDepth 20000 in
theorem ggX1_readInstruction_X5_stopAt : GoodIn wsX1_readInstruction wsX5_stopAt := goodIn_r _ [41, 6, 11, 86, 87, 88, 89] (by decide +kernel) (by decide +kernel)
set_option maxRecDepth 20000 in
theorem gX1_readInstruction_X5_stopAt : GoodIn wsX1_readInstruction (wsV RX1 70 RX5 yX5_stopAt wsX5_stopAt) := goodIn_app (goodIn_of _ (by decide +kernel)) ggX1_readInstruction_X5_stopAt
set_option maxRecDepth 20000 in
theorem ggX1_readInstruction_X1_markBegin : GoodIn wsX1_readInstruction wsX1_markBegin := goodIn_r _ [46, 47, 90, 91, 92, 93, 94] (by decide +kernel) (by decide +kernel)
set_option maxRecDepth 20000 in
theorem gX1_readInstruction_X1_markBegin : GoodIn wsX1_readInstruction (wsV RX1 74 RX1 yX1_markBegin wsX1_markBegin) := goodIn_app (goodIn_of _ (by decide +kernel)) ggX1_readInstruction_X1_markBegin
set_option maxRecDepth 20000 in
theorem ggX1_readInstruction_X4_first : GoodIn wsX1_readInstruction wsX4_first := goodIn_r _ [28, 29] (by decide +kernel) (by decide +kernel)
set_option maxRecDepth 20000 in
theorem gX1_readInstruction_X4_first : GoodIn wsX1_readInstruction (va_wsS RX1 77 yX4_first wsX4_first) := goodIn_app (goodIn_of _ (by decide +kernel)) ggX1_readInstruction_X4_first
set_option maxRecDepth 20000 in
theorem ggX1_readInstruction_X1_readOperand : GoodIn wsX1_readInstruction wsX1_readOperand := goodIn_r _ [51, 7, 8, 9, 4, 10, 6, 11, 12, 13, 14, 15, 16, 17, 52, 53, 54, 55, 56, 57, 58, 31, 24, 32, 33, 59, 60, 61, 62, 63, 39, 40, 41, 86, 87, 88, 89, 95, 96, 97, 98, 99, 100, 101] (by decide +kernel) (by decide +kernel)
set_option maxRecDepth 20000 in
theorem gX1_readInstruction_X1_readOperand : GoodIn wsX1_readInstruction (va_wsS RX1 80 yX1_readOperand wsX1_readOperand) := goodIn_app (goodIn_of _ (by decide +kernel)) ggX1_readInstruction_X1_readOperand
set_option maxRecDepth 20000 in
theorem ggX1_readInstruction_X4_second : GoodIn wsX1_readInstruction wsX4_second := goodIn_r _ [36, 37] (by decide +kernel) (by decide +kernel)
set_option maxRecDepth 20000 in
theorem gX1_readInstruction_X4_second : GoodIn wsX1_readInstruction (va_wsS RX1 84 yX4_second wsX4_second) := goodIn_app (goodIn_of _ (by decide +kernel)) ggX1_readInstruction_X4_second
set_option maxRecDepth 20000 in
theorem ggX1_readInstruction_X0_fields : GoodIn wsX1_readInstruction wsX0_fields := goodIn_r _ [68, 69, 70, 71, 72, 55, 73, 57, 95, 96, 97, 98, 99, 100, 101] (by decide +kernel) (by decide +kernel)
set_option maxRecDepth 20000 in
theorem gX1_readInstruction_X0_fields : GoodIn wsX1_readInstruction (wsV RX1 87 RX0 yX0_fields wsX0_fields) := goodIn_app (goodIn_of _ (by decide +kernel)) ggX1_readInstruction_X0_fields
set_option maxRecDepth 20000 in
theorem ggX1_readInstruction_X1_readSlot : GoodIn wsX1_readInstruction wsX1_readSlot := goodIn_r _ [76, 77, 78, 79, 4, 80, 6, 12, 13, 14, 15, 16, 17, 81, 82, 83, 55, 84, 85, 70, 71, 72, 73, 57, 1, 2, 3, 5, 38, 39, 40, 41, 11, 7, 8, 9, 10, 86, 87, 88, 89, 95, 96, 97, 98, 99, 100, 101] (by decide +kernel) (by decide +kernel)
set_option maxRecDepth 20000 in
theorem gX1_readInstruction_X1_readSlot : GoodIn wsX1_readInstruction (va_wsS RX1 92 yX1_readSlot wsX1_readSlot) := goodIn_app (goodIn_of _ (by decide +kernel)) ggX1_readInstruction_X1_readSlot
theorem dX1_readInstruction_0 : decode cX1_readInstruction 0 = .ok (.aload_n 1, 1) := by decide +kernel
theorem dX1_readInstruction_1 : decode cX1_readInstruction 1 = .ok (.invokevirtual 49, 3) := by decide +kernel
theorem dX1_readInstruction_4 : decode cX1_readInstruction 4 = .ok (.istore 5, 2) := by decide +kernel
theorem dX1_readInstruction_6 : decode cX1_readInstruction 6 = .ok (.aload_n 1, 1) := by decide +kernel
theorem dX1_readInstruction_7 : decode cX1_readInstruction 7 = .ok (.iconst 0, 1) := by decide +kernel
theorem dX1_readInstruction_8 : decode cX1_readInstruction 8 = .ok (.bipush 41, 2) := by decide +kernel
theorem dX1_readInstruction_10 : decode cX1_readInstruction 10 = .ok (.invokevirtual 63, 3) := by decide +kernel
theorem dX1_readInstruction_13 : decode cX1_readInstruction 13 = .ok (.istore 6, 2) := by decide +kernel
theorem dX1_readInstruction_15 : decode cX1_readInstruction 15 = .ok (.aload_n 1, 1) := by decide +kernel
theorem dX1_readInstruction_16 : decode cX1_readInstruction 16 = .ok (.invokevirtual 53, 3) := by decide +kernel
theorem dX1_readInstruction_19 : decode cX1_readInstruction 19 = .ok (.ifCond .eq 4, 3) := by decide +kernel
theorem dX1_readInstruction_22 : decode cX1_readInstruction 22 = .ok (.return_, 1) := by decide +kernel
theorem dX1_readInstruction_23 : decode cX1_readInstruction 23 = .ok (.iload 6, 2) := by decide +kernel
theorem dX1_readInstruction_25 : decode cX1_readInstruction 25 = .ok (.invokestatic 66, 3) := by decide +kernel
theorem dX1_readInstruction_28 : decode cX1_readInstruction 28 = .ok (.iload 4, 2) := by decide +kernel
theorem dX1_readInstruction_30 : decode cX1_readInstruction 30 = .ok (.iload 5, 2) := by decide +kernel
theorem dX1_readInstruction_32 : decode cX1_readInstruction 32 = .ok (.isub, 1) := by decide +kernel
theorem dX1_readInstruction_33 : decode cX1_readInstruction 33 = .ok (.if_icmp .le 10, 3) := by decide +kernel
theorem dX1_readInstruction_36 : decode cX1_readInstruction 36 = .ok (.aload_n 1, 1) := by decide +kernel
theorem dX1_readInstruction_37 : decode cX1_readInstruction 37 = .ok (.iload 5, 2) := by decide +kernel
theorem dX1_readInstruction_39 : decode cX1_readInstruction 39 = .ok (.invokevirtual 70, 3) := by decide +kernel
theorem dX1_readInstruction_42 : decode cX1_readInstruction 42 = .ok (.return_, 1) := by decide +kernel
theorem dX1_readInstruction_43 : decode cX1_readInstruction 43 = .ok (.aload_n 0, 1) := by decide +kernel
theorem dX1_readInstruction_44 : decode cX1_readInstruction 44 = .ok (.iload 5, 2) := by decide +kernel
theorem dX1_readInstruction_46 : decode cX1_readInstruction 46 = .ok (.invokevirtual 74, 3) := by decide +kernel
theorem dX1_readInstruction_49 : decode cX1_readInstruction 49 = .ok (.aload_n 1, 1) := by decide +kernel
theorem dX1_readInstruction_50 : decode cX1_readInstruction 50 = .ok (.aload_n 2, 1) := by decide +kernel
theorem dX1_readInstruction_51 : decode cX1_readInstruction 51 = .ok (.iload 6, 2) := by decide +kernel
theorem dX1_readInstruction_53 : decode cX1_readInstruction 53 = .ok (.invokestatic 77, 3) := by decide +kernel
theorem dX1_readInstruction_56 : decode cX1_readInstruction 56 = .ok (.iload_n 3, 1) := by decide +kernel
theorem dX1_readInstruction_57 : decode cX1_readInstruction 57 = .ok (.invokestatic 80, 3) := by decide +kernel
theorem dX1_readInstruction_60 : decode cX1_readInstruction 60 = .ok (.istore 7, 2) := by decide +kernel
theorem dX1_readInstruction_62 : decode cX1_readInstruction 62 = .ok (.iload 6, 2) := by decide +kernel
theorem dX1_readInstruction_64 : decode cX1_readInstruction 64 = .ok (.invokestatic 84, 3) := by decide +kernel
theorem dX1_readInstruction_67 : decode cX1_readInstruction 67 = .ok (.istore 8, 2) := by decide +kernel
theorem dX1_readInstruction_69 : decode cX1_readInstruction 69 = .ok (.iload 8, 2) := by decide +kernel
theorem dX1_readInstruction_71 : decode cX1_readInstruction 71 = .ok (.bipush 6, 2) := by decide +kernel
theorem dX1_readInstruction_73 : decode cX1_readInstruction 73 = .ok (.if_icmp .ne 20, 3) := by decide +kernel
theorem dX1_readInstruction_76 : decode cX1_readInstruction 76 = .ok (.aload_n 1, 1) := by decide +kernel
theorem dX1_readInstruction_77 : decode cX1_readInstruction 77 = .ok (.iconst 0, 1) := by decide +kernel
theorem dX1_readInstruction_78 : decode cX1_readInstruction 78 = .ok (.aload_n 2, 1) := by decide +kernel
theorem dX1_readInstruction_79 : decode cX1_readInstruction 79 = .ok (.iload 7, 2) := by decide +kernel
theorem dX1_readInstruction_81 : decode cX1_readInstruction 81 = .ok (.invokevirtual 87, 3) := by decide +kernel
theorem dX1_readInstruction_84 : decode cX1_readInstruction 84 = .ok (.iconst 1, 1) := by decide +kernel
theorem dX1_readInstruction_85 : decode cX1_readInstruction 85 = .ok (.isub, 1) := by decide +kernel
theorem dX1_readInstruction_86 : decode cX1_readInstruction 86 = .ok (.invokevirtual 63, 3) := by decide +kernel
theorem dX1_readInstruction_89 : decode cX1_readInstruction 89 = .ok (.pop, 1) := by decide +kernel
theorem dX1_readInstruction_90 : decode cX1_readInstruction 90 = .ok (.goto 29, 3) := by decide +kernel
theorem dX1_readInstruction_93 : decode cX1_readInstruction 93 = .ok (.iload 8, 2) := by decide +kernel
theorem dX1_readInstruction_95 : decode cX1_readInstruction 95 = .ok (.bipush 9, 2) := by decide +kernel
theorem dX1_readInstruction_97 : decode cX1_readInstruction 97 = .ok (.if_icmp .ne 13, 3) := by decide +kernel
theorem dX1_readInstruction_100 : decode cX1_readInstruction 100 = .ok (.aload_n 1, 1) := by decide +kernel
theorem dX1_readInstruction_101 : decode cX1_readInstruction 101 = .ok (.aload_n 2, 1) := by decide +kernel
theorem dX1_readInstruction_102 : decode cX1_readInstruction 102 = .ok (.iload 7, 2) := by decide +kernel
theorem dX1_readInstruction_104 : decode cX1_readInstruction 104 = .ok (.invokestatic 92, 3) := by decide +kernel
theorem dX1_readInstruction_107 : decode cX1_readInstruction 107 = .ok (.goto 12, 3) := by decide +kernel
theorem dX1_readInstruction_110 : decode cX1_readInstruction 110 = .ok (.aload_n 1, 1) := by decide +kernel
theorem dX1_readInstruction_111 : decode cX1_readInstruction 111 = .ok (.aload_n 2, 1) := by decide +kernel
theorem dX1_readInstruction_112 : decode cX1_readInstruction 112 = .ok (.iload 8, 2) := by decide +kernel
theorem dX1_readInstruction_114 : decode cX1_readInstruction 114 = .ok (.iload_n 3, 1) := by decide +kernel
theorem dX1_readInstruction_115 : decode cX1_readInstruction 115 = .ok (.invokestatic 80, 3) := by decide +kernel
theorem dX1_readInstruction_118 : decode cX1_readInstruction 118 = .ok (.pop, 1) := by decide +kernel
theorem dX1_readInstruction_119 : decode cX1_readInstruction 119 = .ok (.return_, 1) := by decide +kernel
set_option maxRecDepth 20000 in
theorem ggX1_readOperand_X5_number : GoodIn wsX1_readOperand wsX5_number := goodIn_r _ [5, 6, 7, 8, 9, 10, 4, 11, 12, 13, 33, 34, 35, 36] (by decide +kernel) (by decide +kernel)
set_option maxRecDepth 20000 in
theorem gX1_readOperand_X5_number : GoodIn wsX1_readOperand (wsV RX1 63 RX5 yX5_number wsX5_number) := goodIn_app (goodIn_of _ (by decide +kernel)) ggX1_readOperand_X5_number
set_option maxRecDepth 20000 in
theorem ggX1_readOperand_X0_size : GoodIn wsX1_readOperand wsX0_size := goodIn_r _ [18, 19, 37, 38, 39, 40, 41, 42, 43] (by decide +kernel) (by decide +kernel)
set_option maxRecDepth 20000 in
theorem gX1_readOperand_X0_size : GoodIn wsX1_readOperand (wsV RX1 96 RX0 yX0_size wsX0_size) := goodIn_app (goodIn_of _ (by decide +kernel)) ggX1_readOperand_X0_size
set_option maxRecDepth 20000 in
theorem ggX1_readOperand_X4_width : GoodIn wsX1_readOperand wsX4_width := goodIn_r _ [23, 24] (by decide +kernel) (by decide +kernel)
set_option maxRecDepth 20000 in
theorem gX1_readOperand_X4_width : GoodIn wsX1_readOperand (va_wsS RX1 99 yX4_width wsX4_width) := goodIn_app (goodIn_of _ (by decide +kernel)) ggX1_readOperand_X4_width
set_option maxRecDepth 20000 in
theorem ggX1_readOperand_X5_skip : GoodIn wsX1_readOperand wsX5_skip := goodIn_r _ [28, 7, 12, 6, 29, 30, 31, 4, 32, 33, 34, 35, 36] (by decide +kernel) (by decide +kernel)
set_option maxRecDepth 20000 in
theorem gX1_readOperand_X5_skip : GoodIn wsX1_readOperand (wsV RX1 102 RX5 yX5_skip wsX5_skip) := goodIn_app (goodIn_of _ (by decide +kernel)) ggX1_readOperand_X5_skip
theorem dX1_readOperand_0 : decode cX1_readOperand 0 = .ok (.iload_n 2, 1) := by decide +kernel
theorem dX1_readOperand_1 : decode cX1_readOperand 1 = .ok (.tableswitch 77 2 7 #[39, 48, 77, 55, 77, 67], 39) := by decide +kernel
theorem dX1_readOperand_40 : decode cX1_readOperand 40 = .ok (.aload_n 0, 1) := by decide +kernel
theorem dX1_readOperand_41 : decode cX1_readOperand 41 = .ok (.iconst 0, 1) := by decide +kernel
theorem dX1_readOperand_42 : decode cX1_readOperand 42 = .ok (.iload_n 3, 1) := by decide +kernel
theorem dX1_readOperand_43 : decode cX1_readOperand 43 = .ok (.iconst 1, 1) := by decide +kernel
theorem dX1_readOperand_44 : decode cX1_readOperand 44 = .ok (.isub, 1) := by decide +kernel
theorem dX1_readOperand_45 : decode cX1_readOperand 45 = .ok (.invokevirtual 63, 3) := by decide +kernel
theorem dX1_readOperand_48 : decode cX1_readOperand 48 = .ok (.ireturn, 1) := by decide +kernel
theorem dX1_readOperand_49 : decode cX1_readOperand 49 = .ok (.aload_n 0, 1) := by decide +kernel
theorem dX1_readOperand_50 : decode cX1_readOperand 50 = .ok (.iconst 0, 1) := by decide +kernel
theorem dX1_readOperand_51 : decode cX1_readOperand 51 = .ok (.iconst 5, 1) := by decide +kernel
theorem dX1_readOperand_52 : decode cX1_readOperand 52 = .ok (.invokevirtual 63, 3) := by decide +kernel
theorem dX1_readOperand_55 : decode cX1_readOperand 55 = .ok (.ireturn, 1) := by decide +kernel
theorem dX1_readOperand_56 : decode cX1_readOperand 56 = .ok (.aload_n 0, 1) := by decide +kernel
theorem dX1_readOperand_57 : decode cX1_readOperand 57 = .ok (.iconst 0, 1) := by decide +kernel
theorem dX1_readOperand_58 : decode cX1_readOperand 58 = .ok (.aload_n 1, 1) := by decide +kernel
theorem dX1_readOperand_59 : decode cX1_readOperand 59 = .ok (.invokevirtual 96, 3) := by decide +kernel
theorem dX1_readOperand_62 : decode cX1_readOperand 62 = .ok (.iconst 1, 1) := by decide +kernel
theorem dX1_readOperand_63 : decode cX1_readOperand 63 = .ok (.isub, 1) := by decide +kernel
theorem dX1_readOperand_64 : decode cX1_readOperand 64 = .ok (.invokevirtual 63, 3) := by decide +kernel
theorem dX1_readOperand_67 : decode cX1_readOperand 67 = .ok (.ireturn, 1) := by decide +kernel
theorem dX1_readOperand_68 : decode cX1_readOperand 68 = .ok (.aload_n 0, 1) := by decide +kernel
theorem dX1_readOperand_69 : decode cX1_readOperand 69 = .ok (.iconst 0, 1) := by decide +kernel
theorem dX1_readOperand_70 : decode cX1_readOperand 70 = .ok (.aload_n 1, 1) := by decide +kernel
theorem dX1_readOperand_71 : decode cX1_readOperand 71 = .ok (.invokevirtual 96, 3) := by decide +kernel
theorem dX1_readOperand_74 : decode cX1_readOperand 74 = .ok (.invokevirtual 63, 3) := by decide +kernel
theorem dX1_readOperand_77 : decode cX1_readOperand 77 = .ok (.ireturn, 1) := by decide +kernel
theorem dX1_readOperand_78 : decode cX1_readOperand 78 = .ok (.aload_n 0, 1) := by decide +kernel
theorem dX1_readOperand_79 : decode cX1_readOperand 79 = .ok (.iload_n 2, 1) := by decide +kernel
theorem dX1_readOperand_80 : decode cX1_readOperand 80 = .ok (.invokestatic 99, 3) := by decide +kernel
theorem dX1_readOperand_83 : decode cX1_readOperand 83 = .ok (.invokevirtual 102, 3) := by decide +kernel
theorem dX1_readOperand_86 : decode cX1_readOperand 86 = .ok (.iconst (-1), 1) := by decide +kernel
theorem dX1_readOperand_87 : decode cX1_readOperand 87 = .ok (.ireturn, 1) := by decide +kernel
set_option maxRecDepth 20000 in
theorem ggX1_readSlot_X5_next : GoodIn wsX1_readSlot wsX5_next := goodIn_r _ [5, 6, 7, 8, 9, 4, 10, 11, 12, 37, 38, 39, 40] (by decide +kernel) (by decide +kernel)
set_option maxRecDepth 20000 in
theorem gX1_readSlot_X5_next : GoodIn wsX1_readSlot (wsV RX1 105 RX5 yX5_next wsX5_next) := goodIn_app (goodIn_of _ (by decide +kernel)) ggX1_readSlot_X5_next
set_option maxRecDepth 20000 in
theorem ggX1_readSlot_X0_slotMethod : GoodIn wsX1_readSlot wsX0_slotMethod := goodIn_r _ [17, 18, 19, 20, 21, 16, 22, 23, 41, 42, 43, 44, 45, 46, 47] (by decide +kernel) (by decide +kernel)
set_option maxRecDepth 20000 in
theorem gX1_readSlot_X0_slotMethod : GoodIn wsX1_readSlot (wsV RX1 108 RX0 yX0_slotMethod wsX0_slotMethod) := goodIn_app (goodIn_of _ (by decide +kernel)) ggX1_readSlot_X0_slotMethod
set_option maxRecDepth 20000 in
theorem ggX1_readSlot_X5_place : GoodIn wsX1_readSlot wsX5_place := goodIn_r _ [27, 6, 37, 38, 39, 40] (by decide +kernel) (by decide +kernel)
set_option maxRecDepth 20000 in
theorem gX1_readSlot_X5_place : GoodIn wsX1_readSlot (wsV RX1 49 RX5 yX5_place wsX5_place) := goodIn_app (goodIn_of _ (by decide +kernel)) ggX1_readSlot_X5_place
set_option maxRecDepth 20000 in
theorem ggX1_readSlot_X5_stopAt : GoodIn wsX1_readSlot wsX5_stopAt := goodIn_r _ [31, 6, 32, 37, 38, 39, 40] (by decide +kernel) (by decide +kernel)
set_option maxRecDepth 20000 in
theorem gX1_readSlot_X5_stopAt : GoodIn wsX1_readSlot (wsV RX1 70 RX5 yX5_stopAt wsX5_stopAt) := goodIn_app (goodIn_of _ (by decide +kernel)) ggX1_readSlot_X5_stopAt
set_option maxRecDepth 20000 in
theorem ggX1_readSlot_X5_number : GoodIn wsX1_readSlot wsX5_number := goodIn_r _ [36, 6, 32, 7, 8, 9, 4, 10, 11, 12, 37, 38, 39, 40] (by decide +kernel) (by decide +kernel)
set_option maxRecDepth 20000 in
theorem gX1_readSlot_X5_number : GoodIn wsX1_readSlot (wsV RX1 63 RX5 yX5_number wsX5_number) := goodIn_app (goodIn_of _ (by decide +kernel)) ggX1_readSlot_X5_number
theorem dX1_readSlot_0 : decode cX1_readSlot 0 = .ok (.aload_n 0, 1) := by decide +kernel
theorem dX1_readSlot_1 : decode cX1_readSlot 1 = .ok (.invokevirtual 105, 3) := by decide +kernel
theorem dX1_readSlot_4 : decode cX1_readSlot 4 = .ok (.istore_n 3, 1) := by decide +kernel
theorem dX1_readSlot_5 : decode cX1_readSlot 5 = .ok (.aload_n 1, 1) := by decide +kernel
theorem dX1_readSlot_6 : decode cX1_readSlot 6 = .ok (.iload_n 2, 1) := by decide +kernel
theorem dX1_readSlot_7 : decode cX1_readSlot 7 = .ok (.iload_n 3, 1) := by decide +kernel
theorem dX1_readSlot_8 : decode cX1_readSlot 8 = .ok (.invokevirtual 108, 3) := by decide +kernel
theorem dX1_readSlot_11 : decode cX1_readSlot 11 = .ok (.iconst (-1), 1) := by decide +kernel
theorem dX1_readSlot_12 : decode cX1_readSlot 12 = .ok (.if_icmp .ne 12, 3) := by decide +kernel
theorem dX1_readSlot_15 : decode cX1_readSlot 15 = .ok (.aload_n 0, 1) := by decide +kernel
theorem dX1_readSlot_16 : decode cX1_readSlot 16 = .ok (.aload_n 0, 1) := by decide +kernel
theorem dX1_readSlot_17 : decode cX1_readSlot 17 = .ok (.invokevirtual 49, 3) := by decide +kernel
theorem dX1_readSlot_20 : decode cX1_readSlot 20 = .ok (.invokevirtual 70, 3) := by decide +kernel
theorem dX1_readSlot_23 : decode cX1_readSlot 23 = .ok (.return_, 1) := by decide +kernel
theorem dX1_readSlot_24 : decode cX1_readSlot 24 = .ok (.aload_n 0, 1) := by decide +kernel
theorem dX1_readSlot_25 : decode cX1_readSlot 25 = .ok (.iload_n 3, 1) := by decide +kernel
theorem dX1_readSlot_26 : decode cX1_readSlot 26 = .ok (.iload_n 3, 1) := by decide +kernel
theorem dX1_readSlot_27 : decode cX1_readSlot 27 = .ok (.invokevirtual 63, 3) := by decide +kernel
theorem dX1_readSlot_30 : decode cX1_readSlot 30 = .ok (.pop, 1) := by decide +kernel
theorem dX1_readSlot_31 : decode cX1_readSlot 31 = .ok (.return_, 1) := by decide +kernel
theorem dX1_markBegin_0 : decode cX1_markBegin 0 = .ok (.iload_n 1, 1) := by decide +kernel
theorem dX1_markBegin_1 : decode cX1_markBegin 1 = .ok (.iconst 5, 1) := by decide +kernel
theorem dX1_markBegin_2 : decode cX1_markBegin 2 = .ok (.ishr, 1) := by decide +kernel
theorem dX1_markBegin_3 : decode cX1_markBegin 3 = .ok (.istore_n 2, 1) := by decide +kernel
theorem dX1_markBegin_4 : decode cX1_markBegin 4 = .ok (.iload_n 2, 1) := by decide +kernel
theorem dX1_markBegin_5 : decode cX1_markBegin 5 = .ok (.ifCond .lt 27, 3) := by decide +kernel
theorem dX1_markBegin_8 : decode cX1_markBegin 8 = .ok (.iload_n 2, 1) := by decide +kernel
theorem dX1_markBegin_9 : decode cX1_markBegin 9 = .ok (.aload_n 0, 1) := by decide +kernel
theorem dX1_markBegin_10 : decode cX1_markBegin 10 = .ok (.getfield 25, 3) := by decide +kernel
theorem dX1_markBegin_13 : decode cX1_markBegin 13 = .ok (.arraylength, 1) := by decide +kernel
theorem dX1_markBegin_14 : decode cX1_markBegin 14 = .ok (.if_icmp .ge 18, 3) := by decide +kernel
theorem dX1_markBegin_17 : decode cX1_markBegin 17 = .ok (.aload_n 0, 1) := by decide +kernel
theorem dX1_markBegin_18 : decode cX1_markBegin 18 = .ok (.getfield 25, 3) := by decide +kernel
theorem dX1_markBegin_21 : decode cX1_markBegin 21 = .ok (.iload_n 2, 1) := by decide +kernel
theorem dX1_markBegin_22 : decode cX1_markBegin 22 = .ok (.dup2, 1) := by decide +kernel
theorem dX1_markBegin_23 : decode cX1_markBegin 23 = .ok (.iaload, 1) := by decide +kernel
theorem dX1_markBegin_24 : decode cX1_markBegin 24 = .ok (.iconst 1, 1) := by decide +kernel
theorem dX1_markBegin_25 : decode cX1_markBegin 25 = .ok (.iload_n 1, 1) := by decide +kernel
theorem dX1_markBegin_26 : decode cX1_markBegin 26 = .ok (.bipush 31, 2) := by decide +kernel
theorem dX1_markBegin_28 : decode cX1_markBegin 28 = .ok (.iand, 1) := by decide +kernel
theorem dX1_markBegin_29 : decode cX1_markBegin 29 = .ok (.ishl, 1) := by decide +kernel
theorem dX1_markBegin_30 : decode cX1_markBegin 30 = .ok (.ior, 1) := by decide +kernel
theorem dX1_markBegin_31 : decode cX1_markBegin 31 = .ok (.iastore, 1) := by decide +kernel
theorem dX1_markBegin_32 : decode cX1_markBegin 32 = .ok (.return_, 1) := by decide +kernel
set_option maxRecDepth 20000 in
theorem ggX1_beginsAt_X1_length : GoodIn wsX1_beginsAt wsX1_length := goodIn_r _ [7, 8, 9, 10, 11, 12, 13] (by decide +kernel) (by decide +kernel)
set_option maxRecDepth 20000 in
theorem gX1_beginsAt_X1_length : GoodIn wsX1_beginsAt (wsV RX1 111 RX1 yX1_length wsX1_length) := goodIn_app (goodIn_of _ (by decide +kernel)) ggX1_beginsAt_X1_length
theorem dX1_beginsAt_0 : decode cX1_beginsAt 0 = .ok (.iload_n 2, 1) := by decide +kernel
theorem dX1_beginsAt_1 : decode cX1_beginsAt 1 = .ok (.ifCond .lt 12, 3) := by decide +kernel
theorem dX1_beginsAt_4 : decode cX1_beginsAt 4 = .ok (.iload_n 2, 1) := by decide +kernel
theorem dX1_beginsAt_5 : decode cX1_beginsAt 5 = .ok (.aload_n 0, 1) := by decide +kernel
theorem dX1_beginsAt_6 : decode cX1_beginsAt 6 = .ok (.iload_n 1, 1) := by decide +kernel
theorem dX1_beginsAt_7 : decode cX1_beginsAt 7 = .ok (.invokevirtual 111, 3) := by decide +kernel
theorem dX1_beginsAt_10 : decode cX1_beginsAt 10 = .ok (.if_icmp .lt 5, 3) := by decide +kernel
theorem dX1_beginsAt_13 : decode cX1_beginsAt 13 = .ok (.iconst 0, 1) := by decide +kernel
theorem dX1_beginsAt_14 : decode cX1_beginsAt 14 = .ok (.ireturn, 1) := by decide +kernel
theorem dX1_beginsAt_15 : decode cX1_beginsAt 15 = .ok (.aload_n 0, 1) := by decide +kernel
theorem dX1_beginsAt_16 : decode cX1_beginsAt 16 = .ok (.getfield 11, 3) := by decide +kernel
theorem dX1_beginsAt_19 : decode cX1_beginsAt 19 = .ok (.iload_n 1, 1) := by decide +kernel
theorem dX1_beginsAt_20 : decode cX1_beginsAt 20 = .ok (.iaload, 1) := by decide +kernel
theorem dX1_beginsAt_21 : decode cX1_beginsAt 21 = .ok (.iload_n 2, 1) := by decide +kernel
theorem dX1_beginsAt_22 : decode cX1_beginsAt 22 = .ok (.iadd, 1) := by decide +kernel
theorem dX1_beginsAt_23 : decode cX1_beginsAt 23 = .ok (.istore_n 3, 1) := by decide +kernel
theorem dX1_beginsAt_24 : decode cX1_beginsAt 24 = .ok (.iload_n 3, 1) := by decide +kernel
theorem dX1_beginsAt_25 : decode cX1_beginsAt 25 = .ok (.iconst 5, 1) := by decide +kernel
theorem dX1_beginsAt_26 : decode cX1_beginsAt 26 = .ok (.ishr, 1) := by decide +kernel
theorem dX1_beginsAt_27 : decode cX1_beginsAt 27 = .ok (.istore 4, 2) := by decide +kernel
theorem dX1_beginsAt_29 : decode cX1_beginsAt 29 = .ok (.iload 4, 2) := by decide +kernel
theorem dX1_beginsAt_31 : decode cX1_beginsAt 31 = .ok (.ifCond .lt 35, 3) := by decide +kernel
theorem dX1_beginsAt_34 : decode cX1_beginsAt 34 = .ok (.iload 4, 2) := by decide +kernel
theorem dX1_beginsAt_36 : decode cX1_beginsAt 36 = .ok (.aload_n 0, 1) := by decide +kernel
theorem dX1_beginsAt_37 : decode cX1_beginsAt 37 = .ok (.getfield 25, 3) := by decide +kernel
theorem dX1_beginsAt_40 : decode cX1_beginsAt 40 = .ok (.arraylength, 1) := by decide +kernel
theorem dX1_beginsAt_41 : decode cX1_beginsAt 41 = .ok (.if_icmp .ge 25, 3) := by decide +kernel
theorem dX1_beginsAt_44 : decode cX1_beginsAt 44 = .ok (.aload_n 0, 1) := by decide +kernel
theorem dX1_beginsAt_45 : decode cX1_beginsAt 45 = .ok (.getfield 25, 3) := by decide +kernel
theorem dX1_beginsAt_48 : decode cX1_beginsAt 48 = .ok (.iload 4, 2) := by decide +kernel
theorem dX1_beginsAt_50 : decode cX1_beginsAt 50 = .ok (.iaload, 1) := by decide +kernel
theorem dX1_beginsAt_51 : decode cX1_beginsAt 51 = .ok (.iload_n 3, 1) := by decide +kernel
theorem dX1_beginsAt_52 : decode cX1_beginsAt 52 = .ok (.bipush 31, 2) := by decide +kernel
theorem dX1_beginsAt_54 : decode cX1_beginsAt 54 = .ok (.iand, 1) := by decide +kernel
theorem dX1_beginsAt_55 : decode cX1_beginsAt 55 = .ok (.iushr, 1) := by decide +kernel
theorem dX1_beginsAt_56 : decode cX1_beginsAt 56 = .ok (.iconst 1, 1) := by decide +kernel
theorem dX1_beginsAt_57 : decode cX1_beginsAt 57 = .ok (.iand, 1) := by decide +kernel
theorem dX1_beginsAt_58 : decode cX1_beginsAt 58 = .ok (.iconst 1, 1) := by decide +kernel
theorem dX1_beginsAt_59 : decode cX1_beginsAt 59 = .ok (.if_icmp .ne 7, 3) := by decide +kernel
theorem dX1_beginsAt_62 : decode cX1_beginsAt 62 = .ok (.iconst 1, 1) := by decide +kernel
theorem dX1_beginsAt_63 : decode cX1_beginsAt 63 = .ok (.goto 4, 3) := by decide +kernel
theorem dX1_beginsAt_66 : decode cX1_beginsAt 66 = .ok (.iconst 0, 1) := by decide +kernel
theorem dX1_beginsAt_67 : decode cX1_beginsAt 67 = .ok (.ireturn, 1) := by decide +kernel
theorem dX1_length_0 : decode cX1_length 0 = .ok (.iload_n 1, 1) := by decide +kernel
theorem dX1_length_1 : decode cX1_length 1 = .ok (.ifCond .lt 18, 3) := by decide +kernel
theorem dX1_length_4 : decode cX1_length 4 = .ok (.iload_n 1, 1) := by decide +kernel
theorem dX1_length_5 : decode cX1_length 5 = .ok (.bipush 64, 2) := by decide +kernel
theorem dX1_length_7 : decode cX1_length 7 = .ok (.if_icmp .ge 12, 3) := by decide +kernel
theorem dX1_length_10 : decode cX1_length 10 = .ok (.aload_n 0, 1) := by decide +kernel
theorem dX1_length_11 : decode cX1_length 11 = .ok (.getfield 17, 3) := by decide +kernel
theorem dX1_length_14 : decode cX1_length 14 = .ok (.iload_n 1, 1) := by decide +kernel
theorem dX1_length_15 : decode cX1_length 15 = .ok (.iaload, 1) := by decide +kernel
theorem dX1_length_16 : decode cX1_length 16 = .ok (.goto 4, 3) := by decide +kernel
theorem dX1_length_19 : decode cX1_length 19 = .ok (.iconst 0, 1) := by decide +kernel
theorem dX1_length_20 : decode cX1_length 20 = .ok (.ireturn, 1) := by decide +kernel
theorem dX1_size_0 : decode cX1_size 0 = .ok (.iload_n 1, 1) := by decide +kernel
theorem dX1_size_1 : decode cX1_size 1 = .ok (.ifCond .lt 18, 3) := by decide +kernel
theorem dX1_size_4 : decode cX1_size 4 = .ok (.iload_n 1, 1) := by decide +kernel
theorem dX1_size_5 : decode cX1_size 5 = .ok (.bipush 64, 2) := by decide +kernel
theorem dX1_size_7 : decode cX1_size 7 = .ok (.if_icmp .ge 12, 3) := by decide +kernel
theorem dX1_size_10 : decode cX1_size 10 = .ok (.aload_n 0, 1) := by decide +kernel
theorem dX1_size_11 : decode cX1_size 11 = .ok (.getfield 20, 3) := by decide +kernel
theorem dX1_size_14 : decode cX1_size 14 = .ok (.iload_n 1, 1) := by decide +kernel
theorem dX1_size_15 : decode cX1_size 15 = .ok (.iaload, 1) := by decide +kernel
theorem dX1_size_16 : decode cX1_size 16 = .ok (.goto 4, 3) := by decide +kernel
theorem dX1_size_19 : decode cX1_size 19 = .ok (.iconst 0, 1) := by decide +kernel
theorem dX1_size_20 : decode cX1_size 20 = .ok (.ireturn, 1) := by decide +kernel
set_option maxRecDepth 20000 in
theorem ggX1_placeOf_X1_size : GoodIn wsX1_placeOf wsX1_size := goodIn_r _ [6, 7, 31, 32, 33, 34, 35] (by decide +kernel) (by decide +kernel)
set_option maxRecDepth 20000 in
theorem gX1_placeOf_X1_size : GoodIn wsX1_placeOf (wsV RX1 112 RX1 yX1_size wsX1_size) := goodIn_app (goodIn_of _ (by decide +kernel)) ggX1_placeOf_X1_size
set_option maxRecDepth 20000 in
theorem ggX1_placeOf_X5_byteAt : GoodIn wsX1_placeOf wsX5_byteAt := goodIn_r _ [12, 13, 14, 36, 37, 38, 39] (by decide +kernel) (by decide +kernel)
set_option maxRecDepth 20000 in
theorem gX1_placeOf_X5_byteAt : GoodIn wsX1_placeOf (wsV RX1 114 RX5 yX5_byteAt wsX5_byteAt) := goodIn_app (goodIn_of _ (by decide +kernel)) ggX1_placeOf_X5_byteAt
set_option maxRecDepth 20000 in
theorem ggX1_placeOf_X4_length : GoodIn wsX1_placeOf wsX4_length := goodIn_r _ [18, 19, 20, 17, 21, 22, 23, 24, 25, 26, 27, 28, 29, 30] (by decide +kernel) (by decide +kernel)
set_option maxRecDepth 20000 in
theorem gX1_placeOf_X4_length : GoodIn wsX1_placeOf (va_wsS RX1 66 yX4_length wsX4_length) := goodIn_app (goodIn_of _ (by decide +kernel)) ggX1_placeOf_X4_length
theorem dX1_placeOf_0 : decode cX1_placeOf 0 = .ok (.iload_n 3, 1) := by decide +kernel
theorem dX1_placeOf_1 : decode cX1_placeOf 1 = .ok (.ifCond .lt 12, 3) := by decide +kernel
theorem dX1_placeOf_4 : decode cX1_placeOf 4 = .ok (.iload_n 3, 1) := by decide +kernel
theorem dX1_placeOf_5 : decode cX1_placeOf 5 = .ok (.aload_n 0, 1) := by decide +kernel
theorem dX1_placeOf_6 : decode cX1_placeOf 6 = .ok (.iload_n 2, 1) := by decide +kernel
theorem dX1_placeOf_7 : decode cX1_placeOf 7 = .ok (.invokevirtual 112, 3) := by decide +kernel
theorem dX1_placeOf_10 : decode cX1_placeOf 10 = .ok (.if_icmp .lt 5, 3) := by decide +kernel
theorem dX1_placeOf_13 : decode cX1_placeOf 13 = .ok (.iconst (-1), 1) := by decide +kernel
theorem dX1_placeOf_14 : decode cX1_placeOf 14 = .ok (.ireturn, 1) := by decide +kernel
theorem dX1_placeOf_15 : decode cX1_placeOf 15 = .ok (.aload_n 0, 1) := by decide +kernel
theorem dX1_placeOf_16 : decode cX1_placeOf 16 = .ok (.getfield 11, 3) := by decide +kernel
theorem dX1_placeOf_19 : decode cX1_placeOf 19 = .ok (.iload_n 2, 1) := by decide +kernel
theorem dX1_placeOf_20 : decode cX1_placeOf 20 = .ok (.iaload, 1) := by decide +kernel
theorem dX1_placeOf_21 : decode cX1_placeOf 21 = .ok (.istore 4, 2) := by decide +kernel
theorem dX1_placeOf_23 : decode cX1_placeOf 23 = .ok (.iconst 0, 1) := by decide +kernel
theorem dX1_placeOf_24 : decode cX1_placeOf 24 = .ok (.istore 5, 2) := by decide +kernel
theorem dX1_placeOf_26 : decode cX1_placeOf 26 = .ok (.iload 5, 2) := by decide +kernel
theorem dX1_placeOf_28 : decode cX1_placeOf 28 = .ok (.iload_n 3, 1) := by decide +kernel
theorem dX1_placeOf_29 : decode cX1_placeOf 29 = .ok (.if_icmp .ge 23, 3) := by decide +kernel
theorem dX1_placeOf_32 : decode cX1_placeOf 32 = .ok (.iload 4, 2) := by decide +kernel
theorem dX1_placeOf_34 : decode cX1_placeOf 34 = .ok (.aload_n 1, 1) := by decide +kernel
theorem dX1_placeOf_35 : decode cX1_placeOf 35 = .ok (.iload 4, 2) := by decide +kernel
theorem dX1_placeOf_37 : decode cX1_placeOf 37 = .ok (.invokevirtual 114, 3) := by decide +kernel
theorem dX1_placeOf_40 : decode cX1_placeOf 40 = .ok (.invokestatic 66, 3) := by decide +kernel
theorem dX1_placeOf_43 : decode cX1_placeOf 43 = .ok (.iadd, 1) := by decide +kernel
theorem dX1_placeOf_44 : decode cX1_placeOf 44 = .ok (.istore 4, 2) := by decide +kernel
theorem dX1_placeOf_46 : decode cX1_placeOf 46 = .ok (.iinc 5 1, 3) := by decide +kernel
theorem dX1_placeOf_49 : decode cX1_placeOf 49 = .ok (.goto (-23), 3) := by decide +kernel
theorem dX1_placeOf_52 : decode cX1_placeOf 52 = .ok (.iload 4, 2) := by decide +kernel
theorem dX1_placeOf_54 : decode cX1_placeOf 54 = .ok (.aload_n 0, 1) := by decide +kernel
theorem dX1_placeOf_55 : decode cX1_placeOf 55 = .ok (.getfield 11, 3) := by decide +kernel
theorem dX1_placeOf_58 : decode cX1_placeOf 58 = .ok (.iload_n 2, 1) := by decide +kernel
theorem dX1_placeOf_59 : decode cX1_placeOf 59 = .ok (.iaload, 1) := by decide +kernel
theorem dX1_placeOf_60 : decode cX1_placeOf 60 = .ok (.isub, 1) := by decide +kernel
theorem dX1_placeOf_61 : decode cX1_placeOf 61 = .ok (.ireturn, 1) := by decide +kernel
set_option maxRecDepth 20000 in
theorem ggX1_fact_X1_beginsAt : GoodIn wsX1_fact wsX1_beginsAt := goodIn_r _ [6, 1, 7, 8, 9, 10, 5, 11, 12, 44, 45, 46, 47, 48] (by decide +kernel) (by decide +kernel)
set_option maxRecDepth 20000 in
theorem gX1_fact_X1_beginsAt : GoodIn wsX1_fact (wsV RX1 117 RX1 yX1_beginsAt wsX1_beginsAt) := goodIn_app (goodIn_of _ (by decide +kernel)) ggX1_fact_X1_beginsAt
set_option maxRecDepth 20000 in
theorem ggX1_fact_X5_byteAt : GoodIn wsX1_fact wsX5_byteAt := goodIn_r _ [17, 18, 19, 49, 50, 51, 52] (by decide +kernel) (by decide +kernel)
set_option maxRecDepth 20000 in
theorem gX1_fact_X5_byteAt : GoodIn wsX1_fact (wsV RX1 114 RX5 yX5_byteAt wsX5_byteAt) := goodIn_app (goodIn_of _ (by decide +kernel)) ggX1_fact_X5_byteAt
set_option maxRecDepth 20000 in
theorem ggX1_fact_X4_first : GoodIn wsX1_fact wsX4_first := goodIn_r _ [23, 24] (by decide +kernel) (by decide +kernel)
set_option maxRecDepth 20000 in
theorem gX1_fact_X4_first : GoodIn wsX1_fact (va_wsS RX1 77 yX4_first wsX4_first) := goodIn_app (goodIn_of _ (by decide +kernel)) ggX1_fact_X4_first
set_option maxRecDepth 20000 in
theorem ggX1_fact_X4_width : GoodIn wsX1_fact wsX4_width := goodIn_r _ [27, 28] (by decide +kernel) (by decide +kernel)
set_option maxRecDepth 20000 in
theorem gX1_fact_X4_width : GoodIn wsX1_fact (va_wsS RX1 99 yX4_width wsX4_width) := goodIn_app (goodIn_of _ (by decide +kernel)) ggX1_fact_X4_width
set_option maxRecDepth 20000 in
theorem ggX1_fact_X5_valueAt : GoodIn wsX1_fact wsX5_valueAt := goodIn_r _ [32, 33, 14, 15, 16, 17, 18, 19, 49, 50, 51, 52] (by decide +kernel) (by decide +kernel)
set_option maxRecDepth 20000 in
theorem gX1_fact_X5_valueAt : GoodIn wsX1_fact (wsV RX1 121 RX5 yX5_valueAt wsX5_valueAt) := goodIn_app (goodIn_of _ (by decide +kernel)) ggX1_fact_X5_valueAt
set_option maxRecDepth 20000 in
theorem ggX1_fact_X4_second : GoodIn wsX1_fact wsX4_second := goodIn_r _ [36, 37] (by decide +kernel) (by decide +kernel)
set_option maxRecDepth 20000 in
theorem gX1_fact_X4_second : GoodIn wsX1_fact (va_wsS RX1 84 yX4_second wsX4_second) := goodIn_app (goodIn_of _ (by decide +kernel)) ggX1_fact_X4_second
set_option maxRecDepth 20000 in
theorem ggX1_fact_X4_length : GoodIn wsX1_fact wsX4_length := goodIn_r _ [40, 41, 21, 22, 23, 24, 42, 26, 27, 28, 43, 35, 36, 37] (by decide +kernel) (by decide +kernel)
set_option maxRecDepth 20000 in
theorem gX1_fact_X4_length : GoodIn wsX1_fact (va_wsS RX1 66 yX4_length wsX4_length) := goodIn_app (goodIn_of _ (by decide +kernel)) ggX1_fact_X4_length
theorem dX1_fact_0 : decode cX1_fact 0 = .ok (.aload_n 0, 1) := by decide +kernel
theorem dX1_fact_1 : decode cX1_fact 1 = .ok (.iload_n 2, 1) := by decide +kernel
theorem dX1_fact_2 : decode cX1_fact 2 = .ok (.iload_n 3, 1) := by decide +kernel
theorem dX1_fact_3 : decode cX1_fact 3 = .ok (.invokevirtual 117, 3) := by decide +kernel
theorem dX1_fact_6 : decode cX1_fact 6 = .ok (.ifCond .ne 5, 3) := by decide +kernel
theorem dX1_fact_9 : decode cX1_fact 9 = .ok (.iconst (-1), 1) := by decide +kernel
theorem dX1_fact_10 : decode cX1_fact 10 = .ok (.ireturn, 1) := by decide +kernel
theorem dX1_fact_11 : decode cX1_fact 11 = .ok (.aload_n 0, 1) := by decide +kernel
theorem dX1_fact_12 : decode cX1_fact 12 = .ok (.getfield 11, 3) := by decide +kernel
theorem dX1_fact_15 : decode cX1_fact 15 = .ok (.iload_n 2, 1) := by decide +kernel
theorem dX1_fact_16 : decode cX1_fact 16 = .ok (.iaload, 1) := by decide +kernel
theorem dX1_fact_17 : decode cX1_fact 17 = .ok (.iload_n 3, 1) := by decide +kernel
theorem dX1_fact_18 : decode cX1_fact 18 = .ok (.iadd, 1) := by decide +kernel
theorem dX1_fact_19 : decode cX1_fact 19 = .ok (.istore 5, 2) := by decide +kernel
theorem dX1_fact_21 : decode cX1_fact 21 = .ok (.aload_n 1, 1) := by decide +kernel
theorem dX1_fact_22 : decode cX1_fact 22 = .ok (.iload 5, 2) := by decide +kernel
theorem dX1_fact_24 : decode cX1_fact 24 = .ok (.invokevirtual 114, 3) := by decide +kernel
theorem dX1_fact_27 : decode cX1_fact 27 = .ok (.istore 6, 2) := by decide +kernel
theorem dX1_fact_29 : decode cX1_fact 29 = .ok (.iload 6, 2) := by decide +kernel
theorem dX1_fact_31 : decode cX1_fact 31 = .ok (.invokestatic 77, 3) := by decide +kernel
theorem dX1_fact_34 : decode cX1_fact 34 = .ok (.invokestatic 99, 3) := by decide +kernel
theorem dX1_fact_37 : decode cX1_fact 37 = .ok (.istore 7, 2) := by decide +kernel
theorem dX1_fact_39 : decode cX1_fact 39 = .ok (.iload 4, 2) := by decide +kernel
theorem dX1_fact_41 : decode cX1_fact 41 = .ok (.tableswitch 73 0 3 #[31, 34, 45, 65], 31) := by decide +kernel
theorem dX1_fact_72 : decode cX1_fact 72 = .ok (.iload 6, 2) := by decide +kernel
theorem dX1_fact_74 : decode cX1_fact 74 = .ok (.ireturn, 1) := by decide +kernel
theorem dX1_fact_75 : decode cX1_fact 75 = .ok (.aload_n 1, 1) := by decide +kernel
theorem dX1_fact_76 : decode cX1_fact 76 = .ok (.iload 5, 2) := by decide +kernel
theorem dX1_fact_78 : decode cX1_fact 78 = .ok (.iconst 1, 1) := by decide +kernel
theorem dX1_fact_79 : decode cX1_fact 79 = .ok (.iadd, 1) := by decide +kernel
theorem dX1_fact_80 : decode cX1_fact 80 = .ok (.iload 7, 2) := by decide +kernel
theorem dX1_fact_82 : decode cX1_fact 82 = .ok (.invokevirtual 121, 3) := by decide +kernel
theorem dX1_fact_85 : decode cX1_fact 85 = .ok (.ireturn, 1) := by decide +kernel
theorem dX1_fact_86 : decode cX1_fact 86 = .ok (.aload_n 1, 1) := by decide +kernel
theorem dX1_fact_87 : decode cX1_fact 87 = .ok (.iload 5, 2) := by decide +kernel
theorem dX1_fact_89 : decode cX1_fact 89 = .ok (.iconst 1, 1) := by decide +kernel
theorem dX1_fact_90 : decode cX1_fact 90 = .ok (.iadd, 1) := by decide +kernel
theorem dX1_fact_91 : decode cX1_fact 91 = .ok (.iload 7, 2) := by decide +kernel
theorem dX1_fact_93 : decode cX1_fact 93 = .ok (.iadd, 1) := by decide +kernel
theorem dX1_fact_94 : decode cX1_fact 94 = .ok (.iload 6, 2) := by decide +kernel
theorem dX1_fact_96 : decode cX1_fact 96 = .ok (.invokestatic 84, 3) := by decide +kernel
theorem dX1_fact_99 : decode cX1_fact 99 = .ok (.invokestatic 99, 3) := by decide +kernel
theorem dX1_fact_102 : decode cX1_fact 102 = .ok (.invokevirtual 121, 3) := by decide +kernel
theorem dX1_fact_105 : decode cX1_fact 105 = .ok (.ireturn, 1) := by decide +kernel
theorem dX1_fact_106 : decode cX1_fact 106 = .ok (.iload_n 3, 1) := by decide +kernel
theorem dX1_fact_107 : decode cX1_fact 107 = .ok (.iload 6, 2) := by decide +kernel
theorem dX1_fact_109 : decode cX1_fact 109 = .ok (.invokestatic 66, 3) := by decide +kernel
theorem dX1_fact_112 : decode cX1_fact 112 = .ok (.iadd, 1) := by decide +kernel
theorem dX1_fact_113 : decode cX1_fact 113 = .ok (.ireturn, 1) := by decide +kernel
theorem dX1_fact_114 : decode cX1_fact 114 = .ok (.iconst (-1), 1) := by decide +kernel
theorem dX1_fact_115 : decode cX1_fact 115 = .ok (.ireturn, 1) := by decide +kernel
set_option maxRecDepth 20000 in
theorem ggX1_misfit_X1_size : GoodIn wsX1_misfit wsX1_size := goodIn_r _ [6, 7, 49, 50, 51, 52, 53] (by decide +kernel) (by decide +kernel)
set_option maxRecDepth 20000 in
theorem gX1_misfit_X1_size : GoodIn wsX1_misfit (wsV RX1 112 RX1 yX1_size wsX1_size) := goodIn_app (goodIn_of _ (by decide +kernel)) ggX1_misfit_X1_size
set_option maxRecDepth 20000 in
theorem ggX1_misfit_X5_byteAt : GoodIn wsX1_misfit wsX5_byteAt := goodIn_r _ [12, 13, 14, 54, 55, 56, 57] (by decide +kernel) (by decide +kernel)
set_option maxRecDepth 20000 in
theorem gX1_misfit_X5_byteAt : GoodIn wsX1_misfit (wsV RX1 114 RX5 yX5_byteAt wsX5_byteAt) := goodIn_app (goodIn_of _ (by decide +kernel)) ggX1_misfit_X5_byteAt
set_option maxRecDepth 20000 in
theorem ggX1_misfit_X4_first : GoodIn wsX1_misfit wsX4_first := goodIn_r _ [18, 19] (by decide +kernel) (by decide +kernel)
set_option maxRecDepth 20000 in
theorem gX1_misfit_X4_first : GoodIn wsX1_misfit (va_wsS RX1 77 yX4_first wsX4_first) := goodIn_app (goodIn_of _ (by decide +kernel)) ggX1_misfit_X4_first
set_option maxRecDepth 20000 in
theorem ggX1_misfit_X4_width : GoodIn wsX1_misfit wsX4_width := goodIn_r _ [22, 23] (by decide +kernel) (by decide +kernel)
set_option maxRecDepth 20000 in
theorem gX1_misfit_X4_width : GoodIn wsX1_misfit (va_wsS RX1 99 yX4_width wsX4_width) := goodIn_app (goodIn_of _ (by decide +kernel)) ggX1_misfit_X4_width
set_option maxRecDepth 20000 in
theorem ggX1_misfit_X5_valueAt : GoodIn wsX1_misfit wsX5_valueAt := goodIn_r _ [27, 28, 9, 10, 11, 12, 13, 14, 54, 55, 56, 57] (by decide +kernel) (by decide +kernel)
set_option maxRecDepth 20000 in
theorem gX1_misfit_X5_valueAt : GoodIn wsX1_misfit (wsV RX1 121 RX5 yX5_valueAt wsX5_valueAt) := goodIn_app (goodIn_of _ (by decide +kernel)) ggX1_misfit_X5_valueAt
set_option maxRecDepth 20000 in
theorem ggX1_misfit_X1_beginsAt : GoodIn wsX1_misfit wsX1_beginsAt := goodIn_r _ [32, 1, 33, 34, 35, 36, 5, 37, 38, 49, 50, 51, 52, 53] (by decide +kernel) (by decide +kernel)
set_option maxRecDepth 20000 in
theorem gX1_misfit_X1_beginsAt : GoodIn wsX1_misfit (wsV RX1 117 RX1 yX1_beginsAt wsX1_beginsAt) := goodIn_app (goodIn_of _ (by decide +kernel)) ggX1_misfit_X1_beginsAt
set_option maxRecDepth 20000 in
theorem ggX1_misfit_X4_second : GoodIn wsX1_misfit wsX4_second := goodIn_r _ [41, 42] (by decide +kernel) (by decide +kernel)
set_option maxRecDepth 20000 in
theorem gX1_misfit_X4_second : GoodIn wsX1_misfit (va_wsS RX1 84 yX4_second wsX4_second) := goodIn_app (goodIn_of _ (by decide +kernel)) ggX1_misfit_X4_second
set_option maxRecDepth 20000 in
theorem ggX1_misfit_X4_length : GoodIn wsX1_misfit wsX4_length := goodIn_r _ [45, 46, 16, 17, 18, 19, 47, 21, 22, 23, 48, 40, 41, 42] (by decide +kernel) (by decide +kernel)
set_option maxRecDepth 20000 in
theorem gX1_misfit_X4_length : GoodIn wsX1_misfit (va_wsS RX1 66 yX4_length wsX4_length) := goodIn_app (goodIn_of _ (by decide +kernel)) ggX1_misfit_X4_length
theorem dX1_misfit_0 : decode cX1_misfit 0 = .ok (.aload_n 0, 1) := by decide +kernel
theorem dX1_misfit_1 : decode cX1_misfit 1 = .ok (.iload_n 2, 1) := by decide +kernel
theorem dX1_misfit_2 : decode cX1_misfit 2 = .ok (.invokevirtual 112, 3) := by decide +kernel
theorem dX1_misfit_5 : decode cX1_misfit 5 = .ok (.istore 4, 2) := by decide +kernel
theorem dX1_misfit_7 : decode cX1_misfit 7 = .ok (.iload 4, 2) := by decide +kernel
theorem dX1_misfit_9 : decode cX1_misfit 9 = .ok (.ifCond .le 12, 3) := by decide +kernel
theorem dX1_misfit_12 : decode cX1_misfit 12 = .ok (.aload_n 0, 1) := by decide +kernel
theorem dX1_misfit_13 : decode cX1_misfit 13 = .ok (.getfield 11, 3) := by decide +kernel
theorem dX1_misfit_16 : decode cX1_misfit 16 = .ok (.iload_n 2, 1) := by decide +kernel
theorem dX1_misfit_17 : decode cX1_misfit 17 = .ok (.iaload, 1) := by decide +kernel
theorem dX1_misfit_18 : decode cX1_misfit 18 = .ok (.goto 4, 3) := by decide +kernel
theorem dX1_misfit_21 : decode cX1_misfit 21 = .ok (.iconst 0, 1) := by decide +kernel
theorem dX1_misfit_22 : decode cX1_misfit 22 = .ok (.istore 5, 2) := by decide +kernel
theorem dX1_misfit_24 : decode cX1_misfit 24 = .ok (.iconst 0, 1) := by decide +kernel
theorem dX1_misfit_25 : decode cX1_misfit 25 = .ok (.istore 6, 2) := by decide +kernel
theorem dX1_misfit_27 : decode cX1_misfit 27 = .ok (.iload 6, 2) := by decide +kernel
theorem dX1_misfit_29 : decode cX1_misfit 29 = .ok (.iload 4, 2) := by decide +kernel
theorem dX1_misfit_31 : decode cX1_misfit 31 = .ok (.if_icmp .ge 125, 3) := by decide +kernel
theorem dX1_misfit_34 : decode cX1_misfit 34 = .ok (.aload_n 1, 1) := by decide +kernel
theorem dX1_misfit_35 : decode cX1_misfit 35 = .ok (.iload 5, 2) := by decide +kernel
theorem dX1_misfit_37 : decode cX1_misfit 37 = .ok (.invokevirtual 114, 3) := by decide +kernel
theorem dX1_misfit_40 : decode cX1_misfit 40 = .ok (.istore 7, 2) := by decide +kernel
theorem dX1_misfit_42 : decode cX1_misfit 42 = .ok (.iload 7, 2) := by decide +kernel
theorem dX1_misfit_44 : decode cX1_misfit 44 = .ok (.invokestatic 77, 3) := by decide +kernel
theorem dX1_misfit_47 : decode cX1_misfit 47 = .ok (.istore 8, 2) := by decide +kernel
theorem dX1_misfit_49 : decode cX1_misfit 49 = .ok (.iload 5, 2) := by decide +kernel
theorem dX1_misfit_51 : decode cX1_misfit 51 = .ok (.iconst 1, 1) := by decide +kernel
theorem dX1_misfit_52 : decode cX1_misfit 52 = .ok (.iadd, 1) := by decide +kernel
theorem dX1_misfit_53 : decode cX1_misfit 53 = .ok (.iload 8, 2) := by decide +kernel
theorem dX1_misfit_55 : decode cX1_misfit 55 = .ok (.invokestatic 99, 3) := by decide +kernel
theorem dX1_misfit_58 : decode cX1_misfit 58 = .ok (.iadd, 1) := by decide +kernel
theorem dX1_misfit_59 : decode cX1_misfit 59 = .ok (.istore 9, 2) := by decide +kernel
theorem dX1_misfit_61 : decode cX1_misfit 61 = .ok (.iload 8, 2) := by decide +kernel
theorem dX1_misfit_63 : decode cX1_misfit 63 = .ok (.bipush 8, 2) := by decide +kernel
theorem dX1_misfit_65 : decode cX1_misfit 65 = .ok (.if_icmp .ne 20, 3) := by decide +kernel
theorem dX1_misfit_68 : decode cX1_misfit 68 = .ok (.aload_n 1, 1) := by decide +kernel
theorem dX1_misfit_69 : decode cX1_misfit 69 = .ok (.iload 5, 2) := by decide +kernel
theorem dX1_misfit_71 : decode cX1_misfit 71 = .ok (.iconst 1, 1) := by decide +kernel
theorem dX1_misfit_72 : decode cX1_misfit 72 = .ok (.iadd, 1) := by decide +kernel
theorem dX1_misfit_73 : decode cX1_misfit 73 = .ok (.invokevirtual 114, 3) := by decide +kernel
theorem dX1_misfit_76 : decode cX1_misfit 76 = .ok (.iload_n 3, 1) := by decide +kernel
theorem dX1_misfit_77 : decode cX1_misfit 77 = .ok (.if_icmp .lt 8, 3) := by decide +kernel
theorem dX1_misfit_80 : decode cX1_misfit 80 = .ok (.iload 5, 2) := by decide +kernel
theorem dX1_misfit_82 : decode cX1_misfit 82 = .ok (.iconst 1, 1) := by decide +kernel
theorem dX1_misfit_83 : decode cX1_misfit 83 = .ok (.iadd, 1) := by decide +kernel
theorem dX1_misfit_84 : decode cX1_misfit 84 = .ok (.ireturn, 1) := by decide +kernel
theorem dX1_misfit_85 : decode cX1_misfit 85 = .ok (.iload 8, 2) := by decide +kernel
theorem dX1_misfit_87 : decode cX1_misfit 87 = .ok (.iconst 4, 1) := by decide +kernel
theorem dX1_misfit_88 : decode cX1_misfit 88 = .ok (.if_icmp .ne 25, 3) := by decide +kernel
theorem dX1_misfit_91 : decode cX1_misfit 91 = .ok (.aload_n 0, 1) := by decide +kernel
theorem dX1_misfit_92 : decode cX1_misfit 92 = .ok (.iload_n 2, 1) := by decide +kernel
theorem dX1_misfit_93 : decode cX1_misfit 93 = .ok (.aload_n 1, 1) := by decide +kernel
theorem dX1_misfit_94 : decode cX1_misfit 94 = .ok (.iload 5, 2) := by decide +kernel
theorem dX1_misfit_96 : decode cX1_misfit 96 = .ok (.iconst 1, 1) := by decide +kernel
theorem dX1_misfit_97 : decode cX1_misfit 97 = .ok (.iadd, 1) := by decide +kernel
theorem dX1_misfit_98 : decode cX1_misfit 98 = .ok (.iconst 2, 1) := by decide +kernel
theorem dX1_misfit_99 : decode cX1_misfit 99 = .ok (.invokevirtual 121, 3) := by decide +kernel
theorem dX1_misfit_102 : decode cX1_misfit 102 = .ok (.invokevirtual 117, 3) := by decide +kernel
theorem dX1_misfit_105 : decode cX1_misfit 105 = .ok (.ifCond .ne 8, 3) := by decide +kernel
theorem dX1_misfit_108 : decode cX1_misfit 108 = .ok (.iload 5, 2) := by decide +kernel
theorem dX1_misfit_110 : decode cX1_misfit 110 = .ok (.iconst 1, 1) := by decide +kernel
theorem dX1_misfit_111 : decode cX1_misfit 111 = .ok (.iadd, 1) := by decide +kernel
theorem dX1_misfit_112 : decode cX1_misfit 112 = .ok (.ireturn, 1) := by decide +kernel
theorem dX1_misfit_113 : decode cX1_misfit 113 = .ok (.iload 7, 2) := by decide +kernel
theorem dX1_misfit_115 : decode cX1_misfit 115 = .ok (.invokestatic 84, 3) := by decide +kernel
theorem dX1_misfit_118 : decode cX1_misfit 118 = .ok (.iconst 4, 1) := by decide +kernel
theorem dX1_misfit_119 : decode cX1_misfit 119 = .ok (.if_icmp .ne 21, 3) := by decide +kernel
theorem dX1_misfit_122 : decode cX1_misfit 122 = .ok (.aload_n 0, 1) := by decide +kernel
theorem dX1_misfit_123 : decode cX1_misfit 123 = .ok (.iload_n 2, 1) := by decide +kernel
theorem dX1_misfit_124 : decode cX1_misfit 124 = .ok (.aload_n 1, 1) := by decide +kernel
theorem dX1_misfit_125 : decode cX1_misfit 125 = .ok (.iload 9, 2) := by decide +kernel
theorem dX1_misfit_127 : decode cX1_misfit 127 = .ok (.iconst 2, 1) := by decide +kernel
theorem dX1_misfit_128 : decode cX1_misfit 128 = .ok (.invokevirtual 121, 3) := by decide +kernel
theorem dX1_misfit_131 : decode cX1_misfit 131 = .ok (.invokevirtual 117, 3) := by decide +kernel
theorem dX1_misfit_134 : decode cX1_misfit 134 = .ok (.ifCond .ne 6, 3) := by decide +kernel
theorem dX1_misfit_137 : decode cX1_misfit 137 = .ok (.iload 9, 2) := by decide +kernel
theorem dX1_misfit_139 : decode cX1_misfit 139 = .ok (.ireturn, 1) := by decide +kernel
theorem dX1_misfit_140 : decode cX1_misfit 140 = .ok (.iload 5, 2) := by decide +kernel
theorem dX1_misfit_142 : decode cX1_misfit 142 = .ok (.iload 7, 2) := by decide +kernel
theorem dX1_misfit_144 : decode cX1_misfit 144 = .ok (.invokestatic 66, 3) := by decide +kernel
theorem dX1_misfit_147 : decode cX1_misfit 147 = .ok (.iadd, 1) := by decide +kernel
theorem dX1_misfit_148 : decode cX1_misfit 148 = .ok (.istore 5, 2) := by decide +kernel
theorem dX1_misfit_150 : decode cX1_misfit 150 = .ok (.iinc 6 1, 3) := by decide +kernel
theorem dX1_misfit_153 : decode cX1_misfit 153 = .ok (.goto (-126), 3) := by decide +kernel
theorem dX1_misfit_156 : decode cX1_misfit 156 = .ok (.iconst (-1), 1) := by decide +kernel
theorem dX1_misfit_157 : decode cX1_misfit 157 = .ok (.ireturn, 1) := by decide +kernel
