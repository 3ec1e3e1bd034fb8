theorem dX8_end_19 : decode cX8_end 19 = .ok (.aload_n 0, 1) := by decide +kernel
theorem dX8_end_20 : decode cX8_end 20 = .ok (.iload_n 1, 1) := by decide +kernel
theorem dX8_end_21 : decode cX8_end 21 = .ok (.putfield 78, 3) := by decide +kernel
theorem dX8_end_24 : decode cX8_end 24 = .ok (.iconst 0, 1) := by decide +kernel
theorem dX8_end_25 : decode cX8_end 25 = .ok (.istore_n 2, 1) := by decide +kernel
theorem dX8_end_26 : decode cX8_end 26 = .ok (.iload_n 2, 1) := by decide +kernel
theorem dX8_end_27 : decode cX8_end 27 = .ok (.iload_n 1, 1) := by decide +kernel
theorem dX8_end_28 : decode cX8_end 28 = .ok (.if_icmp .ge 28, 3) := by decide +kernel
theorem dX8_end_31 : decode cX8_end 31 = .ok (.aload_n 0, 1) := by decide +kernel
theorem dX8_end_32 : decode cX8_end 32 = .ok (.getfield 13, 3) := by decide +kernel
theorem dX8_end_35 : decode cX8_end 35 = .ok (.iload_n 2, 1) := by decide +kernel
theorem dX8_end_36 : decode cX8_end 36 = .ok (.aload_n 0, 1) := by decide +kernel
theorem dX8_end_37 : decode cX8_end 37 = .ok (.getfield 9, 3) := by decide +kernel
theorem dX8_end_40 : decode cX8_end 40 = .ok (.iload_n 2, 1) := by decide +kernel
theorem dX8_end_41 : decode cX8_end 41 = .ok (.iaload, 1) := by decide +kernel
theorem dX8_end_42 : decode cX8_end 42 = .ok (.iastore, 1) := by decide +kernel
theorem dX8_end_43 : decode cX8_end 43 = .ok (.aload_n 0, 1) := by decide +kernel
theorem dX8_end_44 : decode cX8_end 44 = .ok (.getfield 16, 3) := by decide +kernel
theorem dX8_end_47 : decode cX8_end 47 = .ok (.iload_n 2, 1) := by decide +kernel
theorem dX8_end_48 : decode cX8_end 48 = .ok (.iconst 0, 1) := by decide +kernel
theorem dX8_end_49 : decode cX8_end 49 = .ok (.bastore, 1) := by decide +kernel
theorem dX8_end_50 : decode cX8_end 50 = .ok (.iinc 2 1, 3) := by decide +kernel
theorem dX8_end_53 : decode cX8_end 53 = .ok (.goto (-27), 3) := by decide +kernel
theorem dX8_end_56 : decode cX8_end 56 = .ok (.aload_n 0, 1) := by decide +kernel
theorem dX8_end_57 : decode cX8_end 57 = .ok (.iconst 0, 1) := by decide +kernel
theorem dX8_end_58 : decode cX8_end 58 = .ok (.putfield 68, 3) := by decide +kernel
theorem dX8_end_61 : decode cX8_end 61 = .ok (.aload_n 0, 1) := by decide +kernel
theorem dX8_end_62 : decode cX8_end 62 = .ok (.iconst 0, 1) := by decide +kernel
theorem dX8_end_63 : decode cX8_end 63 = .ok (.putfield 75, 3) := by decide +kernel
theorem dX8_end_66 : decode cX8_end 66 = .ok (.aload_n 0, 1) := by decide +kernel
theorem dX8_end_67 : decode cX8_end 67 = .ok (.iconst (-1), 1) := by decide +kernel
theorem dX8_end_68 : decode cX8_end 68 = .ok (.putfield 72, 3) := by decide +kernel
theorem dX8_end_71 : decode cX8_end 71 = .ok (.aload_n 0, 1) := by decide +kernel
theorem dX8_end_72 : decode cX8_end 72 = .ok (.iconst 0, 1) := by decide +kernel
theorem dX8_end_73 : decode cX8_end 73 = .ok (.putfield 117, 3) := by decide +kernel
theorem dX8_end_76 : decode cX8_end 76 = .ok (.aload_n 0, 1) := by decide +kernel
theorem dX8_end_77 : decode cX8_end 77 = .ok (.iconst 0, 1) := by decide +kernel
theorem dX8_end_78 : decode cX8_end 78 = .ok (.putfield 142, 3) := by decide +kernel
theorem dX8_end_81 : decode cX8_end 81 = .ok (.aload_n 0, 1) := by decide +kernel
theorem dX8_end_82 : decode cX8_end 82 = .ok (.invokevirtual 146, 3) := by decide +kernel
theorem dX8_end_85 : decode cX8_end 85 = .ok (.ifCond .eq 28, 3) := by decide +kernel
theorem dX8_end_88 : decode cX8_end 88 = .ok (.aload_n 0, 1) := by decide +kernel
theorem dX8_end_89 : decode cX8_end 89 = .ok (.invokevirtual 149, 3) := by decide +kernel
theorem dX8_end_92 : decode cX8_end 92 = .ok (.iconst 0, 1) := by decide +kernel
theorem dX8_end_93 : decode cX8_end 93 = .ok (.istore_n 2, 1) := by decide +kernel
theorem dX8_end_94 : decode cX8_end 94 = .ok (.iload_n 2, 1) := by decide +kernel
theorem dX8_end_95 : decode cX8_end 95 = .ok (.aload_n 0, 1) := by decide +kernel
theorem dX8_end_96 : decode cX8_end 96 = .ok (.getfield 123, 3) := by decide +kernel
theorem dX8_end_99 : decode cX8_end 99 = .ok (.if_icmp .ge 14, 3) := by decide +kernel
theorem dX8_end_102 : decode cX8_end 102 = .ok (.aload_n 0, 1) := by decide +kernel
theorem dX8_end_103 : decode cX8_end 103 = .ok (.iload_n 2, 1) := by decide +kernel
theorem dX8_end_104 : decode cX8_end 104 = .ok (.invokevirtual 152, 3) := by decide +kernel
theorem dX8_end_107 : decode cX8_end 107 = .ok (.iinc 2 1, 3) := by decide +kernel
theorem dX8_end_110 : decode cX8_end 110 = .ok (.goto (-16), 3) := by decide +kernel
theorem dX8_end_113 : decode cX8_end 113 = .ok (.aload_n 0, 1) := by decide +kernel
theorem dX8_end_114 : decode cX8_end 114 = .ok (.aload_n 0, 1) := by decide +kernel
theorem dX8_end_115 : decode cX8_end 115 = .ok (.getfield 72, 3) := by decide +kernel
theorem dX8_end_118 : decode cX8_end 118 = .ok (.ifCond .ge 7, 3) := by decide +kernel
theorem dX8_end_121 : decode cX8_end 121 = .ok (.iconst 1, 1) := by decide +kernel
theorem dX8_end_122 : decode cX8_end 122 = .ok (.goto 4, 3) := by decide +kernel
theorem dX8_end_125 : decode cX8_end 125 = .ok (.iconst 0, 1) := by decide +kernel
theorem dX8_end_126 : decode cX8_end 126 = .ok (.putfield 142, 3) := by decide +kernel
theorem dX8_end_129 : decode cX8_end 129 = .ok (.aload_n 0, 1) := by decide +kernel
theorem dX8_end_130 : decode cX8_end 130 = .ok (.getfield 142, 3) := by decide +kernel
theorem dX8_end_133 : decode cX8_end 133 = .ok (.ifCond .eq 10, 3) := by decide +kernel
theorem dX8_end_136 : decode cX8_end 136 = .ok (.aload_n 0, 1) := by decide +kernel
theorem dX8_end_137 : decode cX8_end 137 = .ok (.getfield 117, 3) := by decide +kernel
theorem dX8_end_140 : decode cX8_end 140 = .ok (.goto 10, 3) := by decide +kernel
theorem dX8_end_143 : decode cX8_end 143 = .ok (.bipush (-3), 2) := by decide +kernel
theorem dX8_end_145 : decode cX8_end 145 = .ok (.aload_n 0, 1) := by decide +kernel
theorem dX8_end_146 : decode cX8_end 146 = .ok (.getfield 72, 3) := by decide +kernel
theorem dX8_end_149 : decode cX8_end 149 = .ok (.isub, 1) := by decide +kernel
theorem dX8_end_150 : decode cX8_end 150 = .ok (.ireturn, 1) := by decide +kernel
theorem dX8_count_0 : decode cX8_count 0 = .ok (.iload_n 1, 1) := by decide +kernel
theorem dX8_count_1 : decode cX8_count 1 = .ok (.ifCond .lt 8, 3) := by decide +kernel
theorem dX8_count_4 : decode cX8_count 4 = .ok (.iload_n 1, 1) := by decide +kernel
theorem dX8_count_5 : decode cX8_count 5 = .ok (.iconst 3, 1) := by decide +kernel
theorem dX8_count_6 : decode cX8_count 6 = .ok (.if_icmp .le 5, 3) := by decide +kernel
theorem dX8_count_9 : decode cX8_count 9 = .ok (.iconst (-1), 1) := by decide +kernel
theorem dX8_count_10 : decode cX8_count 10 = .ok (.ireturn, 1) := by decide +kernel
theorem dX8_count_11 : decode cX8_count 11 = .ok (.aload_n 0, 1) := by decide +kernel
theorem dX8_count_12 : decode cX8_count 12 = .ok (.getfield 142, 3) := by decide +kernel
theorem dX8_count_15 : decode cX8_count 15 = .ok (.ifCond .ne 14, 3) := by decide +kernel
theorem dX8_count_18 : decode cX8_count 18 = .ok (.iload_n 1, 1) := by decide +kernel
theorem dX8_count_19 : decode cX8_count 19 = .ok (.iconst 3, 1) := by decide +kernel
theorem dX8_count_20 : decode cX8_count 20 = .ok (.if_icmp .ne 7, 3) := by decide +kernel
theorem dX8_count_23 : decode cX8_count 23 = .ok (.iconst (-1), 1) := by decide +kernel
theorem dX8_count_24 : decode cX8_count 24 = .ok (.goto 4, 3) := by decide +kernel
theorem dX8_count_27 : decode cX8_count 27 = .ok (.iconst 0, 1) := by decide +kernel
theorem dX8_count_28 : decode cX8_count 28 = .ok (.ireturn, 1) := by decide +kernel
theorem dX8_count_29 : decode cX8_count 29 = .ok (.iload_n 1, 1) := by decide +kernel
theorem dX8_count_30 : decode cX8_count 30 = .ok (.ifCond .ne 10, 3) := by decide +kernel
theorem dX8_count_33 : decode cX8_count 33 = .ok (.aload_n 0, 1) := by decide +kernel
theorem dX8_count_34 : decode cX8_count 34 = .ok (.getfield 89, 3) := by decide +kernel
theorem dX8_count_37 : decode cX8_count 37 = .ok (.goto 31, 3) := by decide +kernel
theorem dX8_count_40 : decode cX8_count 40 = .ok (.iload_n 1, 1) := by decide +kernel
theorem dX8_count_41 : decode cX8_count 41 = .ok (.iconst 1, 1) := by decide +kernel
theorem dX8_count_42 : decode cX8_count 42 = .ok (.if_icmp .ne 10, 3) := by decide +kernel
theorem dX8_count_45 : decode cX8_count 45 = .ok (.aload_n 0, 1) := by decide +kernel
theorem dX8_count_46 : decode cX8_count 46 = .ok (.getfield 123, 3) := by decide +kernel
theorem dX8_count_49 : decode cX8_count 49 = .ok (.goto 19, 3) := by decide +kernel
theorem dX8_count_52 : decode cX8_count 52 = .ok (.iload_n 1, 1) := by decide +kernel
theorem dX8_count_53 : decode cX8_count 53 = .ok (.iconst 2, 1) := by decide +kernel
theorem dX8_count_54 : decode cX8_count 54 = .ok (.if_icmp .ne 10, 3) := by decide +kernel
theorem dX8_count_57 : decode cX8_count 57 = .ok (.aload_n 0, 1) := by decide +kernel
theorem dX8_count_58 : decode cX8_count 58 = .ok (.getfield 117, 3) := by decide +kernel
theorem dX8_count_61 : decode cX8_count 61 = .ok (.goto 7, 3) := by decide +kernel
theorem dX8_count_64 : decode cX8_count 64 = .ok (.aload_n 0, 1) := by decide +kernel
theorem dX8_count_65 : decode cX8_count 65 = .ok (.getfield 129, 3) := by decide +kernel
theorem dX8_count_68 : decode cX8_count 68 = .ok (.ireturn, 1) := by decide +kernel
theorem dX8_isClass_0 : decode cX8_isClass 0 = .ok (.aload_n 0, 1) := by decide +kernel
theorem dX8_isClass_1 : decode cX8_isClass 1 = .ok (.getfield 142, 3) := by decide +kernel
theorem dX8_isClass_4 : decode cX8_isClass 4 = .ok (.ifCond .eq 19, 3) := by decide +kernel
theorem dX8_isClass_7 : decode cX8_isClass 7 = .ok (.iload_n 1, 1) := by decide +kernel
theorem dX8_isClass_8 : decode cX8_isClass 8 = .ok (.ifCond .lt 15, 3) := by decide +kernel
theorem dX8_isClass_11 : decode cX8_isClass 11 = .ok (.iload_n 1, 1) := by decide +kernel
theorem dX8_isClass_12 : decode cX8_isClass 12 = .ok (.aload_n 0, 1) := by decide +kernel
theorem dX8_isClass_13 : decode cX8_isClass 13 = .ok (.getfield 89, 3) := by decide +kernel
theorem dX8_isClass_16 : decode cX8_isClass 16 = .ok (.if_icmp .ge 7, 3) := by decide +kernel
theorem dX8_isClass_19 : decode cX8_isClass 19 = .ok (.iconst 1, 1) := by decide +kernel
theorem dX8_isClass_20 : decode cX8_isClass 20 = .ok (.goto 4, 3) := by decide +kernel
theorem dX8_isClass_23 : decode cX8_isClass 23 = .ok (.iconst 0, 1) := by decide +kernel
theorem dX8_isClass_24 : decode cX8_isClass 24 = .ok (.ireturn, 1) := by decide +kernel
theorem dX8_isMethod_0 : decode cX8_isMethod 0 = .ok (.aload_n 0, 1) := by decide +kernel
theorem dX8_isMethod_1 : decode cX8_isMethod 1 = .ok (.getfield 142, 3) := by decide +kernel
theorem dX8_isMethod_4 : decode cX8_isMethod 4 = .ok (.ifCond .eq 19, 3) := by decide +kernel
theorem dX8_isMethod_7 : decode cX8_isMethod 7 = .ok (.iload_n 1, 1) := by decide +kernel
theorem dX8_isMethod_8 : decode cX8_isMethod 8 = .ok (.ifCond .lt 15, 3) := by decide +kernel
theorem dX8_isMethod_11 : decode cX8_isMethod 11 = .ok (.iload_n 1, 1) := by decide +kernel
theorem dX8_isMethod_12 : decode cX8_isMethod 12 = .ok (.aload_n 0, 1) := by decide +kernel
theorem dX8_isMethod_13 : decode cX8_isMethod 13 = .ok (.getfield 123, 3) := by decide +kernel
theorem dX8_isMethod_16 : decode cX8_isMethod 16 = .ok (.if_icmp .ge 7, 3) := by decide +kernel
theorem dX8_isMethod_19 : decode cX8_isMethod 19 = .ok (.iconst 1, 1) := by decide +kernel
theorem dX8_isMethod_20 : decode cX8_isMethod 20 = .ok (.goto 4, 3) := by decide +kernel
theorem dX8_isMethod_23 : decode cX8_isMethod 23 = .ok (.iconst 0, 1) := by decide +kernel
theorem dX8_isMethod_24 : decode cX8_isMethod 24 = .ok (.ireturn, 1) := by decide +kernel
set_option maxRecDepth 20000 in
theorem ggX8_classOf_X8_isClass : GoodIn wsX8_classOf wsX8_isClass := goodIn_r _ [9, 10, 11, 12, 13, 14, 15, 16, 17, 18, 19, 20, 21, 22, 23, 24, 25, 26, 27, 28, 29, 30, 31, 32, 33, 34, 35, 36, 37, 38, 39] (by decide +kernel) (by decide +kernel)
set_option maxRecDepth 20000 in
theorem gX8_classOf_X8_isClass : GoodIn wsX8_classOf (wsV RX8 156 RX8 yX8_isClass wsX8_isClass) := goodIn_app (goodIn_of _ (by decide +kernel)) ggX8_classOf_X8_isClass
theorem dX8_classOf_0 : decode cX8_classOf 0 = .ok (.aload_n 0, 1) := by decide +kernel
theorem dX8_classOf_1 : decode cX8_classOf 1 = .ok (.iload_n 1, 1) := by decide +kernel
theorem dX8_classOf_2 : decode cX8_classOf 2 = .ok (.invokevirtual 156, 3) := by decide +kernel
theorem dX8_classOf_5 : decode cX8_classOf 5 = .ok (.ifCond .ne 5, 3) := by decide +kernel
theorem dX8_classOf_8 : decode cX8_classOf 8 = .ok (.iconst (-1), 1) := by decide +kernel
theorem dX8_classOf_9 : decode cX8_classOf 9 = .ok (.ireturn, 1) := by decide +kernel
theorem dX8_classOf_10 : decode cX8_classOf 10 = .ok (.iload_n 2, 1) := by decide +kernel
theorem dX8_classOf_11 : decode cX8_classOf 11 = .ok (.tableswitch 99 0 3 #[29, 36, 43, 73], 29) := by decide +kernel
theorem dX8_classOf_40 : decode cX8_classOf 40 = .ok (.aload_n 0, 1) := by decide +kernel
theorem dX8_classOf_41 : decode cX8_classOf 41 = .ok (.getfield 20, 3) := by decide +kernel
theorem dX8_classOf_44 : decode cX8_classOf 44 = .ok (.iload_n 1, 1) := by decide +kernel
theorem dX8_classOf_45 : decode cX8_classOf 45 = .ok (.iaload, 1) := by decide +kernel
theorem dX8_classOf_46 : decode cX8_classOf 46 = .ok (.ireturn, 1) := by decide +kernel
theorem dX8_classOf_47 : decode cX8_classOf 47 = .ok (.aload_n 0, 1) := by decide +kernel
theorem dX8_classOf_48 : decode cX8_classOf 48 = .ok (.getfield 23, 3) := by decide +kernel
theorem dX8_classOf_51 : decode cX8_classOf 51 = .ok (.iload_n 1, 1) := by decide +kernel
theorem dX8_classOf_52 : decode cX8_classOf 52 = .ok (.iaload, 1) := by decide +kernel
theorem dX8_classOf_53 : decode cX8_classOf 53 = .ok (.ireturn, 1) := by decide +kernel
theorem dX8_classOf_54 : decode cX8_classOf 54 = .ok (.iload_n 3, 1) := by decide +kernel
theorem dX8_classOf_55 : decode cX8_classOf 55 = .ok (.ifCond .lt 27, 3) := by decide +kernel
theorem dX8_classOf_58 : decode cX8_classOf 58 = .ok (.iload_n 3, 1) := by decide +kernel
theorem dX8_classOf_59 : decode cX8_classOf 59 = .ok (.aload_n 0, 1) := by decide +kernel
theorem dX8_classOf_60 : decode cX8_classOf 60 = .ok (.getfield 23, 3) := by decide +kernel
theorem dX8_classOf_63 : decode cX8_classOf 63 = .ok (.iload_n 1, 1) := by decide +kernel
theorem dX8_classOf_64 : decode cX8_classOf 64 = .ok (.iaload, 1) := by decide +kernel
theorem dX8_classOf_65 : decode cX8_classOf 65 = .ok (.if_icmp .ge 17, 3) := by decide +kernel
theorem dX8_classOf_68 : decode cX8_classOf 68 = .ok (.aload_n 0, 1) := by decide +kernel
theorem dX8_classOf_69 : decode cX8_classOf 69 = .ok (.getfield 26, 3) := by decide +kernel
theorem dX8_classOf_72 : decode cX8_classOf 72 = .ok (.bipush 15, 2) := by decide +kernel
theorem dX8_classOf_74 : decode cX8_classOf 74 = .ok (.iload_n 1, 1) := by decide +kernel
theorem dX8_classOf_75 : decode cX8_classOf 75 = .ok (.imul, 1) := by decide +kernel
theorem dX8_classOf_76 : decode cX8_classOf 76 = .ok (.iload_n 3, 1) := by decide +kernel
theorem dX8_classOf_77 : decode cX8_classOf 77 = .ok (.iadd, 1) := by decide +kernel
theorem dX8_classOf_78 : decode cX8_classOf 78 = .ok (.iaload, 1) := by decide +kernel
theorem dX8_classOf_79 : decode cX8_classOf 79 = .ok (.goto 4, 3) := by decide +kernel
theorem dX8_classOf_82 : decode cX8_classOf 82 = .ok (.iconst (-1), 1) := by decide +kernel
theorem dX8_classOf_83 : decode cX8_classOf 83 = .ok (.ireturn, 1) := by decide +kernel
theorem dX8_classOf_84 : decode cX8_classOf 84 = .ok (.iload_n 3, 1) := by decide +kernel
theorem dX8_classOf_85 : decode cX8_classOf 85 = .ok (.ifCond .lt 23, 3) := by decide +kernel
theorem dX8_classOf_88 : decode cX8_classOf 88 = .ok (.iload_n 3, 1) := by decide +kernel
theorem dX8_classOf_89 : decode cX8_classOf 89 = .ok (.bipush 16, 2) := by decide +kernel
theorem dX8_classOf_91 : decode cX8_classOf 91 = .ok (.if_icmp .ge 17, 3) := by decide +kernel
theorem dX8_classOf_94 : decode cX8_classOf 94 = .ok (.aload_n 0, 1) := by decide +kernel
theorem dX8_classOf_95 : decode cX8_classOf 95 = .ok (.getfield 29, 3) := by decide +kernel
theorem dX8_classOf_98 : decode cX8_classOf 98 = .ok (.bipush 16, 2) := by decide +kernel
theorem dX8_classOf_100 : decode cX8_classOf 100 = .ok (.iload_n 1, 1) := by decide +kernel
theorem dX8_classOf_101 : decode cX8_classOf 101 = .ok (.imul, 1) := by decide +kernel
theorem dX8_classOf_102 : decode cX8_classOf 102 = .ok (.iload_n 3, 1) := by decide +kernel
theorem dX8_classOf_103 : decode cX8_classOf 103 = .ok (.iadd, 1) := by decide +kernel
theorem dX8_classOf_104 : decode cX8_classOf 104 = .ok (.iaload, 1) := by decide +kernel
theorem dX8_classOf_105 : decode cX8_classOf 105 = .ok (.goto 4, 3) := by decide +kernel
theorem dX8_classOf_108 : decode cX8_classOf 108 = .ok (.iconst (-1), 1) := by decide +kernel
theorem dX8_classOf_109 : decode cX8_classOf 109 = .ok (.ireturn, 1) := by decide +kernel
theorem dX8_classOf_110 : decode cX8_classOf 110 = .ok (.iconst (-1), 1) := by decide +kernel
theorem dX8_classOf_111 : decode cX8_classOf 111 = .ok (.ireturn, 1) := by decide +kernel
set_option maxRecDepth 20000 in
theorem ggX8_isA_X8_isClass : GoodIn wsX8_isA wsX8_isClass := goodIn_r _ [6, 7, 8, 9, 10, 11, 12, 13, 14, 15, 16, 17, 18, 19, 20, 21, 22, 23, 24, 25, 26, 27, 28, 29, 30, 31, 32, 33, 34, 35, 36] (by decide +kernel) (by decide +kernel)
set_option maxRecDepth 20000 in
theorem gX8_isA_X8_isClass : GoodIn wsX8_isA (wsV RX8 156 RX8 yX8_isClass wsX8_isClass) := goodIn_app (goodIn_of _ (by decide +kernel)) ggX8_isA_X8_isClass
theorem dX8_isA_0 : decode cX8_isA 0 = .ok (.aload_n 0, 1) := by decide +kernel
theorem dX8_isA_1 : decode cX8_isA 1 = .ok (.iload_n 1, 1) := by decide +kernel
theorem dX8_isA_2 : decode cX8_isA 2 = .ok (.invokevirtual 156, 3) := by decide +kernel
theorem dX8_isA_5 : decode cX8_isA 5 = .ok (.ifCond .eq 11, 3) := by decide +kernel
theorem dX8_isA_8 : decode cX8_isA 8 = .ok (.aload_n 0, 1) := by decide +kernel
theorem dX8_isA_9 : decode cX8_isA 9 = .ok (.iload_n 2, 1) := by decide +kernel
theorem dX8_isA_10 : decode cX8_isA 10 = .ok (.invokevirtual 156, 3) := by decide +kernel
theorem dX8_isA_13 : decode cX8_isA 13 = .ok (.ifCond .ne 5, 3) := by decide +kernel
theorem dX8_isA_16 : decode cX8_isA 16 = .ok (.iconst 0, 1) := by decide +kernel
theorem dX8_isA_17 : decode cX8_isA 17 = .ok (.ireturn, 1) := by decide +kernel
theorem dX8_isA_18 : decode cX8_isA 18 = .ok (.iload_n 1, 1) := by decide +kernel
theorem dX8_isA_19 : decode cX8_isA 19 = .ok (.istore_n 3, 1) := by decide +kernel
theorem dX8_isA_20 : decode cX8_isA 20 = .ok (.iload_n 3, 1) := by decide +kernel
theorem dX8_isA_21 : decode cX8_isA 21 = .ok (.ifCond .lt 18, 3) := by decide +kernel
theorem dX8_isA_24 : decode cX8_isA 24 = .ok (.iload_n 3, 1) := by decide +kernel
theorem dX8_isA_25 : decode cX8_isA 25 = .ok (.iload_n 2, 1) := by decide +kernel
theorem dX8_isA_26 : decode cX8_isA 26 = .ok (.if_icmp .eq 13, 3) := by decide +kernel
theorem dX8_isA_29 : decode cX8_isA 29 = .ok (.aload_n 0, 1) := by decide +kernel
theorem dX8_isA_30 : decode cX8_isA 30 = .ok (.getfield 20, 3) := by decide +kernel
theorem dX8_isA_33 : decode cX8_isA 33 = .ok (.iload_n 3, 1) := by decide +kernel
theorem dX8_isA_34 : decode cX8_isA 34 = .ok (.iaload, 1) := by decide +kernel
theorem dX8_isA_35 : decode cX8_isA 35 = .ok (.istore_n 3, 1) := by decide +kernel
theorem dX8_isA_36 : decode cX8_isA 36 = .ok (.goto (-16), 3) := by decide +kernel
theorem dX8_isA_39 : decode cX8_isA 39 = .ok (.iload_n 3, 1) := by decide +kernel
theorem dX8_isA_40 : decode cX8_isA 40 = .ok (.iload_n 2, 1) := by decide +kernel
theorem dX8_isA_41 : decode cX8_isA 41 = .ok (.if_icmp .ne 7, 3) := by decide +kernel
theorem dX8_isA_44 : decode cX8_isA 44 = .ok (.iconst 1, 1) := by decide +kernel
theorem dX8_isA_45 : decode cX8_isA 45 = .ok (.goto 4, 3) := by decide +kernel
theorem dX8_isA_48 : decode cX8_isA 48 = .ok (.iconst 0, 1) := by decide +kernel
theorem dX8_isA_49 : decode cX8_isA 49 = .ok (.ireturn, 1) := by decide +kernel
set_option maxRecDepth 20000 in
theorem ggX8_method_X8_isMethod : GoodIn wsX8_method wsX8_isMethod := goodIn_r _ [13, 14, 15, 22, 23, 24, 25, 26, 27, 28, 29, 30, 31, 32, 33, 34, 35, 36, 37, 38, 39, 40, 41, 42, 43, 44, 45, 46, 47, 48, 49] (by decide +kernel) (by decide +kernel)
set_option maxRecDepth 20000 in
theorem gX8_method_X8_isMethod : GoodIn wsX8_method (wsV RX8 159 RX8 yX8_isMethod wsX8_isMethod) := goodIn_app (goodIn_of _ (by decide +kernel)) ggX8_method_X8_isMethod
set_option maxRecDepth 20000 in
theorem ggX8_method_X8_counted : GoodIn wsX8_method wsX8_counted := goodIn_r _ [19, 7, 20, 21, 22, 23, 24, 25, 26, 27, 28, 29, 30, 31, 32, 33, 34, 35, 36, 37, 38, 39, 40, 41, 42, 43, 44, 45, 46, 47, 48, 49] (by decide +kernel) (by decide +kernel)
set_option maxRecDepth 20000 in
theorem gX8_method_X8_counted : GoodIn wsX8_method (wsV RX8 162 RX8 yX8_counted wsX8_counted) := goodIn_app (goodIn_of _ (by decide +kernel)) ggX8_method_X8_counted
theorem dX8_method_0 : decode cX8_method 0 = .ok (.aload_n 0, 1) := by decide +kernel
theorem dX8_method_1 : decode cX8_method 1 = .ok (.iload_n 1, 1) := by decide +kernel
theorem dX8_method_2 : decode cX8_method 2 = .ok (.invokevirtual 159, 3) := by decide +kernel
theorem dX8_method_5 : decode cX8_method 5 = .ok (.ifCond .ne 5, 3) := by decide +kernel
theorem dX8_method_8 : decode cX8_method 8 = .ok (.iconst (-1), 1) := by decide +kernel
theorem dX8_method_9 : decode cX8_method 9 = .ok (.ireturn, 1) := by decide +kernel
theorem dX8_method_10 : decode cX8_method 10 = .ok (.iload_n 2, 1) := by decide +kernel
theorem dX8_method_11 : decode cX8_method 11 = .ok (.tableswitch 154 0 9 #[53, 60, 67, 97, 104, 111, 118, 125, 132, 147], 53) := by decide +kernel
theorem dX8_method_64 : decode cX8_method 64 = .ok (.aload_n 0, 1) := by decide +kernel
theorem dX8_method_65 : decode cX8_method 65 = .ok (.getfield 38, 3) := by decide +kernel
theorem dX8_method_68 : decode cX8_method 68 = .ok (.iload_n 1, 1) := by decide +kernel
theorem dX8_method_69 : decode cX8_method 69 = .ok (.iaload, 1) := by decide +kernel
theorem dX8_method_70 : decode cX8_method 70 = .ok (.ireturn, 1) := by decide +kernel
theorem dX8_method_71 : decode cX8_method 71 = .ok (.aload_n 0, 1) := by decide +kernel
theorem dX8_method_72 : decode cX8_method 72 = .ok (.getfield 41, 3) := by decide +kernel
theorem dX8_method_75 : decode cX8_method 75 = .ok (.iload_n 1, 1) := by decide +kernel
theorem dX8_method_76 : decode cX8_method 76 = .ok (.iaload, 1) := by decide +kernel
theorem dX8_method_77 : decode cX8_method 77 = .ok (.ireturn, 1) := by decide +kernel
theorem dX8_method_78 : decode cX8_method 78 = .ok (.iload_n 3, 1) := by decide +kernel
theorem dX8_method_79 : decode cX8_method 79 = .ok (.ifCond .lt 27, 3) := by decide +kernel
theorem dX8_method_82 : decode cX8_method 82 = .ok (.iload_n 3, 1) := by decide +kernel
theorem dX8_method_83 : decode cX8_method 83 = .ok (.aload_n 0, 1) := by decide +kernel
theorem dX8_method_84 : decode cX8_method 84 = .ok (.getfield 41, 3) := by decide +kernel
theorem dX8_method_87 : decode cX8_method 87 = .ok (.iload_n 1, 1) := by decide +kernel
theorem dX8_method_88 : decode cX8_method 88 = .ok (.iaload, 1) := by decide +kernel
theorem dX8_method_89 : decode cX8_method 89 = .ok (.if_icmp .ge 17, 3) := by decide +kernel
theorem dX8_method_92 : decode cX8_method 92 = .ok (.aload_n 0, 1) := by decide +kernel
theorem dX8_method_93 : decode cX8_method 93 = .ok (.getfield 44, 3) := by decide +kernel
theorem dX8_method_96 : decode cX8_method 96 = .ok (.bipush 8, 2) := by decide +kernel
theorem dX8_method_98 : decode cX8_method 98 = .ok (.iload_n 1, 1) := by decide +kernel
theorem dX8_method_99 : decode cX8_method 99 = .ok (.imul, 1) := by decide +kernel
theorem dX8_method_100 : decode cX8_method 100 = .ok (.iload_n 3, 1) := by decide +kernel
theorem dX8_method_101 : decode cX8_method 101 = .ok (.iadd, 1) := by decide +kernel
theorem dX8_method_102 : decode cX8_method 102 = .ok (.iaload, 1) := by decide +kernel
theorem dX8_method_103 : decode cX8_method 103 = .ok (.goto 4, 3) := by decide +kernel
theorem dX8_method_106 : decode cX8_method 106 = .ok (.iconst (-1), 1) := by decide +kernel
theorem dX8_method_107 : decode cX8_method 107 = .ok (.ireturn, 1) := by decide +kernel
theorem dX8_method_108 : decode cX8_method 108 = .ok (.aload_n 0, 1) := by decide +kernel
theorem dX8_method_109 : decode cX8_method 109 = .ok (.getfield 47, 3) := by decide +kernel
theorem dX8_method_112 : decode cX8_method 112 = .ok (.iload_n 1, 1) := by decide +kernel
theorem dX8_method_113 : decode cX8_method 113 = .ok (.iaload, 1) := by decide +kernel
theorem dX8_method_114 : decode cX8_method 114 = .ok (.ireturn, 1) := by decide +kernel
theorem dX8_method_115 : decode cX8_method 115 = .ok (.aload_n 0, 1) := by decide +kernel
theorem dX8_method_116 : decode cX8_method 116 = .ok (.getfield 50, 3) := by decide +kernel
theorem dX8_method_119 : decode cX8_method 119 = .ok (.iload_n 1, 1) := by decide +kernel
theorem dX8_method_120 : decode cX8_method 120 = .ok (.iaload, 1) := by decide +kernel
theorem dX8_method_121 : decode cX8_method 121 = .ok (.ireturn, 1) := by decide +kernel
theorem dX8_method_122 : decode cX8_method 122 = .ok (.aload_n 0, 1) := by decide +kernel
theorem dX8_method_123 : decode cX8_method 123 = .ok (.getfield 53, 3) := by decide +kernel
theorem dX8_method_126 : decode cX8_method 126 = .ok (.iload_n 1, 1) := by decide +kernel
theorem dX8_method_127 : decode cX8_method 127 = .ok (.iaload, 1) := by decide +kernel
theorem dX8_method_128 : decode cX8_method 128 = .ok (.ireturn, 1) := by decide +kernel
theorem dX8_method_129 : decode cX8_method 129 = .ok (.aload_n 0, 1) := by decide +kernel
theorem dX8_method_130 : decode cX8_method 130 = .ok (.getfield 59, 3) := by decide +kernel
theorem dX8_method_133 : decode cX8_method 133 = .ok (.iload_n 1, 1) := by decide +kernel
theorem dX8_method_134 : decode cX8_method 134 = .ok (.iaload, 1) := by decide +kernel
theorem dX8_method_135 : decode cX8_method 135 = .ok (.ireturn, 1) := by decide +kernel
theorem dX8_method_136 : decode cX8_method 136 = .ok (.aload_n 0, 1) := by decide +kernel
theorem dX8_method_137 : decode cX8_method 137 = .ok (.iload_n 1, 1) := by decide +kernel
theorem dX8_method_138 : decode cX8_method 138 = .ok (.iconst (-1), 1) := by decide +kernel
theorem dX8_method_139 : decode cX8_method 139 = .ok (.invokevirtual 162, 3) := by decide +kernel
theorem dX8_method_142 : decode cX8_method 142 = .ok (.ireturn, 1) := by decide +kernel
theorem dX8_method_143 : decode cX8_method 143 = .ok (.iload_n 3, 1) := by decide +kernel
theorem dX8_method_144 : decode cX8_method 144 = .ok (.ifCond .lt 12, 3) := by decide +kernel
theorem dX8_method_147 : decode cX8_method 147 = .ok (.aload_n 0, 1) := by decide +kernel
theorem dX8_method_148 : decode cX8_method 148 = .ok (.iload_n 1, 1) := by decide +kernel
theorem dX8_method_149 : decode cX8_method 149 = .ok (.iload_n 3, 1) := by decide +kernel
theorem dX8_method_150 : decode cX8_method 150 = .ok (.invokevirtual 162, 3) := by decide +kernel
theorem dX8_method_153 : decode cX8_method 153 = .ok (.goto 4, 3) := by decide +kernel
theorem dX8_method_156 : decode cX8_method 156 = .ok (.iconst (-1), 1) := by decide +kernel
theorem dX8_method_157 : decode cX8_method 157 = .ok (.ireturn, 1) := by decide +kernel
theorem dX8_method_158 : decode cX8_method 158 = .ok (.aload_n 0, 1) := by decide +kernel
theorem dX8_method_159 : decode cX8_method 159 = .ok (.getfield 62, 3) := by decide +kernel
theorem dX8_method_162 : decode cX8_method 162 = .ok (.iload_n 1, 1) := by decide +kernel
theorem dX8_method_163 : decode cX8_method 163 = .ok (.iaload, 1) := by decide +kernel
theorem dX8_method_164 : decode cX8_method 164 = .ok (.ireturn, 1) := by decide +kernel
theorem dX8_method_165 : decode cX8_method 165 = .ok (.iconst (-1), 1) := by decide +kernel
theorem dX8_method_166 : decode cX8_method 166 = .ok (.ireturn, 1) := by decide +kernel
theorem dX8_counted_0 : decode cX8_counted 0 = .ok (.iconst 0, 1) := by decide +kernel
theorem dX8_counted_1 : decode cX8_counted 1 = .ok (.istore_n 3, 1) := by decide +kernel
theorem dX8_counted_2 : decode cX8_counted 2 = .ok (.iconst 0, 1) := by decide +kernel
theorem dX8_counted_3 : decode cX8_counted 3 = .ok (.istore 4, 2) := by decide +kernel
theorem dX8_counted_5 : decode cX8_counted 5 = .ok (.iload 4, 2) := by decide +kernel
theorem dX8_counted_7 : decode cX8_counted 7 = .ok (.aload_n 0, 1) := by decide +kernel
theorem dX8_counted_8 : decode cX8_counted 8 = .ok (.getfield 59, 3) := by decide +kernel
theorem dX8_counted_11 : decode cX8_counted 11 = .ok (.iload_n 1, 1) := by decide +kernel
theorem dX8_counted_12 : decode cX8_counted 12 = .ok (.iaload, 1) := by decide +kernel
theorem dX8_counted_13 : decode cX8_counted 13 = .ok (.if_icmp .ge 37, 3) := by decide +kernel
theorem dX8_counted_16 : decode cX8_counted 16 = .ok (.aload_n 0, 1) := by decide +kernel
theorem dX8_counted_17 : decode cX8_counted 17 = .ok (.getfield 16, 3) := by decide +kernel
theorem dX8_counted_20 : decode cX8_counted 20 = .ok (.aload_n 0, 1) := by decide +kernel
theorem dX8_counted_21 : decode cX8_counted 21 = .ok (.getfield 56, 3) := by decide +kernel
theorem dX8_counted_24 : decode cX8_counted 24 = .ok (.iload_n 1, 1) := by decide +kernel
theorem dX8_counted_25 : decode cX8_counted 25 = .ok (.iaload, 1) := by decide +kernel
theorem dX8_counted_26 : decode cX8_counted 26 = .ok (.iload 4, 2) := by decide +kernel
theorem dX8_counted_28 : decode cX8_counted 28 = .ok (.iadd, 1) := by decide +kernel
theorem dX8_counted_29 : decode cX8_counted 29 = .ok (.baload, 1) := by decide +kernel
theorem dX8_counted_30 : decode cX8_counted 30 = .ok (.ifCond .eq 14, 3) := by decide +kernel
theorem dX8_counted_33 : decode cX8_counted 33 = .ok (.iload_n 3, 1) := by decide +kernel
theorem dX8_counted_34 : decode cX8_counted 34 = .ok (.iload_n 2, 1) := by decide +kernel
theorem dX8_counted_35 : decode cX8_counted 35 = .ok (.if_icmp .ne 6, 3) := by decide +kernel
theorem dX8_counted_38 : decode cX8_counted 38 = .ok (.iload 4, 2) := by decide +kernel
theorem dX8_counted_40 : decode cX8_counted 40 = .ok (.ireturn, 1) := by decide +kernel
theorem dX8_counted_41 : decode cX8_counted 41 = .ok (.iinc 3 1, 3) := by decide +kernel
theorem dX8_counted_44 : decode cX8_counted 44 = .ok (.iinc 4 1, 3) := by decide +kernel
theorem dX8_counted_47 : decode cX8_counted 47 = .ok (.goto (-42), 3) := by decide +kernel
theorem dX8_counted_50 : decode cX8_counted 50 = .ok (.iload_n 2, 1) := by decide +kernel
theorem dX8_counted_51 : decode cX8_counted 51 = .ok (.iconst (-1), 1) := by decide +kernel
theorem dX8_counted_52 : decode cX8_counted 52 = .ok (.if_icmp .ne 7, 3) := by decide +kernel
theorem dX8_counted_55 : decode cX8_counted 55 = .ok (.iload_n 3, 1) := by decide +kernel
theorem dX8_counted_56 : decode cX8_counted 56 = .ok (.goto 4, 3) := by decide +kernel
theorem dX8_counted_59 : decode cX8_counted 59 = .ok (.iconst (-1), 1) := by decide +kernel
theorem dX8_counted_60 : decode cX8_counted 60 = .ok (.ireturn, 1) := by decide +kernel
set_option maxRecDepth 20000 in
theorem ggX8_handler_X8_isMethod : GoodIn wsX8_handler wsX8_isMethod := goodIn_r _ [8, 9, 10, 15, 16, 17, 18, 19, 20, 21, 22, 23, 24, 25, 26, 27, 28, 29, 30, 31, 32, 33, 34, 35, 36, 37, 38, 39, 40, 41, 42] (by decide +kernel) (by decide +kernel)
set_option maxRecDepth 20000 in
theorem gX8_handler_X8_isMethod : GoodIn wsX8_handler (wsV RX8 159 RX8 yX8_isMethod wsX8_isMethod) := goodIn_app (goodIn_of _ (by decide +kernel)) ggX8_handler_X8_isMethod
set_option maxRecDepth 20000 in
theorem ggX8_handler_X8_two : GoodIn wsX8_handler wsX8_two := goodIn_r _ [14, 3, 15, 16, 17, 18, 19, 20, 21, 22, 23, 24, 25, 26, 27, 28, 29, 30, 31, 32, 33, 34, 35, 36, 37, 38, 39, 40, 41, 42] (by decide +kernel) (by decide +kernel)
set_option maxRecDepth 20000 in
theorem gX8_handler_X8_two : GoodIn wsX8_handler (wsV RX8 103 RX8 yX8_two wsX8_two) := goodIn_app (goodIn_of _ (by decide +kernel)) ggX8_handler_X8_two
theorem dX8_handler_0 : decode cX8_handler 0 = .ok (.aload_n 0, 1) := by decide +kernel
theorem dX8_handler_1 : decode cX8_handler 1 = .ok (.iload_n 1, 1) := by decide +kernel
theorem dX8_handler_2 : decode cX8_handler 2 = .ok (.invokevirtual 159, 3) := by decide +kernel
theorem dX8_handler_5 : decode cX8_handler 5 = .ok (.ifCond .eq 17, 3) := by decide +kernel
theorem dX8_handler_8 : decode cX8_handler 8 = .ok (.iload_n 2, 1) := by decide +kernel
theorem dX8_handler_9 : decode cX8_handler 9 = .ok (.ifCond .lt 13, 3) := by decide +kernel
theorem dX8_handler_12 : decode cX8_handler 12 = .ok (.iload_n 2, 1) := by decide +kernel
theorem dX8_handler_13 : decode cX8_handler 13 = .ok (.aload_n 0, 1) := by decide +kernel
theorem dX8_handler_14 : decode cX8_handler 14 = .ok (.getfield 62, 3) := by decide +kernel
theorem dX8_handler_17 : decode cX8_handler 17 = .ok (.iload_n 1, 1) := by decide +kernel
theorem dX8_handler_18 : decode cX8_handler 18 = .ok (.iaload, 1) := by decide +kernel
theorem dX8_handler_19 : decode cX8_handler 19 = .ok (.if_icmp .lt 5, 3) := by decide +kernel
theorem dX8_handler_22 : decode cX8_handler 22 = .ok (.iconst (-1), 1) := by decide +kernel
theorem dX8_handler_23 : decode cX8_handler 23 = .ok (.ireturn, 1) := by decide +kernel
theorem dX8_handler_24 : decode cX8_handler 24 = .ok (.aload_n 0, 1) := by decide +kernel
theorem dX8_handler_25 : decode cX8_handler 25 = .ok (.getfield 65, 3) := by decide +kernel
theorem dX8_handler_28 : decode cX8_handler 28 = .ok (.iload_n 1, 1) := by decide +kernel
theorem dX8_handler_29 : decode cX8_handler 29 = .ok (.iaload, 1) := by decide +kernel
theorem dX8_handler_30 : decode cX8_handler 30 = .ok (.bipush 7, 2) := by decide +kernel
theorem dX8_handler_32 : decode cX8_handler 32 = .ok (.iload_n 2, 1) := by decide +kernel
theorem dX8_handler_33 : decode cX8_handler 33 = .ok (.imul, 1) := by decide +kernel
theorem dX8_handler_34 : decode cX8_handler 34 = .ok (.iadd, 1) := by decide +kernel
theorem dX8_handler_35 : decode cX8_handler 35 = .ok (.istore 4, 2) := by decide +kernel
theorem dX8_handler_37 : decode cX8_handler 37 = .ok (.iload_n 3, 1) := by decide +kernel
theorem dX8_handler_38 : decode cX8_handler 38 = .ok (.ifCond .ne 12, 3) := by decide +kernel
theorem dX8_handler_41 : decode cX8_handler 41 = .ok (.aload_n 0, 1) := by decide +kernel
theorem dX8_handler_42 : decode cX8_handler 42 = .ok (.iload 4, 2) := by decide +kernel
theorem dX8_handler_44 : decode cX8_handler 44 = .ok (.invokevirtual 103, 3) := by decide +kernel
theorem dX8_handler_47 : decode cX8_handler 47 = .ok (.goto 53, 3) := by decide +kernel
theorem dX8_handler_50 : decode cX8_handler 50 = .ok (.iload_n 3, 1) := by decide +kernel
theorem dX8_handler_51 : decode cX8_handler 51 = .ok (.iconst 1, 1) := by decide +kernel
theorem dX8_handler_52 : decode cX8_handler 52 = .ok (.if_icmp .ne 14, 3) := by decide +kernel
theorem dX8_handler_55 : decode cX8_handler 55 = .ok (.aload_n 0, 1) := by decide +kernel
theorem dX8_handler_56 : decode cX8_handler 56 = .ok (.iload 4, 2) := by decide +kernel
theorem dX8_handler_58 : decode cX8_handler 58 = .ok (.iconst 2, 1) := by decide +kernel
theorem dX8_handler_59 : decode cX8_handler 59 = .ok (.iadd, 1) := by decide +kernel
theorem dX8_handler_60 : decode cX8_handler 60 = .ok (.invokevirtual 103, 3) := by decide +kernel
theorem dX8_handler_63 : decode cX8_handler 63 = .ok (.goto 37, 3) := by decide +kernel
theorem dX8_handler_66 : decode cX8_handler 66 = .ok (.iload_n 3, 1) := by decide +kernel
theorem dX8_handler_67 : decode cX8_handler 67 = .ok (.iconst 2, 1) := by decide +kernel
theorem dX8_handler_68 : decode cX8_handler 68 = .ok (.if_icmp .ne 15, 3) := by decide +kernel
theorem dX8_handler_71 : decode cX8_handler 71 = .ok (.aload_n 0, 1) := by decide +kernel
theorem dX8_handler_72 : decode cX8_handler 72 = .ok (.getfield 13, 3) := by decide +kernel
theorem dX8_handler_75 : decode cX8_handler 75 = .ok (.iload 4, 2) := by decide +kernel
theorem dX8_handler_77 : decode cX8_handler 77 = .ok (.iconst 4, 1) := by decide +kernel
theorem dX8_handler_78 : decode cX8_handler 78 = .ok (.iadd, 1) := by decide +kernel
theorem dX8_handler_79 : decode cX8_handler 79 = .ok (.iaload, 1) := by decide +kernel
theorem dX8_handler_80 : decode cX8_handler 80 = .ok (.goto 20, 3) := by decide +kernel
theorem dX8_handler_83 : decode cX8_handler 83 = .ok (.iload_n 3, 1) := by decide +kernel
theorem dX8_handler_84 : decode cX8_handler 84 = .ok (.iconst 3, 1) := by decide +kernel
theorem dX8_handler_85 : decode cX8_handler 85 = .ok (.if_icmp .ne 14, 3) := by decide +kernel
theorem dX8_handler_88 : decode cX8_handler 88 = .ok (.aload_n 0, 1) := by decide +kernel
theorem dX8_handler_89 : decode cX8_handler 89 = .ok (.iload 4, 2) := by decide +kernel
theorem dX8_handler_91 : decode cX8_handler 91 = .ok (.iconst 5, 1) := by decide +kernel
theorem dX8_handler_92 : decode cX8_handler 92 = .ok (.iadd, 1) := by decide +kernel
theorem dX8_handler_93 : decode cX8_handler 93 = .ok (.invokevirtual 103, 3) := by decide +kernel
theorem dX8_handler_96 : decode cX8_handler 96 = .ok (.goto 4, 3) := by decide +kernel
theorem dX8_handler_99 : decode cX8_handler 99 = .ok (.iconst (-1), 1) := by decide +kernel
theorem dX8_handler_100 : decode cX8_handler 100 = .ok (.ireturn, 1) := by decide +kernel
set_option maxRecDepth 20000 in
theorem ggX8_instruction_X8_isMethod : GoodIn wsX8_instruction wsX8_isMethod := goodIn_r _ [7, 8, 9, 23, 24, 25, 26, 27, 28, 29, 30, 31, 32, 33, 34, 35, 36, 37, 38, 39, 40, 41, 42, 43, 44, 45, 46, 47, 48, 49, 50] (by decide +kernel) (by decide +kernel)
set_option maxRecDepth 20000 in
theorem gX8_instruction_X8_isMethod : GoodIn wsX8_instruction (wsV RX8 159 RX8 yX8_isMethod wsX8_isMethod) := goodIn_app (goodIn_of _ (by decide +kernel)) ggX8_instruction_X8_isMethod
set_option maxRecDepth 20000 in
theorem ggX8_instruction_X8_isBegin : GoodIn wsX8_instruction wsX8_isBegin := goodIn_r _ [13, 14, 15, 1, 23, 24, 25, 26, 27, 28, 29, 30, 31, 32, 33, 34, 35, 36, 37, 38, 39, 40, 41, 42, 43, 44, 45, 46, 47, 48, 49, 50] (by decide +kernel) (by decide +kernel)
set_option maxRecDepth 20000 in
theorem gX8_instruction_X8_isBegin : GoodIn wsX8_instruction (wsV RX8 139 RX8 yX8_isBegin wsX8_isBegin) := goodIn_app (goodIn_of _ (by decide +kernel)) ggX8_instruction_X8_isBegin
set_option maxRecDepth 20000 in
theorem ggX8_instruction_X8_wide : GoodIn wsX8_instruction wsX8_wide := goodIn_r _ [18] (by decide +kernel) (by decide +kernel)
set_option maxRecDepth 20000 in
theorem gX8_instruction_X8_wide : GoodIn wsX8_instruction (va_wsS RX8 114 yX8_wide wsX8_wide) := goodIn_app (goodIn_of _ (by decide +kernel)) ggX8_instruction_X8_wide
set_option maxRecDepth 20000 in
theorem ggX8_instruction_X8_two : GoodIn wsX8_instruction wsX8_two := goodIn_r _ [22, 2, 23, 24, 25, 26, 27, 28, 29, 30, 31, 32, 33, 34, 35, 36, 37, 38, 39, 40, 41, 42, 43, 44, 45, 46, 47, 48, 49, 50] (by decide +kernel) (by decide +kernel)
set_option maxRecDepth 20000 in
theorem gX8_instruction_X8_two : GoodIn wsX8_instruction (wsV RX8 103 RX8 yX8_two wsX8_two) := goodIn_app (goodIn_of _ (by decide +kernel)) ggX8_instruction_X8_two
theorem dX8_instruction_0 : decode cX8_instruction 0 = .ok (.aload_n 0, 1) := by decide +kernel
theorem dX8_instruction_1 : decode cX8_instruction 1 = .ok (.iload_n 1, 1) := by decide +kernel
theorem dX8_instruction_2 : decode cX8_instruction 2 = .ok (.invokevirtual 159, 3) := by decide +kernel
theorem dX8_instruction_5 : decode cX8_instruction 5 = .ok (.ifCond .eq 25, 3) := by decide +kernel
theorem dX8_instruction_8 : decode cX8_instruction 8 = .ok (.iload_n 2, 1) := by decide +kernel
theorem dX8_instruction_9 : decode cX8_instruction 9 = .ok (.ifCond .lt 21, 3) := by decide +kernel
theorem dX8_instruction_12 : decode cX8_instruction 12 = .ok (.aload_n 0, 1) := by decide +kernel
theorem dX8_instruction_13 : decode cX8_instruction 13 = .ok (.iload_n 1, 1) := by decide +kernel
theorem dX8_instruction_14 : decode cX8_instruction 14 = .ok (.iload_n 2, 1) := by decide +kernel
theorem dX8_instruction_15 : decode cX8_instruction 15 = .ok (.invokevirtual 139, 3) := by decide +kernel
theorem dX8_instruction_18 : decode cX8_instruction 18 = .ok (.ifCond .eq 12, 3) := by decide +kernel
theorem dX8_instruction_21 : decode cX8_instruction 21 = .ok (.iload_n 3, 1) := by decide +kernel
theorem dX8_instruction_22 : decode cX8_instruction 22 = .ok (.ifCond .lt 8, 3) := by decide +kernel
theorem dX8_instruction_25 : decode cX8_instruction 25 = .ok (.iload_n 3, 1) := by decide +kernel
theorem dX8_instruction_26 : decode cX8_instruction 26 = .ok (.iconst 3, 1) := by decide +kernel
theorem dX8_instruction_27 : decode cX8_instruction 27 = .ok (.if_icmp .le 5, 3) := by decide +kernel
theorem dX8_instruction_30 : decode cX8_instruction 30 = .ok (.iconst (-1), 1) := by decide +kernel
theorem dX8_instruction_31 : decode cX8_instruction 31 = .ok (.ireturn, 1) := by decide +kernel
theorem dX8_instruction_32 : decode cX8_instruction 32 = .ok (.aload_n 0, 1) := by decide +kernel
theorem dX8_instruction_33 : decode cX8_instruction 33 = .ok (.getfield 56, 3) := by decide +kernel
theorem dX8_instruction_36 : decode cX8_instruction 36 = .ok (.iload_n 1, 1) := by decide +kernel
theorem dX8_instruction_37 : decode cX8_instruction 37 = .ok (.iaload, 1) := by decide +kernel
theorem dX8_instruction_38 : decode cX8_instruction 38 = .ok (.iload_n 2, 1) := by decide +kernel
theorem dX8_instruction_39 : decode cX8_instruction 39 = .ok (.iadd, 1) := by decide +kernel
theorem dX8_instruction_40 : decode cX8_instruction 40 = .ok (.istore 4, 2) := by decide +kernel
theorem dX8_instruction_42 : decode cX8_instruction 42 = .ok (.aload_n 0, 1) := by decide +kernel
theorem dX8_instruction_43 : decode cX8_instruction 43 = .ok (.getfield 13, 3) := by decide +kernel
theorem dX8_instruction_46 : decode cX8_instruction 46 = .ok (.iload 4, 2) := by decide +kernel
theorem dX8_instruction_48 : decode cX8_instruction 48 = .ok (.iaload, 1) := by decide +kernel
theorem dX8_instruction_49 : decode cX8_instruction 49 = .ok (.istore 5, 2) := by decide +kernel
theorem dX8_instruction_51 : decode cX8_instruction 51 = .ok (.iload 5, 2) := by decide +kernel
theorem dX8_instruction_53 : decode cX8_instruction 53 = .ok (.invokestatic 114, 3) := by decide +kernel
theorem dX8_instruction_56 : decode cX8_instruction 56 = .ok (.istore 6, 2) := by decide +kernel
theorem dX8_instruction_58 : decode cX8_instruction 58 = .ok (.iload_n 3, 1) := by decide +kernel
theorem dX8_instruction_59 : decode cX8_instruction 59 = .ok (.ifCond .ne 6, 3) := by decide +kernel
theorem dX8_instruction_62 : decode cX8_instruction 62 = .ok (.iload 5, 2) := by decide +kernel
theorem dX8_instruction_64 : decode cX8_instruction 64 = .ok (.ireturn, 1) := by decide +kernel
theorem dX8_instruction_65 : decode cX8_instruction 65 = .ok (.iload_n 3, 1) := by decide +kernel
theorem dX8_instruction_66 : decode cX8_instruction 66 = .ok (.iconst 3, 1) := by decide +kernel
theorem dX8_instruction_67 : decode cX8_instruction 67 = .ok (.if_icmp .ne 8, 3) := by decide +kernel
theorem dX8_instruction_70 : decode cX8_instruction 70 = .ok (.iload_n 2, 1) := by decide +kernel
theorem dX8_instruction_71 : decode cX8_instruction 71 = .ok (.iload 6, 2) := by decide +kernel
theorem dX8_instruction_73 : decode cX8_instruction 73 = .ok (.iadd, 1) := by decide +kernel
theorem dX8_instruction_74 : decode cX8_instruction 74 = .ok (.ireturn, 1) := by decide +kernel
theorem dX8_instruction_75 : decode cX8_instruction 75 = .ok (.iload 5, 2) := by decide +kernel
theorem dX8_instruction_77 : decode cX8_instruction 77 = .ok (.ifCond .ne 33, 3) := by decide +kernel
theorem dX8_instruction_80 : decode cX8_instruction 80 = .ok (.iload_n 3, 1) := by decide +kernel
theorem dX8_instruction_81 : decode cX8_instruction 81 = .ok (.iconst 1, 1) := by decide +kernel
theorem dX8_instruction_82 : decode cX8_instruction 82 = .ok (.if_icmp .ne 26, 3) := by decide +kernel
theorem dX8_instruction_85 : decode cX8_instruction 85 = .ok (.aload_n 0, 1) := by decide +kernel
theorem dX8_instruction_86 : decode cX8_instruction 86 = .ok (.iload 4, 2) := by decide +kernel
theorem dX8_instruction_88 : decode cX8_instruction 88 = .ok (.iconst 1, 1) := by decide +kernel
theorem dX8_instruction_89 : decode cX8_instruction 89 = .ok (.iadd, 1) := by decide +kernel
theorem dX8_instruction_90 : decode cX8_instruction 90 = .ok (.invokevirtual 103, 3) := by decide +kernel
theorem dX8_instruction_93 : decode cX8_instruction 93 = .ok (.bipush 16, 2) := by decide +kernel
theorem dX8_instruction_95 : decode cX8_instruction 95 = .ok (.ishl, 1) := by decide +kernel
theorem dX8_instruction_96 : decode cX8_instruction 96 = .ok (.aload_n 0, 1) := by decide +kernel
theorem dX8_instruction_97 : decode cX8_instruction 97 = .ok (.iload 4, 2) := by decide +kernel
theorem dX8_instruction_99 : decode cX8_instruction 99 = .ok (.iconst 3, 1) := by decide +kernel
theorem dX8_instruction_100 : decode cX8_instruction 100 = .ok (.iadd, 1) := by decide +kernel
theorem dX8_instruction_101 : decode cX8_instruction 101 = .ok (.invokevirtual 103, 3) := by decide +kernel
theorem dX8_instruction_104 : decode cX8_instruction 104 = .ok (.ior, 1) := by decide +kernel
theorem dX8_instruction_105 : decode cX8_instruction 105 = .ok (.goto 4, 3) := by decide +kernel
theorem dX8_instruction_108 : decode cX8_instruction 108 = .ok (.iconst 0, 1) := by decide +kernel
theorem dX8_instruction_109 : decode cX8_instruction 109 = .ok (.ireturn, 1) := by decide +kernel
theorem dX8_instruction_110 : decode cX8_instruction 110 = .ok (.iload 5, 2) := by decide +kernel
theorem dX8_instruction_112 : decode cX8_instruction 112 = .ok (.bipush 19, 2) := by decide +kernel
theorem dX8_instruction_114 : decode cX8_instruction 114 = .ok (.if_icmp .eq 10, 3) := by decide +kernel
theorem dX8_instruction_117 : decode cX8_instruction 117 = .ok (.iload 5, 2) := by decide +kernel
theorem dX8_instruction_119 : decode cX8_instruction 119 = .ok (.bipush 20, 2) := by decide +kernel
theorem dX8_instruction_121 : decode cX8_instruction 121 = .ok (.if_icmp .ne 29, 3) := by decide +kernel
theorem dX8_instruction_124 : decode cX8_instruction 124 = .ok (.iload_n 3, 1) := by decide +kernel
theorem dX8_instruction_125 : decode cX8_instruction 125 = .ok (.iconst 1, 1) := by decide +kernel
theorem dX8_instruction_126 : decode cX8_instruction 126 = .ok (.if_icmp .ne 15, 3) := by decide +kernel
theorem dX8_instruction_129 : decode cX8_instruction 129 = .ok (.aload_n 0, 1) := by decide +kernel
theorem dX8_instruction_130 : decode cX8_instruction 130 = .ok (.getfield 13, 3) := by decide +kernel
theorem dX8_instruction_133 : decode cX8_instruction 133 = .ok (.iload 4, 2) := by decide +kernel
theorem dX8_instruction_135 : decode cX8_instruction 135 = .ok (.iconst 1, 1) := by decide +kernel
theorem dX8_instruction_136 : decode cX8_instruction 136 = .ok (.iadd, 1) := by decide +kernel
theorem dX8_instruction_137 : decode cX8_instruction 137 = .ok (.iaload, 1) := by decide +kernel
theorem dX8_instruction_138 : decode cX8_instruction 138 = .ok (.goto 11, 3) := by decide +kernel
theorem dX8_instruction_141 : decode cX8_instruction 141 = .ok (.aload_n 0, 1) := by decide +kernel
theorem dX8_instruction_142 : decode cX8_instruction 142 = .ok (.iload 4, 2) := by decide +kernel
theorem dX8_instruction_144 : decode cX8_instruction 144 = .ok (.iconst 2, 1) := by decide +kernel
theorem dX8_instruction_145 : decode cX8_instruction 145 = .ok (.iadd, 1) := by decide +kernel
theorem dX8_instruction_146 : decode cX8_instruction 146 = .ok (.invokevirtual 103, 3) := by decide +kernel
theorem dX8_instruction_149 : decode cX8_instruction 149 = .ok (.ireturn, 1) := by decide +kernel
theorem dX8_instruction_150 : decode cX8_instruction 150 = .ok (.iload 5, 2) := by decide +kernel
theorem dX8_instruction_152 : decode cX8_instruction 152 = .ok (.bipush 21, 2) := by decide +kernel
theorem dX8_instruction_154 : decode cX8_instruction 154 = .ok (.if_icmp .lt 28, 3) := by decide +kernel
theorem dX8_instruction_157 : decode cX8_instruction 157 = .ok (.iload 5, 2) := by decide +kernel
theorem dX8_instruction_159 : decode cX8_instruction 159 = .ok (.bipush 25, 2) := by decide +kernel
theorem dX8_instruction_161 : decode cX8_instruction 161 = .ok (.if_icmp .gt 21, 3) := by decide +kernel
theorem dX8_instruction_164 : decode cX8_instruction 164 = .ok (.iload_n 3, 1) := by decide +kernel
theorem dX8_instruction_165 : decode cX8_instruction 165 = .ok (.iconst 1, 1) := by decide +kernel
theorem dX8_instruction_166 : decode cX8_instruction 166 = .ok (.if_icmp .ne 14, 3) := by decide +kernel
theorem dX8_instruction_169 : decode cX8_instruction 169 = .ok (.aload_n 0, 1) := by decide +kernel
theorem dX8_instruction_170 : decode cX8_instruction 170 = .ok (.iload 4, 2) := by decide +kernel
theorem dX8_instruction_172 : decode cX8_instruction 172 = .ok (.iconst 1, 1) := by decide +kernel
theorem dX8_instruction_173 : decode cX8_instruction 173 = .ok (.iadd, 1) := by decide +kernel
theorem dX8_instruction_174 : decode cX8_instruction 174 = .ok (.invokevirtual 103, 3) := by decide +kernel
theorem dX8_instruction_177 : decode cX8_instruction 177 = .ok (.goto 4, 3) := by decide +kernel
theorem dX8_instruction_180 : decode cX8_instruction 180 = .ok (.iconst 0, 1) := by decide +kernel
theorem dX8_instruction_181 : decode cX8_instruction 181 = .ok (.ireturn, 1) := by decide +kernel
theorem dX8_instruction_182 : decode cX8_instruction 182 = .ok (.iload_n 3, 1) := by decide +kernel
theorem dX8_instruction_183 : decode cX8_instruction 183 = .ok (.iload 6, 2) := by decide +kernel
theorem dX8_instruction_185 : decode cX8_instruction 185 = .ok (.if_icmp .ge 15, 3) := by decide +kernel
theorem dX8_instruction_188 : decode cX8_instruction 188 = .ok (.aload_n 0, 1) := by decide +kernel
theorem dX8_instruction_189 : decode cX8_instruction 189 = .ok (.getfield 13, 3) := by decide +kernel
theorem dX8_instruction_192 : decode cX8_instruction 192 = .ok (.iload 4, 2) := by decide +kernel
theorem dX8_instruction_194 : decode cX8_instruction 194 = .ok (.iload_n 3, 1) := by decide +kernel
theorem dX8_instruction_195 : decode cX8_instruction 195 = .ok (.iadd, 1) := by decide +kernel
theorem dX8_instruction_196 : decode cX8_instruction 196 = .ok (.iaload, 1) := by decide +kernel
theorem dX8_instruction_197 : decode cX8_instruction 197 = .ok (.goto 4, 3) := by decide +kernel
theorem dX8_instruction_200 : decode cX8_instruction 200 = .ok (.iconst 0, 1) := by decide +kernel
theorem dX8_instruction_201 : decode cX8_instruction 201 = .ok (.ireturn, 1) := by decide +kernel
theorem dX8_thrown_0 : decode cX8_thrown 0 = .ok (.aload_n 0, 1) := by decide +kernel
theorem dX8_thrown_1 : decode cX8_thrown 1 = .ok (.getfield 142, 3) := by decide +kernel
theorem dX8_thrown_4 : decode cX8_thrown 4 = .ok (.ifCond .eq 21, 3) := by decide +kernel
theorem dX8_thrown_7 : decode cX8_thrown 7 = .ok (.iload_n 1, 1) := by decide +kernel
theorem dX8_thrown_8 : decode cX8_thrown 8 = .ok (.ifCond .lt 17, 3) := by decide +kernel
theorem dX8_thrown_11 : decode cX8_thrown 11 = .ok (.iload_n 1, 1) := by decide +kernel
theorem dX8_thrown_12 : decode cX8_thrown 12 = .ok (.iconst 5, 1) := by decide +kernel
theorem dX8_thrown_13 : decode cX8_thrown 13 = .ok (.if_icmp .ge 12, 3) := by decide +kernel
theorem dX8_thrown_16 : decode cX8_thrown 16 = .ok (.aload_n 0, 1) := by decide +kernel
theorem dX8_thrown_17 : decode cX8_thrown 17 = .ok (.getfield 35, 3) := by decide +kernel
theorem dX8_thrown_20 : decode cX8_thrown 20 = .ok (.iload_n 1, 1) := by decide +kernel
theorem dX8_thrown_21 : decode cX8_thrown 21 = .ok (.iaload, 1) := by decide +kernel
theorem dX8_thrown_22 : decode cX8_thrown 22 = .ok (.goto 4, 3) := by decide +kernel
theorem dX8_thrown_25 : decode cX8_thrown 25 = .ok (.iconst (-1), 1) := by decide +kernel
theorem dX8_thrown_26 : decode cX8_thrown 26 = .ok (.ireturn, 1) := by decide +kernel
