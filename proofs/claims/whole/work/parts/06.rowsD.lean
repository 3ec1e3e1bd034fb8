theorem dX8_init_0 : decode cX8_init 0 = .ok (.aload_n 0, 1) := by decide +kernel
theorem dX8_init_1 : decode cX8_init 1 = .ok (.invokespecial 1, 3) := by decide +kernel
theorem dX8_init_4 : decode cX8_init 4 = .ok (.aload_n 0, 1) := by decide +kernel
theorem dX8_init_5 : decode cX8_init 5 = .ok (.sipush 8000, 3) := by decide +kernel
theorem dX8_init_8 : decode cX8_init 8 = .ok (.newarray .int, 2) := by decide +kernel
theorem dX8_init_10 : decode cX8_init 10 = .ok (.putfield 9, 3) := by decide +kernel
theorem dX8_init_13 : decode cX8_init 13 = .ok (.aload_n 0, 1) := by decide +kernel
theorem dX8_init_14 : decode cX8_init 14 = .ok (.sipush 8000, 3) := by decide +kernel
theorem dX8_init_17 : decode cX8_init 17 = .ok (.newarray .int, 2) := by decide +kernel
theorem dX8_init_19 : decode cX8_init 19 = .ok (.putfield 13, 3) := by decide +kernel
theorem dX8_init_22 : decode cX8_init 22 = .ok (.aload_n 0, 1) := by decide +kernel
theorem dX8_init_23 : decode cX8_init 23 = .ok (.sipush 8000, 3) := by decide +kernel
theorem dX8_init_26 : decode cX8_init 26 = .ok (.newarray .boolean, 2) := by decide +kernel
theorem dX8_init_28 : decode cX8_init 28 = .ok (.putfield 16, 3) := by decide +kernel
theorem dX8_init_31 : decode cX8_init 31 = .ok (.aload_n 0, 1) := by decide +kernel
theorem dX8_init_32 : decode cX8_init 32 = .ok (.bipush 32, 2) := by decide +kernel
theorem dX8_init_34 : decode cX8_init 34 = .ok (.newarray .int, 2) := by decide +kernel
theorem dX8_init_36 : decode cX8_init 36 = .ok (.putfield 20, 3) := by decide +kernel
theorem dX8_init_39 : decode cX8_init 39 = .ok (.aload_n 0, 1) := by decide +kernel
theorem dX8_init_40 : decode cX8_init 40 = .ok (.bipush 32, 2) := by decide +kernel
theorem dX8_init_42 : decode cX8_init 42 = .ok (.newarray .int, 2) := by decide +kernel
theorem dX8_init_44 : decode cX8_init 44 = .ok (.putfield 23, 3) := by decide +kernel
theorem dX8_init_47 : decode cX8_init 47 = .ok (.aload_n 0, 1) := by decide +kernel
theorem dX8_init_48 : decode cX8_init 48 = .ok (.sipush 480, 3) := by decide +kernel
theorem dX8_init_51 : decode cX8_init 51 = .ok (.newarray .int, 2) := by decide +kernel
theorem dX8_init_53 : decode cX8_init 53 = .ok (.putfield 26, 3) := by decide +kernel
theorem dX8_init_56 : decode cX8_init 56 = .ok (.aload_n 0, 1) := by decide +kernel
theorem dX8_init_57 : decode cX8_init 57 = .ok (.sipush 512, 3) := by decide +kernel
theorem dX8_init_60 : decode cX8_init 60 = .ok (.newarray .int, 2) := by decide +kernel
theorem dX8_init_62 : decode cX8_init 62 = .ok (.putfield 29, 3) := by decide +kernel
theorem dX8_init_65 : decode cX8_init 65 = .ok (.aload_n 0, 1) := by decide +kernel
theorem dX8_init_66 : decode cX8_init 66 = .ok (.sipush 512, 3) := by decide +kernel
theorem dX8_init_69 : decode cX8_init 69 = .ok (.newarray .int, 2) := by decide +kernel
theorem dX8_init_71 : decode cX8_init 71 = .ok (.putfield 32, 3) := by decide +kernel
theorem dX8_init_74 : decode cX8_init 74 = .ok (.aload_n 0, 1) := by decide +kernel
theorem dX8_init_75 : decode cX8_init 75 = .ok (.iconst 5, 1) := by decide +kernel
theorem dX8_init_76 : decode cX8_init 76 = .ok (.newarray .int, 2) := by decide +kernel
theorem dX8_init_78 : decode cX8_init 78 = .ok (.putfield 35, 3) := by decide +kernel
theorem dX8_init_81 : decode cX8_init 81 = .ok (.aload_n 0, 1) := by decide +kernel
theorem dX8_init_82 : decode cX8_init 82 = .ok (.bipush 64, 2) := by decide +kernel
theorem dX8_init_84 : decode cX8_init 84 = .ok (.newarray .int, 2) := by decide +kernel
theorem dX8_init_86 : decode cX8_init 86 = .ok (.putfield 38, 3) := by decide +kernel
theorem dX8_init_89 : decode cX8_init 89 = .ok (.aload_n 0, 1) := by decide +kernel
theorem dX8_init_90 : decode cX8_init 90 = .ok (.bipush 64, 2) := by decide +kernel
theorem dX8_init_92 : decode cX8_init 92 = .ok (.newarray .int, 2) := by decide +kernel
theorem dX8_init_94 : decode cX8_init 94 = .ok (.putfield 41, 3) := by decide +kernel
theorem dX8_init_97 : decode cX8_init 97 = .ok (.aload_n 0, 1) := by decide +kernel
theorem dX8_init_98 : decode cX8_init 98 = .ok (.sipush 512, 3) := by decide +kernel
theorem dX8_init_101 : decode cX8_init 101 = .ok (.newarray .int, 2) := by decide +kernel
theorem dX8_init_103 : decode cX8_init 103 = .ok (.putfield 44, 3) := by decide +kernel
theorem dX8_init_106 : decode cX8_init 106 = .ok (.aload_n 0, 1) := by decide +kernel
theorem dX8_init_107 : decode cX8_init 107 = .ok (.bipush 64, 2) := by decide +kernel
theorem dX8_init_109 : decode cX8_init 109 = .ok (.newarray .int, 2) := by decide +kernel
theorem dX8_init_111 : decode cX8_init 111 = .ok (.putfield 47, 3) := by decide +kernel
theorem dX8_init_114 : decode cX8_init 114 = .ok (.aload_n 0, 1) := by decide +kernel
theorem dX8_init_115 : decode cX8_init 115 = .ok (.bipush 64, 2) := by decide +kernel
theorem dX8_init_117 : decode cX8_init 117 = .ok (.newarray .int, 2) := by decide +kernel
theorem dX8_init_119 : decode cX8_init 119 = .ok (.putfield 50, 3) := by decide +kernel
theorem dX8_init_122 : decode cX8_init 122 = .ok (.aload_n 0, 1) := by decide +kernel
theorem dX8_init_123 : decode cX8_init 123 = .ok (.bipush 64, 2) := by decide +kernel
theorem dX8_init_125 : decode cX8_init 125 = .ok (.newarray .int, 2) := by decide +kernel
theorem dX8_init_127 : decode cX8_init 127 = .ok (.putfield 53, 3) := by decide +kernel
theorem dX8_init_130 : decode cX8_init 130 = .ok (.aload_n 0, 1) := by decide +kernel
theorem dX8_init_131 : decode cX8_init 131 = .ok (.bipush 64, 2) := by decide +kernel
theorem dX8_init_133 : decode cX8_init 133 = .ok (.newarray .int, 2) := by decide +kernel
theorem dX8_init_135 : decode cX8_init 135 = .ok (.putfield 56, 3) := by decide +kernel
theorem dX8_init_138 : decode cX8_init 138 = .ok (.aload_n 0, 1) := by decide +kernel
theorem dX8_init_139 : decode cX8_init 139 = .ok (.bipush 64, 2) := by decide +kernel
theorem dX8_init_141 : decode cX8_init 141 = .ok (.newarray .int, 2) := by decide +kernel
theorem dX8_init_143 : decode cX8_init 143 = .ok (.putfield 59, 3) := by decide +kernel
theorem dX8_init_146 : decode cX8_init 146 = .ok (.aload_n 0, 1) := by decide +kernel
theorem dX8_init_147 : decode cX8_init 147 = .ok (.bipush 64, 2) := by decide +kernel
theorem dX8_init_149 : decode cX8_init 149 = .ok (.newarray .int, 2) := by decide +kernel
theorem dX8_init_151 : decode cX8_init 151 = .ok (.putfield 62, 3) := by decide +kernel
theorem dX8_init_154 : decode cX8_init 154 = .ok (.aload_n 0, 1) := by decide +kernel
theorem dX8_init_155 : decode cX8_init 155 = .ok (.bipush 64, 2) := by decide +kernel
theorem dX8_init_157 : decode cX8_init 157 = .ok (.newarray .int, 2) := by decide +kernel
theorem dX8_init_159 : decode cX8_init 159 = .ok (.putfield 65, 3) := by decide +kernel
theorem dX8_init_162 : decode cX8_init 162 = .ok (.return_, 1) := by decide +kernel
theorem dX8_feed_0 : decode cX8_feed 0 = .ok (.aload_n 0, 1) := by decide +kernel
theorem dX8_feed_1 : decode cX8_feed 1 = .ok (.getfield 68, 3) := by decide +kernel
theorem dX8_feed_4 : decode cX8_feed 4 = .ok (.bipush 20, 2) := by decide +kernel
theorem dX8_feed_6 : decode cX8_feed 6 = .ok (.iadd, 1) := by decide +kernel
theorem dX8_feed_7 : decode cX8_feed 7 = .ok (.sipush 8000, 3) := by decide +kernel
theorem dX8_feed_10 : decode cX8_feed 10 = .ok (.if_icmp .le 6, 3) := by decide +kernel
theorem dX8_feed_13 : decode cX8_feed 13 = .ok (.bipush (-2), 2) := by decide +kernel
theorem dX8_feed_15 : decode cX8_feed 15 = .ok (.ireturn, 1) := by decide +kernel
theorem dX8_feed_16 : decode cX8_feed 16 = .ok (.iconst 0, 1) := by decide +kernel
theorem dX8_feed_17 : decode cX8_feed 17 = .ok (.istore 6, 2) := by decide +kernel
theorem dX8_feed_19 : decode cX8_feed 19 = .ok (.iload 6, 2) := by decide +kernel
theorem dX8_feed_21 : decode cX8_feed 21 = .ok (.bipush 20, 2) := by decide +kernel
theorem dX8_feed_23 : decode cX8_feed 23 = .ok (.if_icmp .ge 93, 3) := by decide +kernel
theorem dX8_feed_26 : decode cX8_feed 26 = .ok (.iload 6, 2) := by decide +kernel
theorem dX8_feed_28 : decode cX8_feed 28 = .ok (.iconst 4, 1) := by decide +kernel
theorem dX8_feed_29 : decode cX8_feed 29 = .ok (.if_icmp .ge 7, 3) := by decide +kernel
theorem dX8_feed_32 : decode cX8_feed 32 = .ok (.iload_n 1, 1) := by decide +kernel
theorem dX8_feed_33 : decode cX8_feed 33 = .ok (.goto 39, 3) := by decide +kernel
theorem dX8_feed_36 : decode cX8_feed 36 = .ok (.iload 6, 2) := by decide +kernel
theorem dX8_feed_38 : decode cX8_feed 38 = .ok (.bipush 8, 2) := by decide +kernel
theorem dX8_feed_40 : decode cX8_feed 40 = .ok (.if_icmp .ge 7, 3) := by decide +kernel
theorem dX8_feed_43 : decode cX8_feed 43 = .ok (.iload_n 2, 1) := by decide +kernel
theorem dX8_feed_44 : decode cX8_feed 44 = .ok (.goto 28, 3) := by decide +kernel
theorem dX8_feed_47 : decode cX8_feed 47 = .ok (.iload 6, 2) := by decide +kernel
theorem dX8_feed_49 : decode cX8_feed 49 = .ok (.bipush 12, 2) := by decide +kernel
theorem dX8_feed_51 : decode cX8_feed 51 = .ok (.if_icmp .ge 7, 3) := by decide +kernel
theorem dX8_feed_54 : decode cX8_feed 54 = .ok (.iload_n 3, 1) := by decide +kernel
theorem dX8_feed_55 : decode cX8_feed 55 = .ok (.goto 17, 3) := by decide +kernel
theorem dX8_feed_58 : decode cX8_feed 58 = .ok (.iload 6, 2) := by decide +kernel
theorem dX8_feed_60 : decode cX8_feed 60 = .ok (.bipush 16, 2) := by decide +kernel
theorem dX8_feed_62 : decode cX8_feed 62 = .ok (.if_icmp .ge 8, 3) := by decide +kernel
theorem dX8_feed_65 : decode cX8_feed 65 = .ok (.iload 4, 2) := by decide +kernel
theorem dX8_feed_67 : decode cX8_feed 67 = .ok (.goto 5, 3) := by decide +kernel
theorem dX8_feed_70 : decode cX8_feed 70 = .ok (.iload 5, 2) := by decide +kernel
theorem dX8_feed_72 : decode cX8_feed 72 = .ok (.istore 7, 2) := by decide +kernel
theorem dX8_feed_74 : decode cX8_feed 74 = .ok (.aload_n 0, 1) := by decide +kernel
theorem dX8_feed_75 : decode cX8_feed 75 = .ok (.getfield 9, 3) := by decide +kernel
theorem dX8_feed_78 : decode cX8_feed 78 = .ok (.aload_n 0, 1) := by decide +kernel
theorem dX8_feed_79 : decode cX8_feed 79 = .ok (.getfield 68, 3) := by decide +kernel
theorem dX8_feed_82 : decode cX8_feed 82 = .ok (.iload 7, 2) := by decide +kernel
theorem dX8_feed_84 : decode cX8_feed 84 = .ok (.bipush 24, 2) := by decide +kernel
theorem dX8_feed_86 : decode cX8_feed 86 = .ok (.bipush 8, 2) := by decide +kernel
theorem dX8_feed_88 : decode cX8_feed 88 = .ok (.iload 6, 2) := by decide +kernel
theorem dX8_feed_90 : decode cX8_feed 90 = .ok (.iconst 3, 1) := by decide +kernel
theorem dX8_feed_91 : decode cX8_feed 91 = .ok (.iand, 1) := by decide +kernel
theorem dX8_feed_92 : decode cX8_feed 92 = .ok (.imul, 1) := by decide +kernel
theorem dX8_feed_93 : decode cX8_feed 93 = .ok (.isub, 1) := by decide +kernel
theorem dX8_feed_94 : decode cX8_feed 94 = .ok (.iushr, 1) := by decide +kernel
theorem dX8_feed_95 : decode cX8_feed 95 = .ok (.sipush 255, 3) := by decide +kernel
theorem dX8_feed_98 : decode cX8_feed 98 = .ok (.iand, 1) := by decide +kernel
theorem dX8_feed_99 : decode cX8_feed 99 = .ok (.iastore, 1) := by decide +kernel
theorem dX8_feed_100 : decode cX8_feed 100 = .ok (.aload_n 0, 1) := by decide +kernel
theorem dX8_feed_101 : decode cX8_feed 101 = .ok (.dup, 1) := by decide +kernel
theorem dX8_feed_102 : decode cX8_feed 102 = .ok (.getfield 68, 3) := by decide +kernel
theorem dX8_feed_105 : decode cX8_feed 105 = .ok (.iconst 1, 1) := by decide +kernel
theorem dX8_feed_106 : decode cX8_feed 106 = .ok (.iadd, 1) := by decide +kernel
theorem dX8_feed_107 : decode cX8_feed 107 = .ok (.putfield 68, 3) := by decide +kernel
theorem dX8_feed_110 : decode cX8_feed 110 = .ok (.iinc 6 1, 3) := by decide +kernel
theorem dX8_feed_113 : decode cX8_feed 113 = .ok (.goto (-94), 3) := by decide +kernel
theorem dX8_feed_116 : decode cX8_feed 116 = .ok (.aload_n 0, 1) := by decide +kernel
theorem dX8_feed_117 : decode cX8_feed 117 = .ok (.getfield 68, 3) := by decide +kernel
theorem dX8_feed_120 : decode cX8_feed 120 = .ok (.ireturn, 1) := by decide +kernel
theorem dX8_bad_0 : decode cX8_bad 0 = .ok (.aload_n 0, 1) := by decide +kernel
theorem dX8_bad_1 : decode cX8_bad 1 = .ok (.aload_n 0, 1) := by decide +kernel
theorem dX8_bad_2 : decode cX8_bad 2 = .ok (.getfield 72, 3) := by decide +kernel
theorem dX8_bad_5 : decode cX8_bad 5 = .ok (.ifCond .ge 7, 3) := by decide +kernel
theorem dX8_bad_8 : decode cX8_bad 8 = .ok (.iload_n 1, 1) := by decide +kernel
theorem dX8_bad_9 : decode cX8_bad 9 = .ok (.goto 7, 3) := by decide +kernel
theorem dX8_bad_12 : decode cX8_bad 12 = .ok (.aload_n 0, 1) := by decide +kernel
theorem dX8_bad_13 : decode cX8_bad 13 = .ok (.getfield 72, 3) := by decide +kernel
theorem dX8_bad_16 : decode cX8_bad 16 = .ok (.putfield 72, 3) := by decide +kernel
theorem dX8_bad_19 : decode cX8_bad 19 = .ok (.iconst 0, 1) := by decide +kernel
theorem dX8_bad_20 : decode cX8_bad 20 = .ok (.ireturn, 1) := by decide +kernel
theorem dX8_here_0 : decode cX8_here 0 = .ok (.aload_n 0, 1) := by decide +kernel
theorem dX8_here_1 : decode cX8_here 1 = .ok (.getfield 75, 3) := by decide +kernel
theorem dX8_here_4 : decode cX8_here 4 = .ok (.aload_n 0, 1) := by decide +kernel
theorem dX8_here_5 : decode cX8_here 5 = .ok (.getfield 78, 3) := by decide +kernel
theorem dX8_here_8 : decode cX8_here 8 = .ok (.if_icmp .ge 15, 3) := by decide +kernel
theorem dX8_here_11 : decode cX8_here 11 = .ok (.aload_n 0, 1) := by decide +kernel
theorem dX8_here_12 : decode cX8_here 12 = .ok (.getfield 13, 3) := by decide +kernel
theorem dX8_here_15 : decode cX8_here 15 = .ok (.aload_n 0, 1) := by decide +kernel
theorem dX8_here_16 : decode cX8_here 16 = .ok (.getfield 75, 3) := by decide +kernel
theorem dX8_here_19 : decode cX8_here 19 = .ok (.iaload, 1) := by decide +kernel
theorem dX8_here_20 : decode cX8_here 20 = .ok (.goto 6, 3) := by decide +kernel
theorem dX8_here_23 : decode cX8_here 23 = .ok (.sipush 256, 3) := by decide +kernel
theorem dX8_here_26 : decode cX8_here 26 = .ok (.ireturn, 1) := by decide +kernel
set_option maxRecDepth 20000 in
theorem ggX8_over_X8_here : GoodIn wsX8_over wsX8_here := goodIn_r _ [6, 1, 7, 8, 14, 15, 16, 17, 18, 19, 20, 21, 22, 23, 24, 25, 26, 27, 28, 29, 30, 31, 32, 33, 34, 35, 36, 37, 38, 39, 40, 41] (by decide +kernel) (by decide +kernel)
set_option maxRecDepth 20000 in
theorem gX8_over_X8_here : GoodIn wsX8_over (wsV RX8 81 RX8 yX8_here wsX8_here) := goodIn_app (goodIn_of _ (by decide +kernel)) ggX8_over_X8_here
set_option maxRecDepth 20000 in
theorem ggX8_over_X8_bad : GoodIn wsX8_over wsX8_bad := goodIn_r _ [12, 13, 14, 15, 16, 17, 18, 19, 20, 21, 22, 23, 24, 25, 26, 27, 28, 29, 30, 31, 32, 33, 34, 35, 36, 37, 38, 39, 40, 41] (by decide +kernel) (by decide +kernel)
set_option maxRecDepth 20000 in
theorem gX8_over_X8_bad : GoodIn wsX8_over (wsV RX8 85 RX8 yX8_bad wsX8_bad) := goodIn_app (goodIn_of _ (by decide +kernel)) ggX8_over_X8_bad
theorem dX8_over_0 : decode cX8_over 0 = .ok (.aload_n 0, 1) := by decide +kernel
theorem dX8_over_1 : decode cX8_over 1 = .ok (.invokevirtual 81, 3) := by decide +kernel
theorem dX8_over_4 : decode cX8_over 4 = .ok (.iload_n 1, 1) := by decide +kernel
theorem dX8_over_5 : decode cX8_over 5 = .ok (.if_icmp .lt 21, 3) := by decide +kernel
theorem dX8_over_8 : decode cX8_over 8 = .ok (.aload_n 0, 1) := by decide +kernel
theorem dX8_over_9 : decode cX8_over 9 = .ok (.invokevirtual 81, 3) := by decide +kernel
theorem dX8_over_12 : decode cX8_over 12 = .ok (.iload_n 2, 1) := by decide +kernel
theorem dX8_over_13 : decode cX8_over 13 = .ok (.if_icmp .gt 13, 3) := by decide +kernel
theorem dX8_over_16 : decode cX8_over 16 = .ok (.aload_n 0, 1) := by decide +kernel
theorem dX8_over_17 : decode cX8_over 17 = .ok (.invokevirtual 81, 3) := by decide +kernel
theorem dX8_over_20 : decode cX8_over 20 = .ok (.sipush 256, 3) := by decide +kernel
theorem dX8_over_23 : decode cX8_over 23 = .ok (.if_icmp .ne 12, 3) := by decide +kernel
theorem dX8_over_26 : decode cX8_over 26 = .ok (.aload_n 0, 1) := by decide +kernel
theorem dX8_over_27 : decode cX8_over 27 = .ok (.aload_n 0, 1) := by decide +kernel
theorem dX8_over_28 : decode cX8_over 28 = .ok (.getfield 75, 3) := by decide +kernel
theorem dX8_over_31 : decode cX8_over 31 = .ok (.invokevirtual 85, 3) := by decide +kernel
theorem dX8_over_34 : decode cX8_over 34 = .ok (.ireturn, 1) := by decide +kernel
theorem dX8_over_35 : decode cX8_over 35 = .ok (.aload_n 0, 1) := by decide +kernel
theorem dX8_over_36 : decode cX8_over 36 = .ok (.dup, 1) := by decide +kernel
theorem dX8_over_37 : decode cX8_over 37 = .ok (.getfield 75, 3) := by decide +kernel
theorem dX8_over_40 : decode cX8_over 40 = .ok (.iconst 1, 1) := by decide +kernel
theorem dX8_over_41 : decode cX8_over 41 = .ok (.iadd, 1) := by decide +kernel
theorem dX8_over_42 : decode cX8_over 42 = .ok (.putfield 75, 3) := by decide +kernel
theorem dX8_over_45 : decode cX8_over 45 = .ok (.iconst 1, 1) := by decide +kernel
theorem dX8_over_46 : decode cX8_over 46 = .ok (.ireturn, 1) := by decide +kernel
theorem dX8_last_0 : decode cX8_last 0 = .ok (.aload_n 0, 1) := by decide +kernel
theorem dX8_last_1 : decode cX8_last 1 = .ok (.getfield 13, 3) := by decide +kernel
theorem dX8_last_4 : decode cX8_last 4 = .ok (.aload_n 0, 1) := by decide +kernel
theorem dX8_last_5 : decode cX8_last 5 = .ok (.getfield 75, 3) := by decide +kernel
theorem dX8_last_8 : decode cX8_last 8 = .ok (.iconst 1, 1) := by decide +kernel
theorem dX8_last_9 : decode cX8_last 9 = .ok (.isub, 1) := by decide +kernel
theorem dX8_last_10 : decode cX8_last 10 = .ok (.iaload, 1) := by decide +kernel
theorem dX8_last_11 : decode cX8_last 11 = .ok (.ireturn, 1) := by decide +kernel
theorem dX8_two_0 : decode cX8_two 0 = .ok (.aload_n 0, 1) := by decide +kernel
theorem dX8_two_1 : decode cX8_two 1 = .ok (.getfield 13, 3) := by decide +kernel
theorem dX8_two_4 : decode cX8_two 4 = .ok (.iload_n 1, 1) := by decide +kernel
theorem dX8_two_5 : decode cX8_two 5 = .ok (.iaload, 1) := by decide +kernel
theorem dX8_two_6 : decode cX8_two 6 = .ok (.bipush 8, 2) := by decide +kernel
theorem dX8_two_8 : decode cX8_two 8 = .ok (.ishl, 1) := by decide +kernel
theorem dX8_two_9 : decode cX8_two 9 = .ok (.aload_n 0, 1) := by decide +kernel
theorem dX8_two_10 : decode cX8_two 10 = .ok (.getfield 13, 3) := by decide +kernel
theorem dX8_two_13 : decode cX8_two 13 = .ok (.iload_n 1, 1) := by decide +kernel
theorem dX8_two_14 : decode cX8_two 14 = .ok (.iconst 1, 1) := by decide +kernel
theorem dX8_two_15 : decode cX8_two 15 = .ok (.iadd, 1) := by decide +kernel
theorem dX8_two_16 : decode cX8_two 16 = .ok (.iaload, 1) := by decide +kernel
theorem dX8_two_17 : decode cX8_two 17 = .ok (.ior, 1) := by decide +kernel
theorem dX8_two_18 : decode cX8_two 18 = .ok (.ireturn, 1) := by decide +kernel
set_option maxRecDepth 20000 in
theorem ggX8_overClass_X8_over : GoodIn wsX8_overClass wsX8_over := goodIn_r _ [6, 7, 8, 9, 10, 5, 11, 12, 13, 14, 15, 16, 17, 18, 19, 20, 21, 22, 23, 24, 25, 26, 27, 28, 29, 30, 31, 32, 33, 34, 35, 36, 37, 38, 39, 40, 41, 42, 43, 44, 45, 46] (by decide +kernel) (by decide +kernel)
set_option maxRecDepth 20000 in
theorem gX8_overClass_X8_over : GoodIn wsX8_overClass (wsV RX8 92 RX8 yX8_over wsX8_over) := goodIn_app (goodIn_of _ (by decide +kernel)) ggX8_overClass_X8_over
theorem dX8_overClass_0 : decode cX8_overClass 0 = .ok (.aload_n 0, 1) := by decide +kernel
theorem dX8_overClass_1 : decode cX8_overClass 1 = .ok (.iconst 0, 1) := by decide +kernel
theorem dX8_overClass_2 : decode cX8_overClass 2 = .ok (.aload_n 0, 1) := by decide +kernel
theorem dX8_overClass_3 : decode cX8_overClass 3 = .ok (.getfield 89, 3) := by decide +kernel
theorem dX8_overClass_6 : decode cX8_overClass 6 = .ok (.iconst 1, 1) := by decide +kernel
theorem dX8_overClass_7 : decode cX8_overClass 7 = .ok (.isub, 1) := by decide +kernel
theorem dX8_overClass_8 : decode cX8_overClass 8 = .ok (.invokevirtual 92, 3) := by decide +kernel
theorem dX8_overClass_11 : decode cX8_overClass 11 = .ok (.ireturn, 1) := by decide +kernel
set_option maxRecDepth 20000 in
theorem ggX8_overType_X8_here : GoodIn wsX8_overType wsX8_here := goodIn_r _ [7, 2, 8, 9, 15, 16, 17, 18, 19, 20, 21, 22, 23, 24, 25, 26, 27, 28, 29, 30, 31, 32, 33, 34, 35, 36, 37, 38, 39, 40, 41, 42] (by decide +kernel) (by decide +kernel)
set_option maxRecDepth 20000 in
theorem gX8_overType_X8_here : GoodIn wsX8_overType (wsV RX8 81 RX8 yX8_here wsX8_here) := goodIn_app (goodIn_of _ (by decide +kernel)) ggX8_overType_X8_here
set_option maxRecDepth 20000 in
theorem ggX8_overType_X8_bad : GoodIn wsX8_overType wsX8_bad := goodIn_r _ [13, 14, 15, 16, 17, 18, 19, 20, 21, 22, 23, 24, 25, 26, 27, 28, 29, 30, 31, 32, 33, 34, 35, 36, 37, 38, 39, 40, 41, 42] (by decide +kernel) (by decide +kernel)
set_option maxRecDepth 20000 in
theorem gX8_overType_X8_bad : GoodIn wsX8_overType (wsV RX8 85 RX8 yX8_bad wsX8_bad) := goodIn_app (goodIn_of _ (by decide +kernel)) ggX8_overType_X8_bad
theorem dX8_overType_0 : decode cX8_overType 0 = .ok (.aload_n 0, 1) := by decide +kernel
theorem dX8_overType_1 : decode cX8_overType 1 = .ok (.invokevirtual 81, 3) := by decide +kernel
theorem dX8_overType_4 : decode cX8_overType 4 = .ok (.istore_n 2, 1) := by decide +kernel
theorem dX8_overType_5 : decode cX8_overType 5 = .ok (.iload_n 2, 1) := by decide +kernel
theorem dX8_overType_6 : decode cX8_overType 6 = .ok (.aload_n 0, 1) := by decide +kernel
theorem dX8_overType_7 : decode cX8_overType 7 = .ok (.getfield 89, 3) := by decide +kernel
theorem dX8_overType_10 : decode cX8_overType 10 = .ok (.if_icmp .le 31, 3) := by decide +kernel
theorem dX8_overType_13 : decode cX8_overType 13 = .ok (.iload_n 2, 1) := by decide +kernel
theorem dX8_overType_14 : decode cX8_overType 14 = .ok (.bipush 64, 2) := by decide +kernel
theorem dX8_overType_16 : decode cX8_overType 16 = .ok (.if_icmp .lt 14, 3) := by decide +kernel
theorem dX8_overType_19 : decode cX8_overType 19 = .ok (.iload_n 2, 1) := by decide +kernel
theorem dX8_overType_20 : decode cX8_overType 20 = .ok (.bipush 64, 2) := by decide +kernel
theorem dX8_overType_22 : decode cX8_overType 22 = .ok (.aload_n 0, 1) := by decide +kernel
theorem dX8_overType_23 : decode cX8_overType 23 = .ok (.getfield 89, 3) := by decide +kernel
theorem dX8_overType_26 : decode cX8_overType 26 = .ok (.iadd, 1) := by decide +kernel
theorem dX8_overType_27 : decode cX8_overType 27 = .ok (.if_icmp .le 14, 3) := by decide +kernel
theorem dX8_overType_30 : decode cX8_overType 30 = .ok (.iload_n 1, 1) := by decide +kernel
theorem dX8_overType_31 : decode cX8_overType 31 = .ok (.ifCond .eq 14, 3) := by decide +kernel
theorem dX8_overType_34 : decode cX8_overType 34 = .ok (.iload_n 2, 1) := by decide +kernel
theorem dX8_overType_35 : decode cX8_overType 35 = .ok (.sipush 255, 3) := by decide +kernel
theorem dX8_overType_38 : decode cX8_overType 38 = .ok (.if_icmp .ne 7, 3) := by decide +kernel
theorem dX8_overType_41 : decode cX8_overType 41 = .ok (.iconst 1, 1) := by decide +kernel
theorem dX8_overType_42 : decode cX8_overType 42 = .ok (.goto 4, 3) := by decide +kernel
theorem dX8_overType_45 : decode cX8_overType 45 = .ok (.iconst 0, 1) := by decide +kernel
theorem dX8_overType_46 : decode cX8_overType 46 = .ok (.istore_n 3, 1) := by decide +kernel
theorem dX8_overType_47 : decode cX8_overType 47 = .ok (.iload_n 3, 1) := by decide +kernel
theorem dX8_overType_48 : decode cX8_overType 48 = .ok (.ifCond .ne 12, 3) := by decide +kernel
theorem dX8_overType_51 : decode cX8_overType 51 = .ok (.aload_n 0, 1) := by decide +kernel
theorem dX8_overType_52 : decode cX8_overType 52 = .ok (.aload_n 0, 1) := by decide +kernel
theorem dX8_overType_53 : decode cX8_overType 53 = .ok (.getfield 75, 3) := by decide +kernel
theorem dX8_overType_56 : decode cX8_overType 56 = .ok (.invokevirtual 85, 3) := by decide +kernel
theorem dX8_overType_59 : decode cX8_overType 59 = .ok (.ireturn, 1) := by decide +kernel
theorem dX8_overType_60 : decode cX8_overType 60 = .ok (.aload_n 0, 1) := by decide +kernel
theorem dX8_overType_61 : decode cX8_overType 61 = .ok (.dup, 1) := by decide +kernel
theorem dX8_overType_62 : decode cX8_overType 62 = .ok (.getfield 75, 3) := by decide +kernel
theorem dX8_overType_65 : decode cX8_overType 65 = .ok (.iconst 1, 1) := by decide +kernel
theorem dX8_overType_66 : decode cX8_overType 66 = .ok (.iadd, 1) := by decide +kernel
theorem dX8_overType_67 : decode cX8_overType 67 = .ok (.putfield 75, 3) := by decide +kernel
theorem dX8_overType_70 : decode cX8_overType 70 = .ok (.iconst 1, 1) := by decide +kernel
theorem dX8_overType_71 : decode cX8_overType 71 = .ok (.ireturn, 1) := by decide +kernel
set_option maxRecDepth 20000 in
theorem ggX8_readClass_X8_here : GoodIn wsX8_readClass wsX8_here := goodIn_r _ [11, 1, 12, 13, 32, 33, 34, 35, 36, 37, 38, 39, 40, 41, 42, 43, 44, 45, 46, 47, 48, 49, 50, 51, 52, 53, 54, 55, 56, 57, 58, 59] (by decide +kernel) (by decide +kernel)
set_option maxRecDepth 20000 in
theorem gX8_readClass_X8_here : GoodIn wsX8_readClass (wsV RX8 81 RX8 yX8_here wsX8_here) := goodIn_app (goodIn_of _ (by decide +kernel)) ggX8_readClass_X8_here
set_option maxRecDepth 20000 in
theorem ggX8_readClass_X8_bad : GoodIn wsX8_readClass wsX8_bad := goodIn_r _ [17, 18, 32, 33, 34, 35, 36, 37, 38, 39, 40, 41, 42, 43, 44, 45, 46, 47, 48, 49, 50, 51, 52, 53, 54, 55, 56, 57, 58, 59] (by decide +kernel) (by decide +kernel)
set_option maxRecDepth 20000 in
theorem gX8_readClass_X8_bad : GoodIn wsX8_readClass (wsV RX8 85 RX8 yX8_bad wsX8_bad) := goodIn_app (goodIn_of _ (by decide +kernel)) ggX8_readClass_X8_bad
set_option maxRecDepth 20000 in
theorem ggX8_readClass_X8_over : GoodIn wsX8_readClass wsX8_over := goodIn_r _ [22, 1, 7, 8, 9, 10, 11, 12, 13, 14, 15, 16, 17, 18, 32, 33, 34, 35, 36, 37, 38, 39, 40, 41, 42, 43, 44, 45, 46, 47, 48, 49, 50, 51, 52, 53, 54, 55, 56, 57, 58, 59] (by decide +kernel) (by decide +kernel)
set_option maxRecDepth 20000 in
theorem gX8_readClass_X8_over : GoodIn wsX8_readClass (wsV RX8 92 RX8 yX8_over wsX8_over) := goodIn_app (goodIn_of _ (by decide +kernel)) ggX8_readClass_X8_over
set_option maxRecDepth 20000 in
theorem ggX8_readClass_X8_last : GoodIn wsX8_readClass wsX8_last := goodIn_r _ [26, 13, 1, 32, 33, 34, 35, 36, 37, 38, 39, 40, 41, 42, 43, 44, 45, 46, 47, 48, 49, 50, 51, 52, 53, 54, 55, 56, 57, 58, 59] (by decide +kernel) (by decide +kernel)
set_option maxRecDepth 20000 in
theorem gX8_readClass_X8_last : GoodIn wsX8_readClass (wsV RX8 96 RX8 yX8_last wsX8_last) := goodIn_app (goodIn_of _ (by decide +kernel)) ggX8_readClass_X8_last
set_option maxRecDepth 20000 in
theorem ggX8_readClass_X8_overType : GoodIn wsX8_readClass wsX8_overType := goodIn_r _ [30, 31, 1, 7, 8, 9, 10, 11, 12, 13, 14, 15, 16, 17, 18, 32, 33, 34, 35, 36, 37, 38, 39, 40, 41, 42, 43, 44, 45, 46, 47, 48, 49, 50, 51, 52, 53, 54, 55, 56, 57, 58, 59] (by decide +kernel) (by decide +kernel)
set_option maxRecDepth 20000 in
theorem gX8_readClass_X8_overType : GoodIn wsX8_readClass (wsV RX8 99 RX8 yX8_overType wsX8_overType) := goodIn_app (goodIn_of _ (by decide +kernel)) ggX8_readClass_X8_overType
theorem dX8_readClass_0 : decode cX8_readClass 0 = .ok (.aload_n 0, 1) := by decide +kernel
theorem dX8_readClass_1 : decode cX8_readClass 1 = .ok (.invokevirtual 81, 3) := by decide +kernel
theorem dX8_readClass_4 : decode cX8_readClass 4 = .ok (.sipush 255, 3) := by decide +kernel
theorem dX8_readClass_7 : decode cX8_readClass 7 = .ok (.if_icmp .eq 20, 3) := by decide +kernel
theorem dX8_readClass_10 : decode cX8_readClass 10 = .ok (.aload_n 0, 1) := by decide +kernel
theorem dX8_readClass_11 : decode cX8_readClass 11 = .ok (.invokevirtual 81, 3) := by decide +kernel
theorem dX8_readClass_14 : decode cX8_readClass 14 = .ok (.iload_n 1, 1) := by decide +kernel
theorem dX8_readClass_15 : decode cX8_readClass 15 = .ok (.if_icmp .lt 12, 3) := by decide +kernel
theorem dX8_readClass_18 : decode cX8_readClass 18 = .ok (.aload_n 0, 1) := by decide +kernel
theorem dX8_readClass_19 : decode cX8_readClass 19 = .ok (.aload_n 0, 1) := by decide +kernel
theorem dX8_readClass_20 : decode cX8_readClass 20 = .ok (.getfield 75, 3) := by decide +kernel
theorem dX8_readClass_23 : decode cX8_readClass 23 = .ok (.invokevirtual 85, 3) := by decide +kernel
theorem dX8_readClass_26 : decode cX8_readClass 26 = .ok (.ireturn, 1) := by decide +kernel
theorem dX8_readClass_27 : decode cX8_readClass 27 = .ok (.aload_n 0, 1) := by decide +kernel
theorem dX8_readClass_28 : decode cX8_readClass 28 = .ok (.getfield 20, 3) := by decide +kernel
theorem dX8_readClass_31 : decode cX8_readClass 31 = .ok (.iload_n 1, 1) := by decide +kernel
theorem dX8_readClass_32 : decode cX8_readClass 32 = .ok (.aload_n 0, 1) := by decide +kernel
theorem dX8_readClass_33 : decode cX8_readClass 33 = .ok (.invokevirtual 81, 3) := by decide +kernel
theorem dX8_readClass_36 : decode cX8_readClass 36 = .ok (.sipush 255, 3) := by decide +kernel
theorem dX8_readClass_39 : decode cX8_readClass 39 = .ok (.if_icmp .ne 7, 3) := by decide +kernel
theorem dX8_readClass_42 : decode cX8_readClass 42 = .ok (.iconst (-1), 1) := by decide +kernel
theorem dX8_readClass_43 : decode cX8_readClass 43 = .ok (.goto 7, 3) := by decide +kernel
theorem dX8_readClass_46 : decode cX8_readClass 46 = .ok (.aload_n 0, 1) := by decide +kernel
theorem dX8_readClass_47 : decode cX8_readClass 47 = .ok (.invokevirtual 81, 3) := by decide +kernel
theorem dX8_readClass_50 : decode cX8_readClass 50 = .ok (.iastore, 1) := by decide +kernel
theorem dX8_readClass_51 : decode cX8_readClass 51 = .ok (.aload_n 0, 1) := by decide +kernel
theorem dX8_readClass_52 : decode cX8_readClass 52 = .ok (.dup, 1) := by decide +kernel
theorem dX8_readClass_53 : decode cX8_readClass 53 = .ok (.getfield 75, 3) := by decide +kernel
theorem dX8_readClass_56 : decode cX8_readClass 56 = .ok (.iconst 1, 1) := by decide +kernel
theorem dX8_readClass_57 : decode cX8_readClass 57 = .ok (.iadd, 1) := by decide +kernel
theorem dX8_readClass_58 : decode cX8_readClass 58 = .ok (.putfield 75, 3) := by decide +kernel
theorem dX8_readClass_61 : decode cX8_readClass 61 = .ok (.aload_n 0, 1) := by decide +kernel
theorem dX8_readClass_62 : decode cX8_readClass 62 = .ok (.getfield 20, 3) := by decide +kernel
theorem dX8_readClass_65 : decode cX8_readClass 65 = .ok (.iload_n 1, 1) := by decide +kernel
theorem dX8_readClass_66 : decode cX8_readClass 66 = .ok (.iaload, 1) := by decide +kernel
theorem dX8_readClass_67 : decode cX8_readClass 67 = .ok (.istore_n 2, 1) := by decide +kernel
theorem dX8_readClass_68 : decode cX8_readClass 68 = .ok (.iload_n 2, 1) := by decide +kernel
theorem dX8_readClass_69 : decode cX8_readClass 69 = .ok (.ifCond .ge 7, 3) := by decide +kernel
theorem dX8_readClass_72 : decode cX8_readClass 72 = .ok (.iconst 0, 1) := by decide +kernel
theorem dX8_readClass_73 : decode cX8_readClass 73 = .ok (.goto 9, 3) := by decide +kernel
theorem dX8_readClass_76 : decode cX8_readClass 76 = .ok (.aload_n 0, 1) := by decide +kernel
theorem dX8_readClass_77 : decode cX8_readClass 77 = .ok (.getfield 23, 3) := by decide +kernel
theorem dX8_readClass_80 : decode cX8_readClass 80 = .ok (.iload_n 2, 1) := by decide +kernel
theorem dX8_readClass_81 : decode cX8_readClass 81 = .ok (.iaload, 1) := by decide +kernel
theorem dX8_readClass_82 : decode cX8_readClass 82 = .ok (.istore_n 3, 1) := by decide +kernel
theorem dX8_readClass_83 : decode cX8_readClass 83 = .ok (.iconst 0, 1) := by decide +kernel
theorem dX8_readClass_84 : decode cX8_readClass 84 = .ok (.istore 4, 2) := by decide +kernel
theorem dX8_readClass_86 : decode cX8_readClass 86 = .ok (.iload 4, 2) := by decide +kernel
theorem dX8_readClass_88 : decode cX8_readClass 88 = .ok (.iload_n 3, 1) := by decide +kernel
theorem dX8_readClass_89 : decode cX8_readClass 89 = .ok (.if_icmp .ge 33, 3) := by decide +kernel
theorem dX8_readClass_92 : decode cX8_readClass 92 = .ok (.aload_n 0, 1) := by decide +kernel
theorem dX8_readClass_93 : decode cX8_readClass 93 = .ok (.getfield 26, 3) := by decide +kernel
theorem dX8_readClass_96 : decode cX8_readClass 96 = .ok (.bipush 15, 2) := by decide +kernel
theorem dX8_readClass_98 : decode cX8_readClass 98 = .ok (.iload_n 1, 1) := by decide +kernel
theorem dX8_readClass_99 : decode cX8_readClass 99 = .ok (.imul, 1) := by decide +kernel
theorem dX8_readClass_100 : decode cX8_readClass 100 = .ok (.iload 4, 2) := by decide +kernel
theorem dX8_readClass_102 : decode cX8_readClass 102 = .ok (.iadd, 1) := by decide +kernel
theorem dX8_readClass_103 : decode cX8_readClass 103 = .ok (.aload_n 0, 1) := by decide +kernel
theorem dX8_readClass_104 : decode cX8_readClass 104 = .ok (.getfield 26, 3) := by decide +kernel
theorem dX8_readClass_107 : decode cX8_readClass 107 = .ok (.bipush 15, 2) := by decide +kernel
theorem dX8_readClass_109 : decode cX8_readClass 109 = .ok (.iload_n 2, 1) := by decide +kernel
theorem dX8_readClass_110 : decode cX8_readClass 110 = .ok (.imul, 1) := by decide +kernel
theorem dX8_readClass_111 : decode cX8_readClass 111 = .ok (.iload 4, 2) := by decide +kernel
theorem dX8_readClass_113 : decode cX8_readClass 113 = .ok (.iadd, 1) := by decide +kernel
theorem dX8_readClass_114 : decode cX8_readClass 114 = .ok (.iaload, 1) := by decide +kernel
theorem dX8_readClass_115 : decode cX8_readClass 115 = .ok (.iastore, 1) := by decide +kernel
theorem dX8_readClass_116 : decode cX8_readClass 116 = .ok (.iinc 4 1, 3) := by decide +kernel
theorem dX8_readClass_119 : decode cX8_readClass 119 = .ok (.goto (-33), 3) := by decide +kernel
theorem dX8_readClass_122 : decode cX8_readClass 122 = .ok (.aload_n 0, 1) := by decide +kernel
theorem dX8_readClass_123 : decode cX8_readClass 123 = .ok (.iconst 0, 1) := by decide +kernel
theorem dX8_readClass_124 : decode cX8_readClass 124 = .ok (.bipush 15, 2) := by decide +kernel
theorem dX8_readClass_126 : decode cX8_readClass 126 = .ok (.iload_n 3, 1) := by decide +kernel
theorem dX8_readClass_127 : decode cX8_readClass 127 = .ok (.isub, 1) := by decide +kernel
theorem dX8_readClass_128 : decode cX8_readClass 128 = .ok (.invokevirtual 92, 3) := by decide +kernel
theorem dX8_readClass_131 : decode cX8_readClass 131 = .ok (.ifCond .ne 5, 3) := by decide +kernel
theorem dX8_readClass_134 : decode cX8_readClass 134 = .ok (.iconst 0, 1) := by decide +kernel
theorem dX8_readClass_135 : decode cX8_readClass 135 = .ok (.ireturn, 1) := by decide +kernel
theorem dX8_readClass_136 : decode cX8_readClass 136 = .ok (.aload_n 0, 1) := by decide +kernel
theorem dX8_readClass_137 : decode cX8_readClass 137 = .ok (.getfield 23, 3) := by decide +kernel
theorem dX8_readClass_140 : decode cX8_readClass 140 = .ok (.iload_n 1, 1) := by decide +kernel
theorem dX8_readClass_141 : decode cX8_readClass 141 = .ok (.iload_n 3, 1) := by decide +kernel
theorem dX8_readClass_142 : decode cX8_readClass 142 = .ok (.aload_n 0, 1) := by decide +kernel
theorem dX8_readClass_143 : decode cX8_readClass 143 = .ok (.invokevirtual 96, 3) := by decide +kernel
theorem dX8_readClass_146 : decode cX8_readClass 146 = .ok (.iadd, 1) := by decide +kernel
theorem dX8_readClass_147 : decode cX8_readClass 147 = .ok (.iastore, 1) := by decide +kernel
theorem dX8_readClass_148 : decode cX8_readClass 148 = .ok (.iload_n 3, 1) := by decide +kernel
theorem dX8_readClass_149 : decode cX8_readClass 149 = .ok (.istore 4, 2) := by decide +kernel
theorem dX8_readClass_151 : decode cX8_readClass 151 = .ok (.iload 4, 2) := by decide +kernel
theorem dX8_readClass_153 : decode cX8_readClass 153 = .ok (.aload_n 0, 1) := by decide +kernel
theorem dX8_readClass_154 : decode cX8_readClass 154 = .ok (.getfield 23, 3) := by decide +kernel
theorem dX8_readClass_157 : decode cX8_readClass 157 = .ok (.iload_n 1, 1) := by decide +kernel
theorem dX8_readClass_158 : decode cX8_readClass 158 = .ok (.iaload, 1) := by decide +kernel
theorem dX8_readClass_159 : decode cX8_readClass 159 = .ok (.if_icmp .ge 35, 3) := by decide +kernel
theorem dX8_readClass_162 : decode cX8_readClass 162 = .ok (.aload_n 0, 1) := by decide +kernel
theorem dX8_readClass_163 : decode cX8_readClass 163 = .ok (.iconst 0, 1) := by decide +kernel
theorem dX8_readClass_164 : decode cX8_readClass 164 = .ok (.invokevirtual 99, 3) := by decide +kernel
theorem dX8_readClass_167 : decode cX8_readClass 167 = .ok (.ifCond .ne 5, 3) := by decide +kernel
theorem dX8_readClass_170 : decode cX8_readClass 170 = .ok (.iconst 0, 1) := by decide +kernel
theorem dX8_readClass_171 : decode cX8_readClass 171 = .ok (.ireturn, 1) := by decide +kernel
theorem dX8_readClass_172 : decode cX8_readClass 172 = .ok (.aload_n 0, 1) := by decide +kernel
theorem dX8_readClass_173 : decode cX8_readClass 173 = .ok (.getfield 26, 3) := by decide +kernel
theorem dX8_readClass_176 : decode cX8_readClass 176 = .ok (.bipush 15, 2) := by decide +kernel
theorem dX8_readClass_178 : decode cX8_readClass 178 = .ok (.iload_n 1, 1) := by decide +kernel
theorem dX8_readClass_179 : decode cX8_readClass 179 = .ok (.imul, 1) := by decide +kernel
theorem dX8_readClass_180 : decode cX8_readClass 180 = .ok (.iload 4, 2) := by decide +kernel
theorem dX8_readClass_182 : decode cX8_readClass 182 = .ok (.iadd, 1) := by decide +kernel
theorem dX8_readClass_183 : decode cX8_readClass 183 = .ok (.aload_n 0, 1) := by decide +kernel
theorem dX8_readClass_184 : decode cX8_readClass 184 = .ok (.invokevirtual 96, 3) := by decide +kernel
theorem dX8_readClass_187 : decode cX8_readClass 187 = .ok (.iastore, 1) := by decide +kernel
theorem dX8_readClass_188 : decode cX8_readClass 188 = .ok (.iinc 4 1, 3) := by decide +kernel
theorem dX8_readClass_191 : decode cX8_readClass 191 = .ok (.goto (-40), 3) := by decide +kernel
theorem dX8_readClass_194 : decode cX8_readClass 194 = .ok (.iconst 0, 1) := by decide +kernel
theorem dX8_readClass_195 : decode cX8_readClass 195 = .ok (.istore 4, 2) := by decide +kernel
theorem dX8_readClass_197 : decode cX8_readClass 197 = .ok (.iload 4, 2) := by decide +kernel
theorem dX8_readClass_199 : decode cX8_readClass 199 = .ok (.bipush 16, 2) := by decide +kernel
theorem dX8_readClass_201 : decode cX8_readClass 201 = .ok (.if_icmp .ge 54, 3) := by decide +kernel
theorem dX8_readClass_204 : decode cX8_readClass 204 = .ok (.aload_n 0, 1) := by decide +kernel
theorem dX8_readClass_205 : decode cX8_readClass 205 = .ok (.getfield 29, 3) := by decide +kernel
theorem dX8_readClass_208 : decode cX8_readClass 208 = .ok (.bipush 16, 2) := by decide +kernel
theorem dX8_readClass_210 : decode cX8_readClass 210 = .ok (.iload_n 1, 1) := by decide +kernel
theorem dX8_readClass_211 : decode cX8_readClass 211 = .ok (.imul, 1) := by decide +kernel
theorem dX8_readClass_212 : decode cX8_readClass 212 = .ok (.iload 4, 2) := by decide +kernel
theorem dX8_readClass_214 : decode cX8_readClass 214 = .ok (.iadd, 1) := by decide +kernel
theorem dX8_readClass_215 : decode cX8_readClass 215 = .ok (.iload_n 2, 1) := by decide +kernel
theorem dX8_readClass_216 : decode cX8_readClass 216 = .ok (.ifCond .ge 7, 3) := by decide +kernel
theorem dX8_readClass_219 : decode cX8_readClass 219 = .ok (.iconst (-1), 1) := by decide +kernel
theorem dX8_readClass_220 : decode cX8_readClass 220 = .ok (.goto 15, 3) := by decide +kernel
theorem dX8_readClass_223 : decode cX8_readClass 223 = .ok (.aload_n 0, 1) := by decide +kernel
theorem dX8_readClass_224 : decode cX8_readClass 224 = .ok (.getfield 29, 3) := by decide +kernel
theorem dX8_readClass_227 : decode cX8_readClass 227 = .ok (.bipush 16, 2) := by decide +kernel
theorem dX8_readClass_229 : decode cX8_readClass 229 = .ok (.iload_n 2, 1) := by decide +kernel
theorem dX8_readClass_230 : decode cX8_readClass 230 = .ok (.imul, 1) := by decide +kernel
theorem dX8_readClass_231 : decode cX8_readClass 231 = .ok (.iload 4, 2) := by decide +kernel
theorem dX8_readClass_233 : decode cX8_readClass 233 = .ok (.iadd, 1) := by decide +kernel
theorem dX8_readClass_234 : decode cX8_readClass 234 = .ok (.iaload, 1) := by decide +kernel
theorem dX8_readClass_235 : decode cX8_readClass 235 = .ok (.iastore, 1) := by decide +kernel
theorem dX8_readClass_236 : decode cX8_readClass 236 = .ok (.aload_n 0, 1) := by decide +kernel
theorem dX8_readClass_237 : decode cX8_readClass 237 = .ok (.getfield 32, 3) := by decide +kernel
theorem dX8_readClass_240 : decode cX8_readClass 240 = .ok (.bipush 16, 2) := by decide +kernel
theorem dX8_readClass_242 : decode cX8_readClass 242 = .ok (.iload_n 1, 1) := by decide +kernel
theorem dX8_readClass_243 : decode cX8_readClass 243 = .ok (.imul, 1) := by decide +kernel
theorem dX8_readClass_244 : decode cX8_readClass 244 = .ok (.iload 4, 2) := by decide +kernel
theorem dX8_readClass_246 : decode cX8_readClass 246 = .ok (.iadd, 1) := by decide +kernel
theorem dX8_readClass_247 : decode cX8_readClass 247 = .ok (.iconst (-1), 1) := by decide +kernel
theorem dX8_readClass_248 : decode cX8_readClass 248 = .ok (.iastore, 1) := by decide +kernel
theorem dX8_readClass_249 : decode cX8_readClass 249 = .ok (.iinc 4 1, 3) := by decide +kernel
theorem dX8_readClass_252 : decode cX8_readClass 252 = .ok (.goto (-55), 3) := by decide +kernel
theorem dX8_readClass_255 : decode cX8_readClass 255 = .ok (.aload_n 0, 1) := by decide +kernel
theorem dX8_readClass_256 : decode cX8_readClass 256 = .ok (.iconst 0, 1) := by decide +kernel
theorem dX8_readClass_257 : decode cX8_readClass 257 = .ok (.bipush 16, 2) := by decide +kernel
theorem dX8_readClass_259 : decode cX8_readClass 259 = .ok (.invokevirtual 92, 3) := by decide +kernel
theorem dX8_readClass_262 : decode cX8_readClass 262 = .ok (.ifCond .ne 5, 3) := by decide +kernel
theorem dX8_readClass_265 : decode cX8_readClass 265 = .ok (.iconst 0, 1) := by decide +kernel
theorem dX8_readClass_266 : decode cX8_readClass 266 = .ok (.ireturn, 1) := by decide +kernel
theorem dX8_readClass_267 : decode cX8_readClass 267 = .ok (.aload_n 0, 1) := by decide +kernel
theorem dX8_readClass_268 : decode cX8_readClass 268 = .ok (.invokevirtual 96, 3) := by decide +kernel
theorem dX8_readClass_271 : decode cX8_readClass 271 = .ok (.istore 4, 2) := by decide +kernel
theorem dX8_readClass_273 : decode cX8_readClass 273 = .ok (.iconst 0, 1) := by decide +kernel
theorem dX8_readClass_274 : decode cX8_readClass 274 = .ok (.istore 5, 2) := by decide +kernel
theorem dX8_readClass_276 : decode cX8_readClass 276 = .ok (.iconst 0, 1) := by decide +kernel
theorem dX8_readClass_277 : decode cX8_readClass 277 = .ok (.istore 6, 2) := by decide +kernel
theorem dX8_readClass_279 : decode cX8_readClass 279 = .ok (.iload 6, 2) := by decide +kernel
theorem dX8_readClass_281 : decode cX8_readClass 281 = .ok (.iload 4, 2) := by decide +kernel
theorem dX8_readClass_283 : decode cX8_readClass 283 = .ok (.if_icmp .ge 81, 3) := by decide +kernel
theorem dX8_readClass_286 : decode cX8_readClass 286 = .ok (.aload_n 0, 1) := by decide +kernel
theorem dX8_readClass_287 : decode cX8_readClass 287 = .ok (.iload 5, 2) := by decide +kernel
theorem dX8_readClass_289 : decode cX8_readClass 289 = .ok (.bipush 15, 2) := by decide +kernel
theorem dX8_readClass_291 : decode cX8_readClass 291 = .ok (.invokevirtual 92, 3) := by decide +kernel
theorem dX8_readClass_294 : decode cX8_readClass 294 = .ok (.ifCond .ne 5, 3) := by decide +kernel
theorem dX8_readClass_297 : decode cX8_readClass 297 = .ok (.iconst 0, 1) := by decide +kernel
theorem dX8_readClass_298 : decode cX8_readClass 298 = .ok (.ireturn, 1) := by decide +kernel
theorem dX8_readClass_299 : decode cX8_readClass 299 = .ok (.aload_n 0, 1) := by decide +kernel
theorem dX8_readClass_300 : decode cX8_readClass 300 = .ok (.invokevirtual 96, 3) := by decide +kernel
theorem dX8_readClass_303 : decode cX8_readClass 303 = .ok (.istore 7, 2) := by decide +kernel
theorem dX8_readClass_305 : decode cX8_readClass 305 = .ok (.iload 7, 2) := by decide +kernel
theorem dX8_readClass_307 : decode cX8_readClass 307 = .ok (.iconst 1, 1) := by decide +kernel
theorem dX8_readClass_308 : decode cX8_readClass 308 = .ok (.iadd, 1) := by decide +kernel
theorem dX8_readClass_309 : decode cX8_readClass 309 = .ok (.istore 5, 2) := by decide +kernel
theorem dX8_readClass_311 : decode cX8_readClass 311 = .ok (.aload_n 0, 1) := by decide +kernel
theorem dX8_readClass_312 : decode cX8_readClass 312 = .ok (.iconst 0, 1) := by decide +kernel
theorem dX8_readClass_313 : decode cX8_readClass 313 = .ok (.sipush 255, 3) := by decide +kernel
theorem dX8_readClass_316 : decode cX8_readClass 316 = .ok (.invokevirtual 92, 3) := by decide +kernel
theorem dX8_readClass_319 : decode cX8_readClass 319 = .ok (.ifCond .ne 5, 3) := by decide +kernel
theorem dX8_readClass_322 : decode cX8_readClass 322 = .ok (.iconst 0, 1) := by decide +kernel
theorem dX8_readClass_323 : decode cX8_readClass 323 = .ok (.ireturn, 1) := by decide +kernel
theorem dX8_readClass_324 : decode cX8_readClass 324 = .ok (.aload_n 0, 1) := by decide +kernel
theorem dX8_readClass_325 : decode cX8_readClass 325 = .ok (.getfield 29, 3) := by decide +kernel
theorem dX8_readClass_328 : decode cX8_readClass 328 = .ok (.bipush 16, 2) := by decide +kernel
theorem dX8_readClass_330 : decode cX8_readClass 330 = .ok (.iload_n 1, 1) := by decide +kernel
theorem dX8_readClass_331 : decode cX8_readClass 331 = .ok (.imul, 1) := by decide +kernel
theorem dX8_readClass_332 : decode cX8_readClass 332 = .ok (.iload 7, 2) := by decide +kernel
theorem dX8_readClass_334 : decode cX8_readClass 334 = .ok (.iadd, 1) := by decide +kernel
theorem dX8_readClass_335 : decode cX8_readClass 335 = .ok (.aload_n 0, 1) := by decide +kernel
theorem dX8_readClass_336 : decode cX8_readClass 336 = .ok (.invokevirtual 96, 3) := by decide +kernel
theorem dX8_readClass_339 : decode cX8_readClass 339 = .ok (.iastore, 1) := by decide +kernel
theorem dX8_readClass_340 : decode cX8_readClass 340 = .ok (.aload_n 0, 1) := by decide +kernel
theorem dX8_readClass_341 : decode cX8_readClass 341 = .ok (.getfield 32, 3) := by decide +kernel
theorem dX8_readClass_344 : decode cX8_readClass 344 = .ok (.bipush 16, 2) := by decide +kernel
theorem dX8_readClass_346 : decode cX8_readClass 346 = .ok (.iload_n 1, 1) := by decide +kernel
theorem dX8_readClass_347 : decode cX8_readClass 347 = .ok (.imul, 1) := by decide +kernel
theorem dX8_readClass_348 : decode cX8_readClass 348 = .ok (.iload 7, 2) := by decide +kernel
theorem dX8_readClass_350 : decode cX8_readClass 350 = .ok (.iadd, 1) := by decide +kernel
theorem dX8_readClass_351 : decode cX8_readClass 351 = .ok (.aload_n 0, 1) := by decide +kernel
theorem dX8_readClass_352 : decode cX8_readClass 352 = .ok (.getfield 75, 3) := by decide +kernel
theorem dX8_readClass_355 : decode cX8_readClass 355 = .ok (.iconst 1, 1) := by decide +kernel
theorem dX8_readClass_356 : decode cX8_readClass 356 = .ok (.isub, 1) := by decide +kernel
theorem dX8_readClass_357 : decode cX8_readClass 357 = .ok (.iastore, 1) := by decide +kernel
theorem dX8_readClass_358 : decode cX8_readClass 358 = .ok (.iinc 6 1, 3) := by decide +kernel
theorem dX8_readClass_361 : decode cX8_readClass 361 = .ok (.goto (-82), 3) := by decide +kernel
theorem dX8_readClass_364 : decode cX8_readClass 364 = .ok (.iconst 1, 1) := by decide +kernel
theorem dX8_readClass_365 : decode cX8_readClass 365 = .ok (.ireturn, 1) := by decide +kernel
set_option maxRecDepth 20000 in
theorem ggX8_readMethod_X8_here : GoodIn wsX8_readMethod wsX8_here := goodIn_r _ [17, 2, 18, 19, 56, 57, 58, 59, 60, 61, 62, 63, 64, 65, 66, 67, 68, 69, 70, 71, 72, 73, 74, 75, 76, 77, 78, 79, 80, 81, 82, 83] (by decide +kernel) (by decide +kernel)
set_option maxRecDepth 20000 in
theorem gX8_readMethod_X8_here : GoodIn wsX8_readMethod (wsV RX8 81 RX8 yX8_here wsX8_here) := goodIn_app (goodIn_of _ (by decide +kernel)) ggX8_readMethod_X8_here
set_option maxRecDepth 20000 in
theorem ggX8_readMethod_X8_bad : GoodIn wsX8_readMethod wsX8_bad := goodIn_r _ [23, 24, 56, 57, 58, 59, 60, 61, 62, 63, 64, 65, 66, 67, 68, 69, 70, 71, 72, 73, 74, 75, 76, 77, 78, 79, 80, 81, 82, 83] (by decide +kernel) (by decide +kernel)
set_option maxRecDepth 20000 in
theorem gX8_readMethod_X8_bad : GoodIn wsX8_readMethod (wsV RX8 85 RX8 yX8_bad wsX8_bad) := goodIn_app (goodIn_of _ (by decide +kernel)) ggX8_readMethod_X8_bad
set_option maxRecDepth 20000 in
theorem ggX8_readMethod_X8_over : GoodIn wsX8_readMethod wsX8_over := goodIn_r _ [28, 2, 13, 14, 15, 16, 17, 18, 19, 20, 21, 22, 23, 24, 56, 57, 58, 59, 60, 61, 62, 63, 64, 65, 66, 67, 68, 69, 70, 71, 72, 73, 74, 75, 76, 77, 78, 79, 80, 81, 82, 83] (by decide +kernel) (by decide +kernel)
set_option maxRecDepth 20000 in
theorem gX8_readMethod_X8_over : GoodIn wsX8_readMethod (wsV RX8 92 RX8 yX8_over wsX8_over) := goodIn_app (goodIn_of _ (by decide +kernel)) ggX8_readMethod_X8_over
set_option maxRecDepth 20000 in
theorem ggX8_readMethod_X8_last : GoodIn wsX8_readMethod wsX8_last := goodIn_r _ [32, 19, 2, 56, 57, 58, 59, 60, 61, 62, 63, 64, 65, 66, 67, 68, 69, 70, 71, 72, 73, 74, 75, 76, 77, 78, 79, 80, 81, 82, 83] (by decide +kernel) (by decide +kernel)
set_option maxRecDepth 20000 in
theorem gX8_readMethod_X8_last : GoodIn wsX8_readMethod (wsV RX8 96 RX8 yX8_last wsX8_last) := goodIn_app (goodIn_of _ (by decide +kernel)) ggX8_readMethod_X8_last
set_option maxRecDepth 20000 in
theorem ggX8_readMethod_X8_overType : GoodIn wsX8_readMethod wsX8_overType := goodIn_r _ [36, 1, 2, 13, 14, 15, 16, 17, 18, 19, 20, 21, 22, 23, 24, 56, 57, 58, 59, 60, 61, 62, 63, 64, 65, 66, 67, 68, 69, 70, 71, 72, 73, 74, 75, 76, 77, 78, 79, 80, 81, 82, 83] (by decide +kernel) (by decide +kernel)
set_option maxRecDepth 20000 in
theorem gX8_readMethod_X8_overType : GoodIn wsX8_readMethod (wsV RX8 99 RX8 yX8_overType wsX8_overType) := goodIn_app (goodIn_of _ (by decide +kernel)) ggX8_readMethod_X8_overType
set_option maxRecDepth 20000 in
theorem ggX8_readMethod_X8_two : GoodIn wsX8_readMethod wsX8_two := goodIn_r _ [40, 19, 56, 57, 58, 59, 60, 61, 62, 63, 64, 65, 66, 67, 68, 69, 70, 71, 72, 73, 74, 75, 76, 77, 78, 79, 80, 81, 82, 83] (by decide +kernel) (by decide +kernel)
set_option maxRecDepth 20000 in
theorem gX8_readMethod_X8_two : GoodIn wsX8_readMethod (wsV RX8 103 RX8 yX8_two wsX8_two) := goodIn_app (goodIn_of _ (by decide +kernel)) ggX8_readMethod_X8_two
set_option maxRecDepth 20000 in
theorem ggX8_readMethod_X8_readInstruction : GoodIn wsX8_readMethod wsX8_readInstruction := goodIn_r _ [44, 2, 7, 45, 1, 46, 47, 48, 25, 26, 27, 16, 28, 13, 14, 15, 17, 18, 19, 20, 21, 22, 23, 24, 29, 30, 31, 32, 49, 50, 51, 52, 53, 54, 55, 56, 57, 58, 59, 60, 61, 62, 63, 64, 65, 66, 67, 68, 69, 70, 71, 72, 73, 74, 75, 76, 77, 78, 79, 80, 81, 82, 83] (by decide +kernel) (by decide +kernel)
set_option maxRecDepth 20000 in
theorem gX8_readMethod_X8_readInstruction : GoodIn wsX8_readMethod (wsV RX8 107 RX8 yX8_readInstruction wsX8_readInstruction) := goodIn_app (goodIn_of _ (by decide +kernel)) ggX8_readMethod_X8_readInstruction
set_option maxRecDepth 20000 in
theorem ggX8_readMethod_X8_overClass : GoodIn wsX8_readMethod wsX8_overClass := goodIn_r _ [55, 1, 25, 26, 27, 16, 28, 2, 13, 14, 15, 17, 18, 19, 20, 21, 22, 23, 24, 56, 57, 58, 59, 60, 61, 62, 63, 64, 65, 66, 67, 68, 69, 70, 71, 72, 73, 74, 75, 76, 77, 78, 79, 80, 81, 82, 83] (by decide +kernel) (by decide +kernel)
set_option maxRecDepth 20000 in
theorem gX8_readMethod_X8_overClass : GoodIn wsX8_readMethod (wsV RX8 110 RX8 yX8_overClass wsX8_overClass) := goodIn_app (goodIn_of _ (by decide +kernel)) ggX8_readMethod_X8_overClass
theorem dX8_readMethod_0 : decode cX8_readMethod 0 = .ok (.aload_n 0, 1) := by decide +kernel
theorem dX8_readMethod_1 : decode cX8_readMethod 1 = .ok (.invokevirtual 81, 3) := by decide +kernel
theorem dX8_readMethod_4 : decode cX8_readMethod 4 = .ok (.sipush 255, 3) := by decide +kernel
theorem dX8_readMethod_7 : decode cX8_readMethod 7 = .ok (.if_icmp .eq 23, 3) := by decide +kernel
theorem dX8_readMethod_10 : decode cX8_readMethod 10 = .ok (.aload_n 0, 1) := by decide +kernel
theorem dX8_readMethod_11 : decode cX8_readMethod 11 = .ok (.invokevirtual 81, 3) := by decide +kernel
theorem dX8_readMethod_14 : decode cX8_readMethod 14 = .ok (.aload_n 0, 1) := by decide +kernel
theorem dX8_readMethod_15 : decode cX8_readMethod 15 = .ok (.getfield 89, 3) := by decide +kernel
theorem dX8_readMethod_18 : decode cX8_readMethod 18 = .ok (.if_icmp .lt 12, 3) := by decide +kernel
theorem dX8_readMethod_21 : decode cX8_readMethod 21 = .ok (.aload_n 0, 1) := by decide +kernel
theorem dX8_readMethod_22 : decode cX8_readMethod 22 = .ok (.aload_n 0, 1) := by decide +kernel
theorem dX8_readMethod_23 : decode cX8_readMethod 23 = .ok (.getfield 75, 3) := by decide +kernel
theorem dX8_readMethod_26 : decode cX8_readMethod 26 = .ok (.invokevirtual 85, 3) := by decide +kernel
theorem dX8_readMethod_29 : decode cX8_readMethod 29 = .ok (.ireturn, 1) := by decide +kernel
theorem dX8_readMethod_30 : decode cX8_readMethod 30 = .ok (.aload_n 0, 1) := by decide +kernel
theorem dX8_readMethod_31 : decode cX8_readMethod 31 = .ok (.getfield 38, 3) := by decide +kernel
theorem dX8_readMethod_34 : decode cX8_readMethod 34 = .ok (.iload_n 1, 1) := by decide +kernel
theorem dX8_readMethod_35 : decode cX8_readMethod 35 = .ok (.aload_n 0, 1) := by decide +kernel
theorem dX8_readMethod_36 : decode cX8_readMethod 36 = .ok (.invokevirtual 81, 3) := by decide +kernel
theorem dX8_readMethod_39 : decode cX8_readMethod 39 = .ok (.sipush 255, 3) := by decide +kernel
theorem dX8_readMethod_42 : decode cX8_readMethod 42 = .ok (.if_icmp .ne 7, 3) := by decide +kernel
theorem dX8_readMethod_45 : decode cX8_readMethod 45 = .ok (.iconst (-1), 1) := by decide +kernel
theorem dX8_readMethod_46 : decode cX8_readMethod 46 = .ok (.goto 7, 3) := by decide +kernel
theorem dX8_readMethod_49 : decode cX8_readMethod 49 = .ok (.aload_n 0, 1) := by decide +kernel
theorem dX8_readMethod_50 : decode cX8_readMethod 50 = .ok (.invokevirtual 81, 3) := by decide +kernel
theorem dX8_readMethod_53 : decode cX8_readMethod 53 = .ok (.iastore, 1) := by decide +kernel
theorem dX8_readMethod_54 : decode cX8_readMethod 54 = .ok (.aload_n 0, 1) := by decide +kernel
theorem dX8_readMethod_55 : decode cX8_readMethod 55 = .ok (.dup, 1) := by decide +kernel
theorem dX8_readMethod_56 : decode cX8_readMethod 56 = .ok (.getfield 75, 3) := by decide +kernel
theorem dX8_readMethod_59 : decode cX8_readMethod 59 = .ok (.iconst 1, 1) := by decide +kernel
theorem dX8_readMethod_60 : decode cX8_readMethod 60 = .ok (.iadd, 1) := by decide +kernel
theorem dX8_readMethod_61 : decode cX8_readMethod 61 = .ok (.putfield 75, 3) := by decide +kernel
theorem dX8_readMethod_64 : decode cX8_readMethod 64 = .ok (.aload_n 0, 1) := by decide +kernel
theorem dX8_readMethod_65 : decode cX8_readMethod 65 = .ok (.iconst 0, 1) := by decide +kernel
theorem dX8_readMethod_66 : decode cX8_readMethod 66 = .ok (.bipush 7, 2) := by decide +kernel
theorem dX8_readMethod_68 : decode cX8_readMethod 68 = .ok (.invokevirtual 92, 3) := by decide +kernel
theorem dX8_readMethod_71 : decode cX8_readMethod 71 = .ok (.ifCond .ne 5, 3) := by decide +kernel
theorem dX8_readMethod_74 : decode cX8_readMethod 74 = .ok (.iconst 0, 1) := by decide +kernel
theorem dX8_readMethod_75 : decode cX8_readMethod 75 = .ok (.ireturn, 1) := by decide +kernel
theorem dX8_readMethod_76 : decode cX8_readMethod 76 = .ok (.aload_n 0, 1) := by decide +kernel
theorem dX8_readMethod_77 : decode cX8_readMethod 77 = .ok (.invokevirtual 96, 3) := by decide +kernel
theorem dX8_readMethod_80 : decode cX8_readMethod 80 = .ok (.istore_n 2, 1) := by decide +kernel
theorem dX8_readMethod_81 : decode cX8_readMethod 81 = .ok (.iconst 0, 1) := by decide +kernel
theorem dX8_readMethod_82 : decode cX8_readMethod 82 = .ok (.istore_n 3, 1) := by decide +kernel
theorem dX8_readMethod_83 : decode cX8_readMethod 83 = .ok (.aload_n 0, 1) := by decide +kernel
theorem dX8_readMethod_84 : decode cX8_readMethod 84 = .ok (.getfield 38, 3) := by decide +kernel
theorem dX8_readMethod_87 : decode cX8_readMethod 87 = .ok (.iload_n 1, 1) := by decide +kernel
theorem dX8_readMethod_88 : decode cX8_readMethod 88 = .ok (.iaload, 1) := by decide +kernel
theorem dX8_readMethod_89 : decode cX8_readMethod 89 = .ok (.ifCond .lt 22, 3) := by decide +kernel
theorem dX8_readMethod_92 : decode cX8_readMethod 92 = .ok (.aload_n 0, 1) := by decide +kernel
theorem dX8_readMethod_93 : decode cX8_readMethod 93 = .ok (.getfield 44, 3) := by decide +kernel
theorem dX8_readMethod_96 : decode cX8_readMethod 96 = .ok (.bipush 8, 2) := by decide +kernel
theorem dX8_readMethod_98 : decode cX8_readMethod 98 = .ok (.iload_n 1, 1) := by decide +kernel
theorem dX8_readMethod_99 : decode cX8_readMethod 99 = .ok (.imul, 1) := by decide +kernel
theorem dX8_readMethod_100 : decode cX8_readMethod 100 = .ok (.iconst 1, 1) := by decide +kernel
theorem dX8_readMethod_101 : decode cX8_readMethod 101 = .ok (.aload_n 0, 1) := by decide +kernel
theorem dX8_readMethod_102 : decode cX8_readMethod 102 = .ok (.getfield 38, 3) := by decide +kernel
theorem dX8_readMethod_105 : decode cX8_readMethod 105 = .ok (.iload_n 1, 1) := by decide +kernel
theorem dX8_readMethod_106 : decode cX8_readMethod 106 = .ok (.iaload, 1) := by decide +kernel
theorem dX8_readMethod_107 : decode cX8_readMethod 107 = .ok (.iadd, 1) := by decide +kernel
theorem dX8_readMethod_108 : decode cX8_readMethod 108 = .ok (.iastore, 1) := by decide +kernel
theorem dX8_readMethod_109 : decode cX8_readMethod 109 = .ok (.iconst 1, 1) := by decide +kernel
theorem dX8_readMethod_110 : decode cX8_readMethod 110 = .ok (.istore_n 3, 1) := by decide +kernel
theorem dX8_readMethod_111 : decode cX8_readMethod 111 = .ok (.iconst 0, 1) := by decide +kernel
theorem dX8_readMethod_112 : decode cX8_readMethod 112 = .ok (.istore 4, 2) := by decide +kernel
theorem dX8_readMethod_114 : decode cX8_readMethod 114 = .ok (.iload 4, 2) := by decide +kernel
theorem dX8_readMethod_116 : decode cX8_readMethod 116 = .ok (.iload_n 2, 1) := by decide +kernel
theorem dX8_readMethod_117 : decode cX8_readMethod 117 = .ok (.if_icmp .ge 37, 3) := by decide +kernel
theorem dX8_readMethod_120 : decode cX8_readMethod 120 = .ok (.aload_n 0, 1) := by decide +kernel
theorem dX8_readMethod_121 : decode cX8_readMethod 121 = .ok (.iconst 0, 1) := by decide +kernel
theorem dX8_readMethod_122 : decode cX8_readMethod 122 = .ok (.invokevirtual 99, 3) := by decide +kernel
theorem dX8_readMethod_125 : decode cX8_readMethod 125 = .ok (.ifCond .ne 5, 3) := by decide +kernel
theorem dX8_readMethod_128 : decode cX8_readMethod 128 = .ok (.iconst 0, 1) := by decide +kernel
theorem dX8_readMethod_129 : decode cX8_readMethod 129 = .ok (.ireturn, 1) := by decide +kernel
theorem dX8_readMethod_130 : decode cX8_readMethod 130 = .ok (.aload_n 0, 1) := by decide +kernel
theorem dX8_readMethod_131 : decode cX8_readMethod 131 = .ok (.getfield 44, 3) := by decide +kernel
theorem dX8_readMethod_134 : decode cX8_readMethod 134 = .ok (.bipush 8, 2) := by decide +kernel
theorem dX8_readMethod_136 : decode cX8_readMethod 136 = .ok (.iload_n 1, 1) := by decide +kernel
theorem dX8_readMethod_137 : decode cX8_readMethod 137 = .ok (.imul, 1) := by decide +kernel
theorem dX8_readMethod_138 : decode cX8_readMethod 138 = .ok (.iload_n 3, 1) := by decide +kernel
theorem dX8_readMethod_139 : decode cX8_readMethod 139 = .ok (.iadd, 1) := by decide +kernel
theorem dX8_readMethod_140 : decode cX8_readMethod 140 = .ok (.aload_n 0, 1) := by decide +kernel
theorem dX8_readMethod_141 : decode cX8_readMethod 141 = .ok (.invokevirtual 96, 3) := by decide +kernel
theorem dX8_readMethod_144 : decode cX8_readMethod 144 = .ok (.iastore, 1) := by decide +kernel
theorem dX8_readMethod_145 : decode cX8_readMethod 145 = .ok (.iinc 3 1, 3) := by decide +kernel
theorem dX8_readMethod_148 : decode cX8_readMethod 148 = .ok (.iinc 4 1, 3) := by decide +kernel
theorem dX8_readMethod_151 : decode cX8_readMethod 151 = .ok (.goto (-37), 3) := by decide +kernel
theorem dX8_readMethod_154 : decode cX8_readMethod 154 = .ok (.aload_n 0, 1) := by decide +kernel
theorem dX8_readMethod_155 : decode cX8_readMethod 155 = .ok (.getfield 41, 3) := by decide +kernel
theorem dX8_readMethod_158 : decode cX8_readMethod 158 = .ok (.iload_n 1, 1) := by decide +kernel
theorem dX8_readMethod_159 : decode cX8_readMethod 159 = .ok (.iload_n 3, 1) := by decide +kernel
theorem dX8_readMethod_160 : decode cX8_readMethod 160 = .ok (.iastore, 1) := by decide +kernel
theorem dX8_readMethod_161 : decode cX8_readMethod 161 = .ok (.aload_n 0, 1) := by decide +kernel
theorem dX8_readMethod_162 : decode cX8_readMethod 162 = .ok (.iconst 1, 1) := by decide +kernel
theorem dX8_readMethod_163 : decode cX8_readMethod 163 = .ok (.invokevirtual 99, 3) := by decide +kernel
theorem dX8_readMethod_166 : decode cX8_readMethod 166 = .ok (.ifCond .ne 5, 3) := by decide +kernel
theorem dX8_readMethod_169 : decode cX8_readMethod 169 = .ok (.iconst 0, 1) := by decide +kernel
theorem dX8_readMethod_170 : decode cX8_readMethod 170 = .ok (.ireturn, 1) := by decide +kernel
theorem dX8_readMethod_171 : decode cX8_readMethod 171 = .ok (.aload_n 0, 1) := by decide +kernel
theorem dX8_readMethod_172 : decode cX8_readMethod 172 = .ok (.getfield 47, 3) := by decide +kernel
theorem dX8_readMethod_175 : decode cX8_readMethod 175 = .ok (.iload_n 1, 1) := by decide +kernel
theorem dX8_readMethod_176 : decode cX8_readMethod 176 = .ok (.aload_n 0, 1) := by decide +kernel
theorem dX8_readMethod_177 : decode cX8_readMethod 177 = .ok (.invokevirtual 96, 3) := by decide +kernel
theorem dX8_readMethod_180 : decode cX8_readMethod 180 = .ok (.sipush 255, 3) := by decide +kernel
theorem dX8_readMethod_183 : decode cX8_readMethod 183 = .ok (.if_icmp .ne 7, 3) := by decide +kernel
theorem dX8_readMethod_186 : decode cX8_readMethod 186 = .ok (.iconst (-1), 1) := by decide +kernel
theorem dX8_readMethod_187 : decode cX8_readMethod 187 = .ok (.goto 7, 3) := by decide +kernel
theorem dX8_readMethod_190 : decode cX8_readMethod 190 = .ok (.aload_n 0, 1) := by decide +kernel
theorem dX8_readMethod_191 : decode cX8_readMethod 191 = .ok (.invokevirtual 96, 3) := by decide +kernel
theorem dX8_readMethod_194 : decode cX8_readMethod 194 = .ok (.iastore, 1) := by decide +kernel
theorem dX8_readMethod_195 : decode cX8_readMethod 195 = .ok (.aload_n 0, 1) := by decide +kernel
theorem dX8_readMethod_196 : decode cX8_readMethod 196 = .ok (.iload_n 3, 1) := by decide +kernel
theorem dX8_readMethod_197 : decode cX8_readMethod 197 = .ok (.bipush 12, 2) := by decide +kernel
theorem dX8_readMethod_199 : decode cX8_readMethod 199 = .ok (.invokevirtual 92, 3) := by decide +kernel
theorem dX8_readMethod_202 : decode cX8_readMethod 202 = .ok (.ifCond .ne 5, 3) := by decide +kernel
theorem dX8_readMethod_205 : decode cX8_readMethod 205 = .ok (.iconst 0, 1) := by decide +kernel
theorem dX8_readMethod_206 : decode cX8_readMethod 206 = .ok (.ireturn, 1) := by decide +kernel
theorem dX8_readMethod_207 : decode cX8_readMethod 207 = .ok (.aload_n 0, 1) := by decide +kernel
theorem dX8_readMethod_208 : decode cX8_readMethod 208 = .ok (.getfield 50, 3) := by decide +kernel
theorem dX8_readMethod_211 : decode cX8_readMethod 211 = .ok (.iload_n 1, 1) := by decide +kernel
theorem dX8_readMethod_212 : decode cX8_readMethod 212 = .ok (.aload_n 0, 1) := by decide +kernel
theorem dX8_readMethod_213 : decode cX8_readMethod 213 = .ok (.invokevirtual 96, 3) := by decide +kernel
theorem dX8_readMethod_216 : decode cX8_readMethod 216 = .ok (.iastore, 1) := by decide +kernel
theorem dX8_readMethod_217 : decode cX8_readMethod 217 = .ok (.aload_n 0, 1) := by decide +kernel
theorem dX8_readMethod_218 : decode cX8_readMethod 218 = .ok (.iconst 0, 1) := by decide +kernel
theorem dX8_readMethod_219 : decode cX8_readMethod 219 = .ok (.bipush 12, 2) := by decide +kernel
theorem dX8_readMethod_221 : decode cX8_readMethod 221 = .ok (.aload_n 0, 1) := by decide +kernel
theorem dX8_readMethod_222 : decode cX8_readMethod 222 = .ok (.getfield 50, 3) := by decide +kernel
theorem dX8_readMethod_225 : decode cX8_readMethod 225 = .ok (.iload_n 1, 1) := by decide +kernel
theorem dX8_readMethod_226 : decode cX8_readMethod 226 = .ok (.iaload, 1) := by decide +kernel
theorem dX8_readMethod_227 : decode cX8_readMethod 227 = .ok (.isub, 1) := by decide +kernel
theorem dX8_readMethod_228 : decode cX8_readMethod 228 = .ok (.invokevirtual 92, 3) := by decide +kernel
theorem dX8_readMethod_231 : decode cX8_readMethod 231 = .ok (.ifCond .ne 5, 3) := by decide +kernel
theorem dX8_readMethod_234 : decode cX8_readMethod 234 = .ok (.iconst 0, 1) := by decide +kernel
theorem dX8_readMethod_235 : decode cX8_readMethod 235 = .ok (.ireturn, 1) := by decide +kernel
theorem dX8_readMethod_236 : decode cX8_readMethod 236 = .ok (.aload_n 0, 1) := by decide +kernel
theorem dX8_readMethod_237 : decode cX8_readMethod 237 = .ok (.getfield 53, 3) := by decide +kernel
theorem dX8_readMethod_240 : decode cX8_readMethod 240 = .ok (.iload_n 1, 1) := by decide +kernel
theorem dX8_readMethod_241 : decode cX8_readMethod 241 = .ok (.aload_n 0, 1) := by decide +kernel
theorem dX8_readMethod_242 : decode cX8_readMethod 242 = .ok (.invokevirtual 96, 3) := by decide +kernel
theorem dX8_readMethod_245 : decode cX8_readMethod 245 = .ok (.iastore, 1) := by decide +kernel
theorem dX8_readMethod_246 : decode cX8_readMethod 246 = .ok (.aload_n 0, 1) := by decide +kernel
theorem dX8_readMethod_247 : decode cX8_readMethod 247 = .ok (.iconst 0, 1) := by decide +kernel
theorem dX8_readMethod_248 : decode cX8_readMethod 248 = .ok (.iconst 3, 1) := by decide +kernel
theorem dX8_readMethod_249 : decode cX8_readMethod 249 = .ok (.invokevirtual 92, 3) := by decide +kernel
theorem dX8_readMethod_252 : decode cX8_readMethod 252 = .ok (.ifCond .eq 39, 3) := by decide +kernel
theorem dX8_readMethod_255 : decode cX8_readMethod 255 = .ok (.aload_n 0, 1) := by decide +kernel
theorem dX8_readMethod_256 : decode cX8_readMethod 256 = .ok (.aload_n 0, 1) := by decide +kernel
theorem dX8_readMethod_257 : decode cX8_readMethod 257 = .ok (.invokevirtual 96, 3) := by decide +kernel
theorem dX8_readMethod_260 : decode cX8_readMethod 260 = .ok (.ifCond .ne 7, 3) := by decide +kernel
theorem dX8_readMethod_263 : decode cX8_readMethod 263 = .ok (.iconst 1, 1) := by decide +kernel
theorem dX8_readMethod_264 : decode cX8_readMethod 264 = .ok (.goto 4, 3) := by decide +kernel
theorem dX8_readMethod_267 : decode cX8_readMethod 267 = .ok (.iconst 0, 1) := by decide +kernel
theorem dX8_readMethod_268 : decode cX8_readMethod 268 = .ok (.aload_n 0, 1) := by decide +kernel
theorem dX8_readMethod_269 : decode cX8_readMethod 269 = .ok (.invokevirtual 96, 3) := by decide +kernel
theorem dX8_readMethod_272 : decode cX8_readMethod 272 = .ok (.iconst 3, 1) := by decide +kernel
theorem dX8_readMethod_273 : decode cX8_readMethod 273 = .ok (.if_icmp .ne 9, 3) := by decide +kernel
theorem dX8_readMethod_276 : decode cX8_readMethod 276 = .ok (.sipush 232, 3) := by decide +kernel
theorem dX8_readMethod_279 : decode cX8_readMethod 279 = .ok (.goto 6, 3) := by decide +kernel
theorem dX8_readMethod_282 : decode cX8_readMethod 282 = .ok (.sipush 255, 3) := by decide +kernel
theorem dX8_readMethod_285 : decode cX8_readMethod 285 = .ok (.invokevirtual 92, 3) := by decide +kernel
theorem dX8_readMethod_288 : decode cX8_readMethod 288 = .ok (.ifCond .ne 5, 3) := by decide +kernel
theorem dX8_readMethod_291 : decode cX8_readMethod 291 = .ok (.iconst 0, 1) := by decide +kernel
theorem dX8_readMethod_292 : decode cX8_readMethod 292 = .ok (.ireturn, 1) := by decide +kernel
theorem dX8_readMethod_293 : decode cX8_readMethod 293 = .ok (.aload_n 0, 1) := by decide +kernel
theorem dX8_readMethod_294 : decode cX8_readMethod 294 = .ok (.getfield 59, 3) := by decide +kernel
theorem dX8_readMethod_297 : decode cX8_readMethod 297 = .ok (.iload_n 1, 1) := by decide +kernel
theorem dX8_readMethod_298 : decode cX8_readMethod 298 = .ok (.aload_n 0, 1) := by decide +kernel
theorem dX8_readMethod_299 : decode cX8_readMethod 299 = .ok (.aload_n 0, 1) := by decide +kernel
theorem dX8_readMethod_300 : decode cX8_readMethod 300 = .ok (.getfield 75, 3) := by decide +kernel
theorem dX8_readMethod_303 : decode cX8_readMethod 303 = .ok (.iconst 2, 1) := by decide +kernel
theorem dX8_readMethod_304 : decode cX8_readMethod 304 = .ok (.isub, 1) := by decide +kernel
theorem dX8_readMethod_305 : decode cX8_readMethod 305 = .ok (.invokevirtual 103, 3) := by decide +kernel
theorem dX8_readMethod_308 : decode cX8_readMethod 308 = .ok (.iastore, 1) := by decide +kernel
theorem dX8_readMethod_309 : decode cX8_readMethod 309 = .ok (.aload_n 0, 1) := by decide +kernel
theorem dX8_readMethod_310 : decode cX8_readMethod 310 = .ok (.getfield 56, 3) := by decide +kernel
theorem dX8_readMethod_313 : decode cX8_readMethod 313 = .ok (.iload_n 1, 1) := by decide +kernel
theorem dX8_readMethod_314 : decode cX8_readMethod 314 = .ok (.aload_n 0, 1) := by decide +kernel
theorem dX8_readMethod_315 : decode cX8_readMethod 315 = .ok (.getfield 75, 3) := by decide +kernel
theorem dX8_readMethod_318 : decode cX8_readMethod 318 = .ok (.iastore, 1) := by decide +kernel
theorem dX8_readMethod_319 : decode cX8_readMethod 319 = .ok (.aload_n 0, 1) := by decide +kernel
theorem dX8_readMethod_320 : decode cX8_readMethod 320 = .ok (.getfield 75, 3) := by decide +kernel
theorem dX8_readMethod_323 : decode cX8_readMethod 323 = .ok (.aload_n 0, 1) := by decide +kernel
theorem dX8_readMethod_324 : decode cX8_readMethod 324 = .ok (.getfield 59, 3) := by decide +kernel
theorem dX8_readMethod_327 : decode cX8_readMethod 327 = .ok (.iload_n 1, 1) := by decide +kernel
theorem dX8_readMethod_328 : decode cX8_readMethod 328 = .ok (.iaload, 1) := by decide +kernel
theorem dX8_readMethod_329 : decode cX8_readMethod 329 = .ok (.iadd, 1) := by decide +kernel
theorem dX8_readMethod_330 : decode cX8_readMethod 330 = .ok (.istore 4, 2) := by decide +kernel
theorem dX8_readMethod_332 : decode cX8_readMethod 332 = .ok (.aload_n 0, 1) := by decide +kernel
theorem dX8_readMethod_333 : decode cX8_readMethod 333 = .ok (.getfield 75, 3) := by decide +kernel
theorem dX8_readMethod_336 : decode cX8_readMethod 336 = .ok (.iload 4, 2) := by decide +kernel
theorem dX8_readMethod_338 : decode cX8_readMethod 338 = .ok (.if_icmp .ge 15, 3) := by decide +kernel
theorem dX8_readMethod_341 : decode cX8_readMethod 341 = .ok (.aload_n 0, 1) := by decide +kernel
theorem dX8_readMethod_342 : decode cX8_readMethod 342 = .ok (.iload_n 1, 1) := by decide +kernel
theorem dX8_readMethod_343 : decode cX8_readMethod 343 = .ok (.iload 4, 2) := by decide +kernel
theorem dX8_readMethod_345 : decode cX8_readMethod 345 = .ok (.invokevirtual 107, 3) := by decide +kernel
theorem dX8_readMethod_348 : decode cX8_readMethod 348 = .ok (.ifCond .ne (-16), 3) := by decide +kernel
theorem dX8_readMethod_351 : decode cX8_readMethod 351 = .ok (.iconst 0, 1) := by decide +kernel
theorem dX8_readMethod_352 : decode cX8_readMethod 352 = .ok (.ireturn, 1) := by decide +kernel
theorem dX8_readMethod_353 : decode cX8_readMethod 353 = .ok (.aload_n 0, 1) := by decide +kernel
theorem dX8_readMethod_354 : decode cX8_readMethod 354 = .ok (.iconst 0, 1) := by decide +kernel
theorem dX8_readMethod_355 : decode cX8_readMethod 355 = .ok (.bipush 8, 2) := by decide +kernel
theorem dX8_readMethod_357 : decode cX8_readMethod 357 = .ok (.invokevirtual 92, 3) := by decide +kernel
theorem dX8_readMethod_360 : decode cX8_readMethod 360 = .ok (.ifCond .ne 5, 3) := by decide +kernel
theorem dX8_readMethod_363 : decode cX8_readMethod 363 = .ok (.iconst 0, 1) := by decide +kernel
theorem dX8_readMethod_364 : decode cX8_readMethod 364 = .ok (.ireturn, 1) := by decide +kernel
theorem dX8_readMethod_365 : decode cX8_readMethod 365 = .ok (.aload_n 0, 1) := by decide +kernel
theorem dX8_readMethod_366 : decode cX8_readMethod 366 = .ok (.getfield 62, 3) := by decide +kernel
theorem dX8_readMethod_369 : decode cX8_readMethod 369 = .ok (.iload_n 1, 1) := by decide +kernel
theorem dX8_readMethod_370 : decode cX8_readMethod 370 = .ok (.aload_n 0, 1) := by decide +kernel
theorem dX8_readMethod_371 : decode cX8_readMethod 371 = .ok (.invokevirtual 96, 3) := by decide +kernel
theorem dX8_readMethod_374 : decode cX8_readMethod 374 = .ok (.iastore, 1) := by decide +kernel
theorem dX8_readMethod_375 : decode cX8_readMethod 375 = .ok (.aload_n 0, 1) := by decide +kernel
theorem dX8_readMethod_376 : decode cX8_readMethod 376 = .ok (.getfield 65, 3) := by decide +kernel
theorem dX8_readMethod_379 : decode cX8_readMethod 379 = .ok (.iload_n 1, 1) := by decide +kernel
theorem dX8_readMethod_380 : decode cX8_readMethod 380 = .ok (.aload_n 0, 1) := by decide +kernel
theorem dX8_readMethod_381 : decode cX8_readMethod 381 = .ok (.getfield 75, 3) := by decide +kernel
theorem dX8_readMethod_384 : decode cX8_readMethod 384 = .ok (.iastore, 1) := by decide +kernel
theorem dX8_readMethod_385 : decode cX8_readMethod 385 = .ok (.iconst 0, 1) := by decide +kernel
theorem dX8_readMethod_386 : decode cX8_readMethod 386 = .ok (.istore 5, 2) := by decide +kernel
theorem dX8_readMethod_388 : decode cX8_readMethod 388 = .ok (.iload 5, 2) := by decide +kernel
theorem dX8_readMethod_390 : decode cX8_readMethod 390 = .ok (.aload_n 0, 1) := by decide +kernel
theorem dX8_readMethod_391 : decode cX8_readMethod 391 = .ok (.getfield 62, 3) := by decide +kernel
theorem dX8_readMethod_394 : decode cX8_readMethod 394 = .ok (.iload_n 1, 1) := by decide +kernel
theorem dX8_readMethod_395 : decode cX8_readMethod 395 = .ok (.iaload, 1) := by decide +kernel
theorem dX8_readMethod_396 : decode cX8_readMethod 396 = .ok (.if_icmp .ge 96, 3) := by decide +kernel
theorem dX8_readMethod_399 : decode cX8_readMethod 399 = .ok (.aload_n 0, 1) := by decide +kernel
theorem dX8_readMethod_400 : decode cX8_readMethod 400 = .ok (.iconst 0, 1) := by decide +kernel
theorem dX8_readMethod_401 : decode cX8_readMethod 401 = .ok (.sipush 255, 3) := by decide +kernel
theorem dX8_readMethod_404 : decode cX8_readMethod 404 = .ok (.invokevirtual 92, 3) := by decide +kernel
theorem dX8_readMethod_407 : decode cX8_readMethod 407 = .ok (.ifCond .eq 69, 3) := by decide +kernel
theorem dX8_readMethod_410 : decode cX8_readMethod 410 = .ok (.aload_n 0, 1) := by decide +kernel
theorem dX8_readMethod_411 : decode cX8_readMethod 411 = .ok (.iconst 0, 1) := by decide +kernel
theorem dX8_readMethod_412 : decode cX8_readMethod 412 = .ok (.sipush 255, 3) := by decide +kernel
theorem dX8_readMethod_415 : decode cX8_readMethod 415 = .ok (.invokevirtual 92, 3) := by decide +kernel
theorem dX8_readMethod_418 : decode cX8_readMethod 418 = .ok (.ifCond .eq 58, 3) := by decide +kernel
theorem dX8_readMethod_421 : decode cX8_readMethod 421 = .ok (.aload_n 0, 1) := by decide +kernel
theorem dX8_readMethod_422 : decode cX8_readMethod 422 = .ok (.iconst 0, 1) := by decide +kernel
theorem dX8_readMethod_423 : decode cX8_readMethod 423 = .ok (.sipush 255, 3) := by decide +kernel
theorem dX8_readMethod_426 : decode cX8_readMethod 426 = .ok (.invokevirtual 92, 3) := by decide +kernel
theorem dX8_readMethod_429 : decode cX8_readMethod 429 = .ok (.ifCond .eq 47, 3) := by decide +kernel
theorem dX8_readMethod_432 : decode cX8_readMethod 432 = .ok (.aload_n 0, 1) := by decide +kernel
theorem dX8_readMethod_433 : decode cX8_readMethod 433 = .ok (.iconst 0, 1) := by decide +kernel
theorem dX8_readMethod_434 : decode cX8_readMethod 434 = .ok (.sipush 255, 3) := by decide +kernel
theorem dX8_readMethod_437 : decode cX8_readMethod 437 = .ok (.invokevirtual 92, 3) := by decide +kernel
theorem dX8_readMethod_440 : decode cX8_readMethod 440 = .ok (.ifCond .eq 36, 3) := by decide +kernel
theorem dX8_readMethod_443 : decode cX8_readMethod 443 = .ok (.aload_n 0, 1) := by decide +kernel
theorem dX8_readMethod_444 : decode cX8_readMethod 444 = .ok (.invokevirtual 110, 3) := by decide +kernel
theorem dX8_readMethod_447 : decode cX8_readMethod 447 = .ok (.ifCond .eq 29, 3) := by decide +kernel
theorem dX8_readMethod_450 : decode cX8_readMethod 450 = .ok (.aload_n 0, 1) := by decide +kernel
theorem dX8_readMethod_451 : decode cX8_readMethod 451 = .ok (.iconst 0, 1) := by decide +kernel
theorem dX8_readMethod_452 : decode cX8_readMethod 452 = .ok (.sipush 255, 3) := by decide +kernel
theorem dX8_readMethod_455 : decode cX8_readMethod 455 = .ok (.invokevirtual 92, 3) := by decide +kernel
theorem dX8_readMethod_458 : decode cX8_readMethod 458 = .ok (.ifCond .eq 18, 3) := by decide +kernel
theorem dX8_readMethod_461 : decode cX8_readMethod 461 = .ok (.aload_n 0, 1) := by decide +kernel
theorem dX8_readMethod_462 : decode cX8_readMethod 462 = .ok (.iconst 0, 1) := by decide +kernel
theorem dX8_readMethod_463 : decode cX8_readMethod 463 = .ok (.sipush 255, 3) := by decide +kernel
theorem dX8_readMethod_466 : decode cX8_readMethod 466 = .ok (.invokevirtual 92, 3) := by decide +kernel
theorem dX8_readMethod_469 : decode cX8_readMethod 469 = .ok (.ifCond .eq 7, 3) := by decide +kernel
theorem dX8_readMethod_472 : decode cX8_readMethod 472 = .ok (.iconst 1, 1) := by decide +kernel
theorem dX8_readMethod_473 : decode cX8_readMethod 473 = .ok (.goto 4, 3) := by decide +kernel
theorem dX8_readMethod_476 : decode cX8_readMethod 476 = .ok (.iconst 0, 1) := by decide +kernel
theorem dX8_readMethod_477 : decode cX8_readMethod 477 = .ok (.istore 6, 2) := by decide +kernel
theorem dX8_readMethod_479 : decode cX8_readMethod 479 = .ok (.iload 6, 2) := by decide +kernel
theorem dX8_readMethod_481 : decode cX8_readMethod 481 = .ok (.ifCond .ne 5, 3) := by decide +kernel
theorem dX8_readMethod_484 : decode cX8_readMethod 484 = .ok (.iconst 0, 1) := by decide +kernel
theorem dX8_readMethod_485 : decode cX8_readMethod 485 = .ok (.ireturn, 1) := by decide +kernel
theorem dX8_readMethod_486 : decode cX8_readMethod 486 = .ok (.iinc 5 1, 3) := by decide +kernel
theorem dX8_readMethod_489 : decode cX8_readMethod 489 = .ok (.goto (-101), 3) := by decide +kernel
theorem dX8_readMethod_492 : decode cX8_readMethod 492 = .ok (.iconst 1, 1) := by decide +kernel
theorem dX8_readMethod_493 : decode cX8_readMethod 493 = .ok (.ireturn, 1) := by decide +kernel
theorem dX8_wide_0 : decode cX8_wide 0 = .ok (.iload_n 0, 1) := by decide +kernel
theorem dX8_wide_1 : decode cX8_wide 1 = .ok (.ifCond .ne 7, 3) := by decide +kernel
theorem dX8_wide_4 : decode cX8_wide 4 = .ok (.iconst 5, 1) := by decide +kernel
theorem dX8_wide_5 : decode cX8_wide 5 = .ok (.goto 92, 3) := by decide +kernel
theorem dX8_wide_8 : decode cX8_wide 8 = .ok (.iload_n 0, 1) := by decide +kernel
theorem dX8_wide_9 : decode cX8_wide 9 = .ok (.bipush 19, 2) := by decide +kernel
theorem dX8_wide_11 : decode cX8_wide 11 = .ok (.if_icmp .eq 9, 3) := by decide +kernel
theorem dX8_wide_14 : decode cX8_wide 14 = .ok (.iload_n 0, 1) := by decide +kernel
theorem dX8_wide_15 : decode cX8_wide 15 = .ok (.bipush 20, 2) := by decide +kernel
theorem dX8_wide_17 : decode cX8_wide 17 = .ok (.if_icmp .ne 7, 3) := by decide +kernel
theorem dX8_wide_20 : decode cX8_wide 20 = .ok (.iconst 4, 1) := by decide +kernel
theorem dX8_wide_21 : decode cX8_wide 21 = .ok (.goto 76, 3) := by decide +kernel
theorem dX8_wide_24 : decode cX8_wide 24 = .ok (.iload_n 0, 1) := by decide +kernel
theorem dX8_wide_25 : decode cX8_wide 25 = .ok (.bipush 21, 2) := by decide +kernel
theorem dX8_wide_27 : decode cX8_wide 27 = .ok (.if_icmp .lt 9, 3) := by decide +kernel
theorem dX8_wide_30 : decode cX8_wide 30 = .ok (.iload_n 0, 1) := by decide +kernel
theorem dX8_wide_31 : decode cX8_wide 31 = .ok (.bipush 25, 2) := by decide +kernel
theorem dX8_wide_33 : decode cX8_wide 33 = .ok (.if_icmp .le 21, 3) := by decide +kernel
theorem dX8_wide_36 : decode cX8_wide 36 = .ok (.iload_n 0, 1) := by decide +kernel
theorem dX8_wide_37 : decode cX8_wide 37 = .ok (.bipush 27, 2) := by decide +kernel
theorem dX8_wide_39 : decode cX8_wide 39 = .ok (.if_icmp .eq 15, 3) := by decide +kernel
theorem dX8_wide_42 : decode cX8_wide 42 = .ok (.iload_n 0, 1) := by decide +kernel
theorem dX8_wide_43 : decode cX8_wide 43 = .ok (.bipush 28, 2) := by decide +kernel
theorem dX8_wide_45 : decode cX8_wide 45 = .ok (.if_icmp .eq 9, 3) := by decide +kernel
theorem dX8_wide_48 : decode cX8_wide 48 = .ok (.iload_n 0, 1) := by decide +kernel
theorem dX8_wide_49 : decode cX8_wide 49 = .ok (.bipush 36, 2) := by decide +kernel
theorem dX8_wide_51 : decode cX8_wide 51 = .ok (.if_icmp .ne 7, 3) := by decide +kernel
theorem dX8_wide_54 : decode cX8_wide 54 = .ok (.iconst 3, 1) := by decide +kernel
theorem dX8_wide_55 : decode cX8_wide 55 = .ok (.goto 42, 3) := by decide +kernel
theorem dX8_wide_58 : decode cX8_wide 58 = .ok (.iload_n 0, 1) := by decide +kernel
theorem dX8_wide_59 : decode cX8_wide 59 = .ok (.iconst 2, 1) := by decide +kernel
theorem dX8_wide_60 : decode cX8_wide 60 = .ok (.if_icmp .eq 32, 3) := by decide +kernel
theorem dX8_wide_63 : decode cX8_wide 63 = .ok (.iload_n 0, 1) := by decide +kernel
theorem dX8_wide_64 : decode cX8_wide 64 = .ok (.iconst 3, 1) := by decide +kernel
theorem dX8_wide_65 : decode cX8_wide 65 = .ok (.if_icmp .eq 27, 3) := by decide +kernel
theorem dX8_wide_68 : decode cX8_wide 68 = .ok (.iload_n 0, 1) := by decide +kernel
theorem dX8_wide_69 : decode cX8_wide 69 = .ok (.bipush 26, 2) := by decide +kernel
theorem dX8_wide_71 : decode cX8_wide 71 = .ok (.if_icmp .eq 21, 3) := by decide +kernel
theorem dX8_wide_74 : decode cX8_wide 74 = .ok (.iload_n 0, 1) := by decide +kernel
theorem dX8_wide_75 : decode cX8_wide 75 = .ok (.bipush 29, 2) := by decide +kernel
theorem dX8_wide_77 : decode cX8_wide 77 = .ok (.if_icmp .lt 9, 3) := by decide +kernel
theorem dX8_wide_80 : decode cX8_wide 80 = .ok (.iload_n 0, 1) := by decide +kernel
theorem dX8_wide_81 : decode cX8_wide 81 = .ok (.bipush 31, 2) := by decide +kernel
theorem dX8_wide_83 : decode cX8_wide 83 = .ok (.if_icmp .le 9, 3) := by decide +kernel
theorem dX8_wide_86 : decode cX8_wide 86 = .ok (.iload_n 0, 1) := by decide +kernel
theorem dX8_wide_87 : decode cX8_wide 87 = .ok (.bipush 35, 2) := by decide +kernel
theorem dX8_wide_89 : decode cX8_wide 89 = .ok (.if_icmp .ne 7, 3) := by decide +kernel
theorem dX8_wide_92 : decode cX8_wide 92 = .ok (.iconst 2, 1) := by decide +kernel
theorem dX8_wide_93 : decode cX8_wide 93 = .ok (.goto 4, 3) := by decide +kernel
theorem dX8_wide_96 : decode cX8_wide 96 = .ok (.iconst 1, 1) := by decide +kernel
theorem dX8_wide_97 : decode cX8_wide 97 = .ok (.ireturn, 1) := by decide +kernel
set_option maxRecDepth 20000 in
theorem ggX8_readInstruction_X8_over : GoodIn wsX8_readInstruction wsX8_over := goodIn_r _ [12, 1, 13, 14, 15, 11, 16, 17, 18, 19, 20, 21, 22, 23, 35, 36, 37, 38, 39, 40, 41, 42, 43, 44, 45, 46, 47, 48, 49, 50, 51, 52, 53, 54, 55, 56, 57, 58, 59, 60, 61, 62] (by decide +kernel) (by decide +kernel)
set_option maxRecDepth 20000 in
theorem gX8_readInstruction_X8_over : GoodIn wsX8_readInstruction (wsV RX8 92 RX8 yX8_over wsX8_over) := goodIn_app (goodIn_of _ (by decide +kernel)) ggX8_readInstruction_X8_over
set_option maxRecDepth 20000 in
theorem ggX8_readInstruction_X8_last : GoodIn wsX8_readInstruction wsX8_last := goodIn_r _ [27, 18, 1, 35, 36, 37, 38, 39, 40, 41, 42, 43, 44, 45, 46, 47, 48, 49, 50, 51, 52, 53, 54, 55, 56, 57, 58, 59, 60, 61, 62] (by decide +kernel) (by decide +kernel)
set_option maxRecDepth 20000 in
theorem gX8_readInstruction_X8_last : GoodIn wsX8_readInstruction (wsV RX8 96 RX8 yX8_last wsX8_last) := goodIn_app (goodIn_of _ (by decide +kernel)) ggX8_readInstruction_X8_last
set_option maxRecDepth 20000 in
theorem ggX8_readInstruction_X8_wide : GoodIn wsX8_readInstruction wsX8_wide := goodIn_r _ [30] (by decide +kernel) (by decide +kernel)
set_option maxRecDepth 20000 in
theorem gX8_readInstruction_X8_wide : GoodIn wsX8_readInstruction (va_wsS RX8 114 yX8_wide wsX8_wide) := goodIn_app (goodIn_of _ (by decide +kernel)) ggX8_readInstruction_X8_wide
set_option maxRecDepth 20000 in
theorem ggX8_readInstruction_X8_bad : GoodIn wsX8_readInstruction wsX8_bad := goodIn_r _ [22, 23, 35, 36, 37, 38, 39, 40, 41, 42, 43, 44, 45, 46, 47, 48, 49, 50, 51, 52, 53, 54, 55, 56, 57, 58, 59, 60, 61, 62] (by decide +kernel) (by decide +kernel)
set_option maxRecDepth 20000 in
theorem gX8_readInstruction_X8_bad : GoodIn wsX8_readInstruction (wsV RX8 85 RX8 yX8_bad wsX8_bad) := goodIn_app (goodIn_of _ (by decide +kernel)) ggX8_readInstruction_X8_bad
set_option maxRecDepth 20000 in
theorem ggX8_readInstruction_X8_overClass : GoodIn wsX8_readInstruction wsX8_overClass := goodIn_r _ [34, 4, 8, 9, 10, 11, 12, 1, 13, 14, 15, 16, 17, 18, 19, 20, 21, 22, 23, 35, 36, 37, 38, 39, 40, 41, 42, 43, 44, 45, 46, 47, 48, 49, 50, 51, 52, 53, 54, 55, 56, 57, 58, 59, 60, 61, 62] (by decide +kernel) (by decide +kernel)
set_option maxRecDepth 20000 in
theorem gX8_readInstruction_X8_overClass : GoodIn wsX8_readInstruction (wsV RX8 110 RX8 yX8_overClass wsX8_overClass) := goodIn_app (goodIn_of _ (by decide +kernel)) ggX8_readInstruction_X8_overClass
set_option maxRecDepth 20000 in
theorem ggX8_readInstruction_X8_here : GoodIn wsX8_readInstruction wsX8_here := goodIn_r _ [16, 1, 17, 18, 35, 36, 37, 38, 39, 40, 41, 42, 43, 44, 45, 46, 47, 48, 49, 50, 51, 52, 53, 54, 55, 56, 57, 58, 59, 60, 61, 62] (by decide +kernel) (by decide +kernel)
set_option maxRecDepth 20000 in
theorem gX8_readInstruction_X8_here : GoodIn wsX8_readInstruction (wsV RX8 81 RX8 yX8_here wsX8_here) := goodIn_app (goodIn_of _ (by decide +kernel)) ggX8_readInstruction_X8_here
theorem dX8_readInstruction_0 : decode cX8_readInstruction 0 = .ok (.aload_n 0, 1) := by decide +kernel
theorem dX8_readInstruction_1 : decode cX8_readInstruction 1 = .ok (.getfield 75, 3) := by decide +kernel
theorem dX8_readInstruction_4 : decode cX8_readInstruction 4 = .ok (.istore_n 3, 1) := by decide +kernel
theorem dX8_readInstruction_5 : decode cX8_readInstruction 5 = .ok (.aload_n 0, 1) := by decide +kernel
theorem dX8_readInstruction_6 : decode cX8_readInstruction 6 = .ok (.iconst 0, 1) := by decide +kernel
theorem dX8_readInstruction_7 : decode cX8_readInstruction 7 = .ok (.bipush 41, 2) := by decide +kernel
theorem dX8_readInstruction_9 : decode cX8_readInstruction 9 = .ok (.invokevirtual 92, 3) := by decide +kernel
theorem dX8_readInstruction_12 : decode cX8_readInstruction 12 = .ok (.ifCond .ne 5, 3) := by decide +kernel
theorem dX8_readInstruction_15 : decode cX8_readInstruction 15 = .ok (.iconst 0, 1) := by decide +kernel
theorem dX8_readInstruction_16 : decode cX8_readInstruction 16 = .ok (.ireturn, 1) := by decide +kernel
theorem dX8_readInstruction_17 : decode cX8_readInstruction 17 = .ok (.aload_n 0, 1) := by decide +kernel
theorem dX8_readInstruction_18 : decode cX8_readInstruction 18 = .ok (.invokevirtual 96, 3) := by decide +kernel
theorem dX8_readInstruction_21 : decode cX8_readInstruction 21 = .ok (.istore 4, 2) := by decide +kernel
theorem dX8_readInstruction_23 : decode cX8_readInstruction 23 = .ok (.iload_n 3, 1) := by decide +kernel
theorem dX8_readInstruction_24 : decode cX8_readInstruction 24 = .ok (.iload 4, 2) := by decide +kernel
theorem dX8_readInstruction_26 : decode cX8_readInstruction 26 = .ok (.invokestatic 114, 3) := by decide +kernel
theorem dX8_readInstruction_29 : decode cX8_readInstruction 29 = .ok (.iadd, 1) := by decide +kernel
theorem dX8_readInstruction_30 : decode cX8_readInstruction 30 = .ok (.iload_n 2, 1) := by decide +kernel
theorem dX8_readInstruction_31 : decode cX8_readInstruction 31 = .ok (.if_icmp .le 9, 3) := by decide +kernel
theorem dX8_readInstruction_34 : decode cX8_readInstruction 34 = .ok (.aload_n 0, 1) := by decide +kernel
theorem dX8_readInstruction_35 : decode cX8_readInstruction 35 = .ok (.iload_n 3, 1) := by decide +kernel
theorem dX8_readInstruction_36 : decode cX8_readInstruction 36 = .ok (.invokevirtual 85, 3) := by decide +kernel
theorem dX8_readInstruction_39 : decode cX8_readInstruction 39 = .ok (.ireturn, 1) := by decide +kernel
theorem dX8_readInstruction_40 : decode cX8_readInstruction 40 = .ok (.iconst 1, 1) := by decide +kernel
theorem dX8_readInstruction_41 : decode cX8_readInstruction 41 = .ok (.istore 5, 2) := by decide +kernel
theorem dX8_readInstruction_43 : decode cX8_readInstruction 43 = .ok (.iload 4, 2) := by decide +kernel
theorem dX8_readInstruction_45 : decode cX8_readInstruction 45 = .ok (.ifCond .ne 57, 3) := by decide +kernel
theorem dX8_readInstruction_48 : decode cX8_readInstruction 48 = .ok (.aload_n 0, 1) := by decide +kernel
theorem dX8_readInstruction_49 : decode cX8_readInstruction 49 = .ok (.iconst 0, 1) := by decide +kernel
theorem dX8_readInstruction_50 : decode cX8_readInstruction 50 = .ok (.sipush 255, 3) := by decide +kernel
theorem dX8_readInstruction_53 : decode cX8_readInstruction 53 = .ok (.invokevirtual 92, 3) := by decide +kernel
theorem dX8_readInstruction_56 : decode cX8_readInstruction 56 = .ok (.ifCond .eq 40, 3) := by decide +kernel
theorem dX8_readInstruction_59 : decode cX8_readInstruction 59 = .ok (.aload_n 0, 1) := by decide +kernel
theorem dX8_readInstruction_60 : decode cX8_readInstruction 60 = .ok (.iconst 0, 1) := by decide +kernel
theorem dX8_readInstruction_61 : decode cX8_readInstruction 61 = .ok (.sipush 255, 3) := by decide +kernel
theorem dX8_readInstruction_64 : decode cX8_readInstruction 64 = .ok (.invokevirtual 92, 3) := by decide +kernel
theorem dX8_readInstruction_67 : decode cX8_readInstruction 67 = .ok (.ifCond .eq 29, 3) := by decide +kernel
theorem dX8_readInstruction_70 : decode cX8_readInstruction 70 = .ok (.aload_n 0, 1) := by decide +kernel
theorem dX8_readInstruction_71 : decode cX8_readInstruction 71 = .ok (.iconst 0, 1) := by decide +kernel
theorem dX8_readInstruction_72 : decode cX8_readInstruction 72 = .ok (.sipush 255, 3) := by decide +kernel
theorem dX8_readInstruction_75 : decode cX8_readInstruction 75 = .ok (.invokevirtual 92, 3) := by decide +kernel
theorem dX8_readInstruction_78 : decode cX8_readInstruction 78 = .ok (.ifCond .eq 18, 3) := by decide +kernel
theorem dX8_readInstruction_81 : decode cX8_readInstruction 81 = .ok (.aload_n 0, 1) := by decide +kernel
theorem dX8_readInstruction_82 : decode cX8_readInstruction 82 = .ok (.iconst 0, 1) := by decide +kernel
theorem dX8_readInstruction_83 : decode cX8_readInstruction 83 = .ok (.sipush 255, 3) := by decide +kernel
theorem dX8_readInstruction_86 : decode cX8_readInstruction 86 = .ok (.invokevirtual 92, 3) := by decide +kernel
theorem dX8_readInstruction_89 : decode cX8_readInstruction 89 = .ok (.ifCond .eq 7, 3) := by decide +kernel
theorem dX8_readInstruction_92 : decode cX8_readInstruction 92 = .ok (.iconst 1, 1) := by decide +kernel
theorem dX8_readInstruction_93 : decode cX8_readInstruction 93 = .ok (.goto 4, 3) := by decide +kernel
theorem dX8_readInstruction_96 : decode cX8_readInstruction 96 = .ok (.iconst 0, 1) := by decide +kernel
theorem dX8_readInstruction_97 : decode cX8_readInstruction 97 = .ok (.istore 5, 2) := by decide +kernel
theorem dX8_readInstruction_99 : decode cX8_readInstruction 99 = .ok (.goto 340, 3) := by decide +kernel
theorem dX8_readInstruction_102 : decode cX8_readInstruction 102 = .ok (.iload 4, 2) := by decide +kernel
theorem dX8_readInstruction_104 : decode cX8_readInstruction 104 = .ok (.iconst 2, 1) := by decide +kernel
theorem dX8_readInstruction_105 : decode cX8_readInstruction 105 = .ok (.if_icmp .eq 9, 3) := by decide +kernel
theorem dX8_readInstruction_108 : decode cX8_readInstruction 108 = .ok (.iload 4, 2) := by decide +kernel
theorem dX8_readInstruction_110 : decode cX8_readInstruction 110 = .ok (.iconst 3, 1) := by decide +kernel
theorem dX8_readInstruction_111 : decode cX8_readInstruction 111 = .ok (.if_icmp .ne 21, 3) := by decide +kernel
theorem dX8_readInstruction_114 : decode cX8_readInstruction 114 = .ok (.aload_n 0, 1) := by decide +kernel
theorem dX8_readInstruction_115 : decode cX8_readInstruction 115 = .ok (.iconst 0, 1) := by decide +kernel
theorem dX8_readInstruction_116 : decode cX8_readInstruction 116 = .ok (.aload_n 0, 1) := by decide +kernel
theorem dX8_readInstruction_117 : decode cX8_readInstruction 117 = .ok (.getfield 50, 3) := by decide +kernel
theorem dX8_readInstruction_120 : decode cX8_readInstruction 120 = .ok (.iload_n 1, 1) := by decide +kernel
theorem dX8_readInstruction_121 : decode cX8_readInstruction 121 = .ok (.iaload, 1) := by decide +kernel
theorem dX8_readInstruction_122 : decode cX8_readInstruction 122 = .ok (.iconst 1, 1) := by decide +kernel
theorem dX8_readInstruction_123 : decode cX8_readInstruction 123 = .ok (.isub, 1) := by decide +kernel
theorem dX8_readInstruction_124 : decode cX8_readInstruction 124 = .ok (.invokevirtual 92, 3) := by decide +kernel
theorem dX8_readInstruction_127 : decode cX8_readInstruction 127 = .ok (.istore 5, 2) := by decide +kernel
theorem dX8_readInstruction_129 : decode cX8_readInstruction 129 = .ok (.goto 310, 3) := by decide +kernel
theorem dX8_readInstruction_132 : decode cX8_readInstruction 132 = .ok (.iload 4, 2) := by decide +kernel
theorem dX8_readInstruction_134 : decode cX8_readInstruction 134 = .ok (.bipush 19, 2) := by decide +kernel
theorem dX8_readInstruction_136 : decode cX8_readInstruction 136 = .ok (.if_icmp .eq 10, 3) := by decide +kernel
theorem dX8_readInstruction_139 : decode cX8_readInstruction 139 = .ok (.iload 4, 2) := by decide +kernel
theorem dX8_readInstruction_141 : decode cX8_readInstruction 141 = .ok (.bipush 20, 2) := by decide +kernel
theorem dX8_readInstruction_143 : decode cX8_readInstruction 143 = .ok (.if_icmp .ne 44, 3) := by decide +kernel
theorem dX8_readInstruction_146 : decode cX8_readInstruction 146 = .ok (.aload_n 0, 1) := by decide +kernel
theorem dX8_readInstruction_147 : decode cX8_readInstruction 147 = .ok (.iconst 0, 1) := by decide +kernel
theorem dX8_readInstruction_148 : decode cX8_readInstruction 148 = .ok (.iconst 5, 1) := by decide +kernel
theorem dX8_readInstruction_149 : decode cX8_readInstruction 149 = .ok (.invokevirtual 92, 3) := by decide +kernel
theorem dX8_readInstruction_152 : decode cX8_readInstruction 152 = .ok (.ifCond .eq 29, 3) := by decide +kernel
theorem dX8_readInstruction_155 : decode cX8_readInstruction 155 = .ok (.aload_n 0, 1) := by decide +kernel
theorem dX8_readInstruction_156 : decode cX8_readInstruction 156 = .ok (.iconst 0, 1) := by decide +kernel
theorem dX8_readInstruction_157 : decode cX8_readInstruction 157 = .ok (.sipush 255, 3) := by decide +kernel
theorem dX8_readInstruction_160 : decode cX8_readInstruction 160 = .ok (.invokevirtual 92, 3) := by decide +kernel
theorem dX8_readInstruction_163 : decode cX8_readInstruction 163 = .ok (.ifCond .eq 18, 3) := by decide +kernel
theorem dX8_readInstruction_166 : decode cX8_readInstruction 166 = .ok (.aload_n 0, 1) := by decide +kernel
theorem dX8_readInstruction_167 : decode cX8_readInstruction 167 = .ok (.iconst 0, 1) := by decide +kernel
theorem dX8_readInstruction_168 : decode cX8_readInstruction 168 = .ok (.sipush 255, 3) := by decide +kernel
theorem dX8_readInstruction_171 : decode cX8_readInstruction 171 = .ok (.invokevirtual 92, 3) := by decide +kernel
theorem dX8_readInstruction_174 : decode cX8_readInstruction 174 = .ok (.ifCond .eq 7, 3) := by decide +kernel
theorem dX8_readInstruction_177 : decode cX8_readInstruction 177 = .ok (.iconst 1, 1) := by decide +kernel
theorem dX8_readInstruction_178 : decode cX8_readInstruction 178 = .ok (.goto 4, 3) := by decide +kernel
theorem dX8_readInstruction_181 : decode cX8_readInstruction 181 = .ok (.iconst 0, 1) := by decide +kernel
theorem dX8_readInstruction_182 : decode cX8_readInstruction 182 = .ok (.istore 5, 2) := by decide +kernel
theorem dX8_readInstruction_184 : decode cX8_readInstruction 184 = .ok (.goto 255, 3) := by decide +kernel
theorem dX8_readInstruction_187 : decode cX8_readInstruction 187 = .ok (.iload 4, 2) := by decide +kernel
theorem dX8_readInstruction_189 : decode cX8_readInstruction 189 = .ok (.bipush 21, 2) := by decide +kernel
theorem dX8_readInstruction_191 : decode cX8_readInstruction 191 = .ok (.if_icmp .lt 42, 3) := by decide +kernel
theorem dX8_readInstruction_194 : decode cX8_readInstruction 194 = .ok (.iload 4, 2) := by decide +kernel
theorem dX8_readInstruction_196 : decode cX8_readInstruction 196 = .ok (.bipush 25, 2) := by decide +kernel
theorem dX8_readInstruction_198 : decode cX8_readInstruction 198 = .ok (.if_icmp .gt 35, 3) := by decide +kernel
theorem dX8_readInstruction_201 : decode cX8_readInstruction 201 = .ok (.aload_n 0, 1) := by decide +kernel
theorem dX8_readInstruction_202 : decode cX8_readInstruction 202 = .ok (.iconst 0, 1) := by decide +kernel
theorem dX8_readInstruction_203 : decode cX8_readInstruction 203 = .ok (.sipush 255, 3) := by decide +kernel
theorem dX8_readInstruction_206 : decode cX8_readInstruction 206 = .ok (.invokevirtual 92, 3) := by decide +kernel
theorem dX8_readInstruction_209 : decode cX8_readInstruction 209 = .ok (.ifCond .eq 18, 3) := by decide +kernel
theorem dX8_readInstruction_212 : decode cX8_readInstruction 212 = .ok (.aload_n 0, 1) := by decide +kernel
theorem dX8_readInstruction_213 : decode cX8_readInstruction 213 = .ok (.iconst 0, 1) := by decide +kernel
theorem dX8_readInstruction_214 : decode cX8_readInstruction 214 = .ok (.sipush 255, 3) := by decide +kernel
theorem dX8_readInstruction_217 : decode cX8_readInstruction 217 = .ok (.invokevirtual 92, 3) := by decide +kernel
theorem dX8_readInstruction_220 : decode cX8_readInstruction 220 = .ok (.ifCond .eq 7, 3) := by decide +kernel
theorem dX8_readInstruction_223 : decode cX8_readInstruction 223 = .ok (.iconst 1, 1) := by decide +kernel
theorem dX8_readInstruction_224 : decode cX8_readInstruction 224 = .ok (.goto 4, 3) := by decide +kernel
theorem dX8_readInstruction_227 : decode cX8_readInstruction 227 = .ok (.iconst 0, 1) := by decide +kernel
theorem dX8_readInstruction_228 : decode cX8_readInstruction 228 = .ok (.istore 5, 2) := by decide +kernel
theorem dX8_readInstruction_230 : decode cX8_readInstruction 230 = .ok (.goto 209, 3) := by decide +kernel
theorem dX8_readInstruction_233 : decode cX8_readInstruction 233 = .ok (.iload 4, 2) := by decide +kernel
theorem dX8_readInstruction_235 : decode cX8_readInstruction 235 = .ok (.bipush 26, 2) := by decide +kernel
theorem dX8_readInstruction_237 : decode cX8_readInstruction 237 = .ok (.if_icmp .eq 17, 3) := by decide +kernel
theorem dX8_readInstruction_240 : decode cX8_readInstruction 240 = .ok (.iload 4, 2) := by decide +kernel
theorem dX8_readInstruction_242 : decode cX8_readInstruction 242 = .ok (.bipush 29, 2) := by decide +kernel
theorem dX8_readInstruction_244 : decode cX8_readInstruction 244 = .ok (.if_icmp .eq 10, 3) := by decide +kernel
theorem dX8_readInstruction_247 : decode cX8_readInstruction 247 = .ok (.iload 4, 2) := by decide +kernel
theorem dX8_readInstruction_249 : decode cX8_readInstruction 249 = .ok (.bipush 30, 2) := by decide +kernel
theorem dX8_readInstruction_251 : decode cX8_readInstruction 251 = .ok (.if_icmp .ne 12, 3) := by decide +kernel
theorem dX8_readInstruction_254 : decode cX8_readInstruction 254 = .ok (.aload_n 0, 1) := by decide +kernel
theorem dX8_readInstruction_255 : decode cX8_readInstruction 255 = .ok (.invokevirtual 110, 3) := by decide +kernel
theorem dX8_readInstruction_258 : decode cX8_readInstruction 258 = .ok (.istore 5, 2) := by decide +kernel
theorem dX8_readInstruction_260 : decode cX8_readInstruction 260 = .ok (.goto 179, 3) := by decide +kernel
theorem dX8_readInstruction_263 : decode cX8_readInstruction 263 = .ok (.iload 4, 2) := by decide +kernel
theorem dX8_readInstruction_265 : decode cX8_readInstruction 265 = .ok (.bipush 27, 2) := by decide +kernel
theorem dX8_readInstruction_267 : decode cX8_readInstruction 267 = .ok (.if_icmp .eq 10, 3) := by decide +kernel
theorem dX8_readInstruction_270 : decode cX8_readInstruction 270 = .ok (.iload 4, 2) := by decide +kernel
theorem dX8_readInstruction_272 : decode cX8_readInstruction 272 = .ok (.bipush 28, 2) := by decide +kernel
theorem dX8_readInstruction_274 : decode cX8_readInstruction 274 = .ok (.if_icmp .ne 39, 3) := by decide +kernel
theorem dX8_readInstruction_277 : decode cX8_readInstruction 277 = .ok (.aload_n 0, 1) := by decide +kernel
theorem dX8_readInstruction_278 : decode cX8_readInstruction 278 = .ok (.invokevirtual 110, 3) := by decide +kernel
theorem dX8_readInstruction_281 : decode cX8_readInstruction 281 = .ok (.ifCond .eq 26, 3) := by decide +kernel
theorem dX8_readInstruction_284 : decode cX8_readInstruction 284 = .ok (.aload_n 0, 1) := by decide +kernel
theorem dX8_readInstruction_285 : decode cX8_readInstruction 285 = .ok (.iconst 0, 1) := by decide +kernel
theorem dX8_readInstruction_286 : decode cX8_readInstruction 286 = .ok (.aload_n 0, 1) := by decide +kernel
theorem dX8_readInstruction_287 : decode cX8_readInstruction 287 = .ok (.getfield 23, 3) := by decide +kernel
theorem dX8_readInstruction_290 : decode cX8_readInstruction 290 = .ok (.aload_n 0, 1) := by decide +kernel
theorem dX8_readInstruction_291 : decode cX8_readInstruction 291 = .ok (.invokevirtual 96, 3) := by decide +kernel
theorem dX8_readInstruction_294 : decode cX8_readInstruction 294 = .ok (.iaload, 1) := by decide +kernel
theorem dX8_readInstruction_295 : decode cX8_readInstruction 295 = .ok (.iconst 1, 1) := by decide +kernel
theorem dX8_readInstruction_296 : decode cX8_readInstruction 296 = .ok (.isub, 1) := by decide +kernel
theorem dX8_readInstruction_297 : decode cX8_readInstruction 297 = .ok (.invokevirtual 92, 3) := by decide +kernel
theorem dX8_readInstruction_300 : decode cX8_readInstruction 300 = .ok (.ifCond .eq 7, 3) := by decide +kernel
theorem dX8_readInstruction_303 : decode cX8_readInstruction 303 = .ok (.iconst 1, 1) := by decide +kernel
theorem dX8_readInstruction_304 : decode cX8_readInstruction 304 = .ok (.goto 4, 3) := by decide +kernel
theorem dX8_readInstruction_307 : decode cX8_readInstruction 307 = .ok (.iconst 0, 1) := by decide +kernel
theorem dX8_readInstruction_308 : decode cX8_readInstruction 308 = .ok (.istore 5, 2) := by decide +kernel
theorem dX8_readInstruction_310 : decode cX8_readInstruction 310 = .ok (.goto 129, 3) := by decide +kernel
theorem dX8_readInstruction_313 : decode cX8_readInstruction 313 = .ok (.iload 4, 2) := by decide +kernel
theorem dX8_readInstruction_315 : decode cX8_readInstruction 315 = .ok (.bipush 31, 2) := by decide +kernel
theorem dX8_readInstruction_317 : decode cX8_readInstruction 317 = .ok (.if_icmp .ne 17, 3) := by decide +kernel
theorem dX8_readInstruction_320 : decode cX8_readInstruction 320 = .ok (.aload_n 0, 1) := by decide +kernel
theorem dX8_readInstruction_321 : decode cX8_readInstruction 321 = .ok (.iconst 0, 1) := by decide +kernel
theorem dX8_readInstruction_322 : decode cX8_readInstruction 322 = .ok (.aload_n 0, 1) := by decide +kernel
theorem dX8_readInstruction_323 : decode cX8_readInstruction 323 = .ok (.getfield 89, 3) := by decide +kernel
theorem dX8_readInstruction_326 : decode cX8_readInstruction 326 = .ok (.invokevirtual 92, 3) := by decide +kernel
theorem dX8_readInstruction_329 : decode cX8_readInstruction 329 = .ok (.istore 5, 2) := by decide +kernel
theorem dX8_readInstruction_331 : decode cX8_readInstruction 331 = .ok (.goto 108, 3) := by decide +kernel
theorem dX8_readInstruction_334 : decode cX8_readInstruction 334 = .ok (.iload 4, 2) := by decide +kernel
theorem dX8_readInstruction_336 : decode cX8_readInstruction 336 = .ok (.bipush 35, 2) := by decide +kernel
theorem dX8_readInstruction_338 : decode cX8_readInstruction 338 = .ok (.if_icmp .ne 16, 3) := by decide +kernel
theorem dX8_readInstruction_341 : decode cX8_readInstruction 341 = .ok (.aload_n 0, 1) := by decide +kernel
theorem dX8_readInstruction_342 : decode cX8_readInstruction 342 = .ok (.iconst 0, 1) := by decide +kernel
theorem dX8_readInstruction_343 : decode cX8_readInstruction 343 = .ok (.sipush 255, 3) := by decide +kernel
theorem dX8_readInstruction_346 : decode cX8_readInstruction 346 = .ok (.invokevirtual 92, 3) := by decide +kernel
theorem dX8_readInstruction_349 : decode cX8_readInstruction 349 = .ok (.istore 5, 2) := by decide +kernel
theorem dX8_readInstruction_351 : decode cX8_readInstruction 351 = .ok (.goto 88, 3) := by decide +kernel
theorem dX8_readInstruction_354 : decode cX8_readInstruction 354 = .ok (.iload 4, 2) := by decide +kernel
theorem dX8_readInstruction_356 : decode cX8_readInstruction 356 = .ok (.bipush 36, 2) := by decide +kernel
theorem dX8_readInstruction_358 : decode cX8_readInstruction 358 = .ok (.if_icmp .ne 81, 3) := by decide +kernel
theorem dX8_readInstruction_361 : decode cX8_readInstruction 361 = .ok (.aload_n 0, 1) := by decide +kernel
theorem dX8_readInstruction_362 : decode cX8_readInstruction 362 = .ok (.invokevirtual 110, 3) := by decide +kernel
theorem dX8_readInstruction_365 : decode cX8_readInstruction 365 = .ok (.istore 5, 2) := by decide +kernel
theorem dX8_readInstruction_367 : decode cX8_readInstruction 367 = .ok (.iload 5, 2) := by decide +kernel
theorem dX8_readInstruction_369 : decode cX8_readInstruction 369 = .ok (.ifCond .eq 70, 3) := by decide +kernel
theorem dX8_readInstruction_372 : decode cX8_readInstruction 372 = .ok (.aload_n 0, 1) := by decide +kernel
theorem dX8_readInstruction_373 : decode cX8_readInstruction 373 = .ok (.invokevirtual 96, 3) := by decide +kernel
theorem dX8_readInstruction_376 : decode cX8_readInstruction 376 = .ok (.istore 6, 2) := by decide +kernel
theorem dX8_readInstruction_378 : decode cX8_readInstruction 378 = .ok (.aload_n 0, 1) := by decide +kernel
theorem dX8_readInstruction_379 : decode cX8_readInstruction 379 = .ok (.invokevirtual 81, 3) := by decide +kernel
theorem dX8_readInstruction_382 : decode cX8_readInstruction 382 = .ok (.bipush 16, 2) := by decide +kernel
theorem dX8_readInstruction_384 : decode cX8_readInstruction 384 = .ok (.if_icmp .ge 26, 3) := by decide +kernel
theorem dX8_readInstruction_387 : decode cX8_readInstruction 387 = .ok (.aload_n 0, 1) := by decide +kernel
theorem dX8_readInstruction_388 : decode cX8_readInstruction 388 = .ok (.getfield 29, 3) := by decide +kernel
theorem dX8_readInstruction_391 : decode cX8_readInstruction 391 = .ok (.bipush 16, 2) := by decide +kernel
theorem dX8_readInstruction_393 : decode cX8_readInstruction 393 = .ok (.iload 6, 2) := by decide +kernel
theorem dX8_readInstruction_395 : decode cX8_readInstruction 395 = .ok (.imul, 1) := by decide +kernel
theorem dX8_readInstruction_396 : decode cX8_readInstruction 396 = .ok (.aload_n 0, 1) := by decide +kernel
theorem dX8_readInstruction_397 : decode cX8_readInstruction 397 = .ok (.invokevirtual 81, 3) := by decide +kernel
theorem dX8_readInstruction_400 : decode cX8_readInstruction 400 = .ok (.iadd, 1) := by decide +kernel
theorem dX8_readInstruction_401 : decode cX8_readInstruction 401 = .ok (.iaload, 1) := by decide +kernel
theorem dX8_readInstruction_402 : decode cX8_readInstruction 402 = .ok (.iconst (-1), 1) := by decide +kernel
theorem dX8_readInstruction_403 : decode cX8_readInstruction 403 = .ok (.if_icmp .eq 7, 3) := by decide +kernel
theorem dX8_readInstruction_406 : decode cX8_readInstruction 406 = .ok (.iconst 1, 1) := by decide +kernel
theorem dX8_readInstruction_407 : decode cX8_readInstruction 407 = .ok (.goto 4, 3) := by decide +kernel
theorem dX8_readInstruction_410 : decode cX8_readInstruction 410 = .ok (.iconst 0, 1) := by decide +kernel
theorem dX8_readInstruction_411 : decode cX8_readInstruction 411 = .ok (.istore 7, 2) := by decide +kernel
theorem dX8_readInstruction_413 : decode cX8_readInstruction 413 = .ok (.iload 7, 2) := by decide +kernel
theorem dX8_readInstruction_415 : decode cX8_readInstruction 415 = .ok (.ifCond .eq 14, 3) := by decide +kernel
theorem dX8_readInstruction_418 : decode cX8_readInstruction 418 = .ok (.aload_n 0, 1) := by decide +kernel
theorem dX8_readInstruction_419 : decode cX8_readInstruction 419 = .ok (.iconst 0, 1) := by decide +kernel
theorem dX8_readInstruction_420 : decode cX8_readInstruction 420 = .ok (.sipush 255, 3) := by decide +kernel
theorem dX8_readInstruction_423 : decode cX8_readInstruction 423 = .ok (.invokevirtual 92, 3) := by decide +kernel
theorem dX8_readInstruction_426 : decode cX8_readInstruction 426 = .ok (.goto 11, 3) := by decide +kernel
theorem dX8_readInstruction_429 : decode cX8_readInstruction 429 = .ok (.aload_n 0, 1) := by decide +kernel
theorem dX8_readInstruction_430 : decode cX8_readInstruction 430 = .ok (.aload_n 0, 1) := by decide +kernel
theorem dX8_readInstruction_431 : decode cX8_readInstruction 431 = .ok (.getfield 75, 3) := by decide +kernel
theorem dX8_readInstruction_434 : decode cX8_readInstruction 434 = .ok (.invokevirtual 85, 3) := by decide +kernel
theorem dX8_readInstruction_437 : decode cX8_readInstruction 437 = .ok (.istore 5, 2) := by decide +kernel
theorem dX8_readInstruction_439 : decode cX8_readInstruction 439 = .ok (.iload 5, 2) := by decide +kernel
theorem dX8_readInstruction_441 : decode cX8_readInstruction 441 = .ok (.ifCond .eq 20, 3) := by decide +kernel
theorem dX8_readInstruction_444 : decode cX8_readInstruction 444 = .ok (.aload_n 0, 1) := by decide +kernel
theorem dX8_readInstruction_445 : decode cX8_readInstruction 445 = .ok (.getfield 16, 3) := by decide +kernel
theorem dX8_readInstruction_448 : decode cX8_readInstruction 448 = .ok (.iload_n 3, 1) := by decide +kernel
theorem dX8_readInstruction_449 : decode cX8_readInstruction 449 = .ok (.iconst 1, 1) := by decide +kernel
theorem dX8_readInstruction_450 : decode cX8_readInstruction 450 = .ok (.bastore, 1) := by decide +kernel
theorem dX8_readInstruction_451 : decode cX8_readInstruction 451 = .ok (.aload_n 0, 1) := by decide +kernel
theorem dX8_readInstruction_452 : decode cX8_readInstruction 452 = .ok (.dup, 1) := by decide +kernel
theorem dX8_readInstruction_453 : decode cX8_readInstruction 453 = .ok (.getfield 117, 3) := by decide +kernel
theorem dX8_readInstruction_456 : decode cX8_readInstruction 456 = .ok (.iconst 1, 1) := by decide +kernel
theorem dX8_readInstruction_457 : decode cX8_readInstruction 457 = .ok (.iadd, 1) := by decide +kernel
theorem dX8_readInstruction_458 : decode cX8_readInstruction 458 = .ok (.putfield 117, 3) := by decide +kernel
theorem dX8_readInstruction_461 : decode cX8_readInstruction 461 = .ok (.iload 5, 2) := by decide +kernel
theorem dX8_readInstruction_463 : decode cX8_readInstruction 463 = .ok (.ireturn, 1) := by decide +kernel
