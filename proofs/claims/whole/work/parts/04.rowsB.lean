theorem dX2_init_0 : decode cX2_init 0 = .ok (.aload_n 0, 1) := by decide +kernel
theorem dX2_init_1 : decode cX2_init 1 = .ok (.invokespecial 3, 3) := by decide +kernel
theorem dX2_init_4 : decode cX2_init 4 = .ok (.aload_n 0, 1) := by decide +kernel
theorem dX2_init_5 : decode cX2_init 5 = .ok (.bipush 64, 2) := by decide +kernel
theorem dX2_init_7 : decode cX2_init 7 = .ok (.newarray .int, 2) := by decide +kernel
theorem dX2_init_9 : decode cX2_init 9 = .ok (.putfield 11, 3) := by decide +kernel
theorem dX2_init_12 : decode cX2_init 12 = .ok (.aload_n 0, 1) := by decide +kernel
theorem dX2_init_13 : decode cX2_init 13 = .ok (.bipush 64, 2) := by decide +kernel
theorem dX2_init_15 : decode cX2_init 15 = .ok (.newarray .int, 2) := by decide +kernel
theorem dX2_init_17 : decode cX2_init 17 = .ok (.putfield 17, 3) := by decide +kernel
theorem dX2_init_20 : decode cX2_init 20 = .ok (.return_, 1) := by decide +kernel
set_option maxRecDepth 20000 in
theorem ggX2_read_X5_number : GoodIn wsX2_read wsX5_number := goodIn_r _ [11, 12, 13, 14, 15, 16, 10, 17, 18, 19, 34, 35, 36, 37] (by decide +kernel) (by decide +kernel)
set_option maxRecDepth 20000 in
theorem gX2_read_X5_number : GoodIn wsX2_read (wsV RX2 20 RX5 yX5_number wsX5_number) := goodIn_app (goodIn_of _ (by decide +kernel)) ggX2_read_X5_number
set_option maxRecDepth 20000 in
theorem ggX2_read_X5_place : GoodIn wsX2_read wsX5_place := goodIn_r _ [23, 12, 34, 35, 36, 37] (by decide +kernel) (by decide +kernel)
set_option maxRecDepth 20000 in
theorem gX2_read_X5_place : GoodIn wsX2_read (wsV RX2 31 RX5 yX5_place wsX5_place) := goodIn_app (goodIn_of _ (by decide +kernel)) ggX2_read_X5_place
set_option maxRecDepth 20000 in
theorem ggX2_read_X5_skip : GoodIn wsX2_read wsX5_skip := goodIn_r _ [27, 13, 18, 12, 28, 29, 30, 10, 31, 34, 35, 36, 37] (by decide +kernel) (by decide +kernel)
set_option maxRecDepth 20000 in
theorem gX2_read_X5_skip : GoodIn wsX2_read (wsV RX2 35 RX5 yX5_skip wsX5_skip) := goodIn_app (goodIn_of _ (by decide +kernel)) ggX2_read_X5_skip
theorem dX2_read_0 : decode cX2_read 0 = .ok (.aload_n 1, 1) := by decide +kernel
theorem dX2_read_1 : decode cX2_read 1 = .ok (.iconst 0, 1) := by decide +kernel
theorem dX2_read_2 : decode cX2_read 2 = .ok (.bipush 8, 2) := by decide +kernel
theorem dX2_read_4 : decode cX2_read 4 = .ok (.invokevirtual 20, 3) := by decide +kernel
theorem dX2_read_7 : decode cX2_read 7 = .ok (.iconst 0, 1) := by decide +kernel
theorem dX2_read_8 : decode cX2_read 8 = .ok (.invokestatic 26, 3) := by decide +kernel
theorem dX2_read_11 : decode cX2_read 11 = .ok (.istore 4, 2) := by decide +kernel
theorem dX2_read_13 : decode cX2_read 13 = .ok (.aload_n 0, 1) := by decide +kernel
theorem dX2_read_14 : decode cX2_read 14 = .ok (.getfield 11, 3) := by decide +kernel
theorem dX2_read_17 : decode cX2_read 17 = .ok (.iload_n 3, 1) := by decide +kernel
theorem dX2_read_18 : decode cX2_read 18 = .ok (.aload_n 1, 1) := by decide +kernel
theorem dX2_read_19 : decode cX2_read 19 = .ok (.invokevirtual 31, 3) := by decide +kernel
theorem dX2_read_22 : decode cX2_read 22 = .ok (.iastore, 1) := by decide +kernel
theorem dX2_read_23 : decode cX2_read 23 = .ok (.aload_n 0, 1) := by decide +kernel
theorem dX2_read_24 : decode cX2_read 24 = .ok (.getfield 17, 3) := by decide +kernel
theorem dX2_read_27 : decode cX2_read 27 = .ok (.iload_n 3, 1) := by decide +kernel
theorem dX2_read_28 : decode cX2_read 28 = .ok (.iload 4, 2) := by decide +kernel
theorem dX2_read_30 : decode cX2_read 30 = .ok (.iastore, 1) := by decide +kernel
theorem dX2_read_31 : decode cX2_read 31 = .ok (.iconst 0, 1) := by decide +kernel
theorem dX2_read_32 : decode cX2_read 32 = .ok (.istore 5, 2) := by decide +kernel
theorem dX2_read_34 : decode cX2_read 34 = .ok (.iload 5, 2) := by decide +kernel
theorem dX2_read_36 : decode cX2_read 36 = .ok (.iload 4, 2) := by decide +kernel
theorem dX2_read_38 : decode cX2_read 38 = .ok (.if_icmp .ge 28, 3) := by decide +kernel
theorem dX2_read_41 : decode cX2_read 41 = .ok (.aload_n 1, 1) := by decide +kernel
theorem dX2_read_42 : decode cX2_read 42 = .ok (.iconst 4, 1) := by decide +kernel
theorem dX2_read_43 : decode cX2_read 43 = .ok (.invokevirtual 35, 3) := by decide +kernel
theorem dX2_read_46 : decode cX2_read 46 = .ok (.aload_n 1, 1) := by decide +kernel
theorem dX2_read_47 : decode cX2_read 47 = .ok (.iconst 0, 1) := by decide +kernel
theorem dX2_read_48 : decode cX2_read 48 = .ok (.iload_n 2, 1) := by decide +kernel
theorem dX2_read_49 : decode cX2_read 49 = .ok (.iconst 1, 1) := by decide +kernel
theorem dX2_read_50 : decode cX2_read 50 = .ok (.isub, 1) := by decide +kernel
theorem dX2_read_51 : decode cX2_read 51 = .ok (.invokevirtual 20, 3) := by decide +kernel
theorem dX2_read_54 : decode cX2_read 54 = .ok (.pop, 1) := by decide +kernel
theorem dX2_read_55 : decode cX2_read 55 = .ok (.aload_n 1, 1) := by decide +kernel
theorem dX2_read_56 : decode cX2_read 56 = .ok (.iconst 2, 1) := by decide +kernel
theorem dX2_read_57 : decode cX2_read 57 = .ok (.invokevirtual 35, 3) := by decide +kernel
theorem dX2_read_60 : decode cX2_read 60 = .ok (.iinc 5 1, 3) := by decide +kernel
theorem dX2_read_63 : decode cX2_read 63 = .ok (.goto (-29), 3) := by decide +kernel
theorem dX2_read_66 : decode cX2_read 66 = .ok (.return_, 1) := by decide +kernel
theorem dX2_size_0 : decode cX2_size 0 = .ok (.iload_n 1, 1) := by decide +kernel
theorem dX2_size_1 : decode cX2_size 1 = .ok (.ifCond .lt 18, 3) := by decide +kernel
theorem dX2_size_4 : decode cX2_size 4 = .ok (.iload_n 1, 1) := by decide +kernel
theorem dX2_size_5 : decode cX2_size 5 = .ok (.bipush 64, 2) := by decide +kernel
theorem dX2_size_7 : decode cX2_size 7 = .ok (.if_icmp .ge 12, 3) := by decide +kernel
theorem dX2_size_10 : decode cX2_size 10 = .ok (.aload_n 0, 1) := by decide +kernel
theorem dX2_size_11 : decode cX2_size 11 = .ok (.getfield 17, 3) := by decide +kernel
theorem dX2_size_14 : decode cX2_size 14 = .ok (.iload_n 1, 1) := by decide +kernel
theorem dX2_size_15 : decode cX2_size 15 = .ok (.iaload, 1) := by decide +kernel
theorem dX2_size_16 : decode cX2_size 16 = .ok (.goto 4, 3) := by decide +kernel
theorem dX2_size_19 : decode cX2_size 19 = .ok (.iconst 0, 1) := by decide +kernel
theorem dX2_size_20 : decode cX2_size 20 = .ok (.ireturn, 1) := by decide +kernel
set_option maxRecDepth 20000 in
theorem ggX2_fact_X2_size : GoodIn wsX2_fact wsX2_size := goodIn_r _ [6, 7, 20, 21] (by decide +kernel) (by decide +kernel)
set_option maxRecDepth 20000 in
theorem gX2_fact_X2_size : GoodIn wsX2_fact (wsV RX2 39 RX2 yX2_size wsX2_size) := goodIn_app (goodIn_of _ (by decide +kernel)) ggX2_fact_X2_size
set_option maxRecDepth 20000 in
theorem ggX2_fact_X5_valueAt : GoodIn wsX2_fact wsX5_valueAt := goodIn_r _ [12, 13, 14, 15, 11, 16, 17, 18, 22, 23, 24, 25] (by decide +kernel) (by decide +kernel)
set_option maxRecDepth 20000 in
theorem gX2_fact_X5_valueAt : GoodIn wsX2_fact (wsV RX2 43 RX5 yX5_valueAt wsX5_valueAt) := goodIn_app (goodIn_of _ (by decide +kernel)) ggX2_fact_X5_valueAt
set_option maxRecDepth 20000 in
theorem ggX2_fact_X5_byteAt : GoodIn wsX2_fact wsX5_byteAt := goodIn_r _ [16, 17, 18, 22, 23, 24, 25] (by decide +kernel) (by decide +kernel)
set_option maxRecDepth 20000 in
theorem gX2_fact_X5_byteAt : GoodIn wsX2_fact (wsV RX2 46 RX5 yX5_byteAt wsX5_byteAt) := goodIn_app (goodIn_of _ (by decide +kernel)) ggX2_fact_X5_byteAt
theorem dX2_fact_0 : decode cX2_fact 0 = .ok (.iload_n 3, 1) := by decide +kernel
theorem dX2_fact_1 : decode cX2_fact 1 = .ok (.ifCond .lt 12, 3) := by decide +kernel
theorem dX2_fact_4 : decode cX2_fact 4 = .ok (.iload_n 3, 1) := by decide +kernel
theorem dX2_fact_5 : decode cX2_fact 5 = .ok (.aload_n 0, 1) := by decide +kernel
theorem dX2_fact_6 : decode cX2_fact 6 = .ok (.iload_n 2, 1) := by decide +kernel
theorem dX2_fact_7 : decode cX2_fact 7 = .ok (.invokevirtual 39, 3) := by decide +kernel
theorem dX2_fact_10 : decode cX2_fact 10 = .ok (.if_icmp .lt 5, 3) := by decide +kernel
theorem dX2_fact_13 : decode cX2_fact 13 = .ok (.iconst (-1), 1) := by decide +kernel
theorem dX2_fact_14 : decode cX2_fact 14 = .ok (.ireturn, 1) := by decide +kernel
theorem dX2_fact_15 : decode cX2_fact 15 = .ok (.aload_n 0, 1) := by decide +kernel
theorem dX2_fact_16 : decode cX2_fact 16 = .ok (.getfield 11, 3) := by decide +kernel
theorem dX2_fact_19 : decode cX2_fact 19 = .ok (.iload_n 2, 1) := by decide +kernel
theorem dX2_fact_20 : decode cX2_fact 20 = .ok (.iaload, 1) := by decide +kernel
theorem dX2_fact_21 : decode cX2_fact 21 = .ok (.iload_n 3, 1) := by decide +kernel
theorem dX2_fact_22 : decode cX2_fact 22 = .ok (.bipush 7, 2) := by decide +kernel
theorem dX2_fact_24 : decode cX2_fact 24 = .ok (.imul, 1) := by decide +kernel
theorem dX2_fact_25 : decode cX2_fact 25 = .ok (.iadd, 1) := by decide +kernel
theorem dX2_fact_26 : decode cX2_fact 26 = .ok (.istore 5, 2) := by decide +kernel
theorem dX2_fact_28 : decode cX2_fact 28 = .ok (.iload 4, 2) := by decide +kernel
theorem dX2_fact_30 : decode cX2_fact 30 = .ok (.tableswitch 67 0 3 #[30, 38, 48, 57], 30) := by decide +kernel
theorem dX2_fact_60 : decode cX2_fact 60 = .ok (.aload_n 1, 1) := by decide +kernel
theorem dX2_fact_61 : decode cX2_fact 61 = .ok (.iload 5, 2) := by decide +kernel
theorem dX2_fact_63 : decode cX2_fact 63 = .ok (.iconst 2, 1) := by decide +kernel
theorem dX2_fact_64 : decode cX2_fact 64 = .ok (.invokevirtual 43, 3) := by decide +kernel
theorem dX2_fact_67 : decode cX2_fact 67 = .ok (.ireturn, 1) := by decide +kernel
theorem dX2_fact_68 : decode cX2_fact 68 = .ok (.aload_n 1, 1) := by decide +kernel
theorem dX2_fact_69 : decode cX2_fact 69 = .ok (.iload 5, 2) := by decide +kernel
theorem dX2_fact_71 : decode cX2_fact 71 = .ok (.iconst 2, 1) := by decide +kernel
theorem dX2_fact_72 : decode cX2_fact 72 = .ok (.iadd, 1) := by decide +kernel
theorem dX2_fact_73 : decode cX2_fact 73 = .ok (.iconst 2, 1) := by decide +kernel
theorem dX2_fact_74 : decode cX2_fact 74 = .ok (.invokevirtual 43, 3) := by decide +kernel
theorem dX2_fact_77 : decode cX2_fact 77 = .ok (.ireturn, 1) := by decide +kernel
theorem dX2_fact_78 : decode cX2_fact 78 = .ok (.aload_n 1, 1) := by decide +kernel
theorem dX2_fact_79 : decode cX2_fact 79 = .ok (.iload 5, 2) := by decide +kernel
theorem dX2_fact_81 : decode cX2_fact 81 = .ok (.iconst 4, 1) := by decide +kernel
theorem dX2_fact_82 : decode cX2_fact 82 = .ok (.iadd, 1) := by decide +kernel
theorem dX2_fact_83 : decode cX2_fact 83 = .ok (.invokevirtual 46, 3) := by decide +kernel
theorem dX2_fact_86 : decode cX2_fact 86 = .ok (.ireturn, 1) := by decide +kernel
theorem dX2_fact_87 : decode cX2_fact 87 = .ok (.aload_n 1, 1) := by decide +kernel
theorem dX2_fact_88 : decode cX2_fact 88 = .ok (.iload 5, 2) := by decide +kernel
theorem dX2_fact_90 : decode cX2_fact 90 = .ok (.iconst 5, 1) := by decide +kernel
theorem dX2_fact_91 : decode cX2_fact 91 = .ok (.iadd, 1) := by decide +kernel
theorem dX2_fact_92 : decode cX2_fact 92 = .ok (.iconst 2, 1) := by decide +kernel
theorem dX2_fact_93 : decode cX2_fact 93 = .ok (.invokevirtual 43, 3) := by decide +kernel
theorem dX2_fact_96 : decode cX2_fact 96 = .ok (.ireturn, 1) := by decide +kernel
theorem dX2_fact_97 : decode cX2_fact 97 = .ok (.iconst (-1), 1) := by decide +kernel
theorem dX2_fact_98 : decode cX2_fact 98 = .ok (.ireturn, 1) := by decide +kernel
set_option maxRecDepth 20000 in
theorem ggX2_misfit_X2_size : GoodIn wsX2_misfit wsX2_size := goodIn_r _ [6, 7, 32, 33] (by decide +kernel) (by decide +kernel)
set_option maxRecDepth 20000 in
theorem gX2_misfit_X2_size : GoodIn wsX2_misfit (wsV RX2 39 RX2 yX2_size wsX2_size) := goodIn_app (goodIn_of _ (by decide +kernel)) ggX2_misfit_X2_size
set_option maxRecDepth 20000 in
theorem ggX2_misfit_X5_valueAt : GoodIn wsX2_misfit wsX5_valueAt := goodIn_r _ [12, 13, 14, 15, 11, 16, 17, 18, 34, 35, 36, 37] (by decide +kernel) (by decide +kernel)
set_option maxRecDepth 20000 in
theorem gX2_misfit_X5_valueAt : GoodIn wsX2_misfit (wsV RX2 43 RX5 yX5_valueAt wsX5_valueAt) := goodIn_app (goodIn_of _ (by decide +kernel)) ggX2_misfit_X5_valueAt
set_option maxRecDepth 20000 in
theorem ggX2_misfit_X1_beginsAt : GoodIn wsX2_misfit wsX1_beginsAt := goodIn_r _ [23, 24, 25, 26, 27, 28, 22, 29, 30, 38, 39, 40, 41, 42] (by decide +kernel) (by decide +kernel)
set_option maxRecDepth 20000 in
theorem gX2_misfit_X1_beginsAt : GoodIn wsX2_misfit (wsV RX2 49 RX1 yX1_beginsAt wsX1_beginsAt) := goodIn_app (goodIn_of _ (by decide +kernel)) ggX2_misfit_X1_beginsAt
set_option maxRecDepth 20000 in
theorem ggX2_misfit_X1_length : GoodIn wsX2_misfit wsX1_length := goodIn_r _ [29, 30, 38, 39, 40, 41, 42] (by decide +kernel) (by decide +kernel)
set_option maxRecDepth 20000 in
theorem gX2_misfit_X1_length : GoodIn wsX2_misfit (wsV RX2 55 RX1 yX1_length wsX1_length) := goodIn_app (goodIn_of _ (by decide +kernel)) ggX2_misfit_X1_length
theorem dX2_misfit_0 : decode cX2_misfit 0 = .ok (.aload_n 0, 1) := by decide +kernel
theorem dX2_misfit_1 : decode cX2_misfit 1 = .ok (.iload_n 3, 1) := by decide +kernel
theorem dX2_misfit_2 : decode cX2_misfit 2 = .ok (.invokevirtual 39, 3) := by decide +kernel
theorem dX2_misfit_5 : decode cX2_misfit 5 = .ok (.istore 4, 2) := by decide +kernel
theorem dX2_misfit_7 : decode cX2_misfit 7 = .ok (.iload 4, 2) := by decide +kernel
theorem dX2_misfit_9 : decode cX2_misfit 9 = .ok (.ifCond .le 12, 3) := by decide +kernel
theorem dX2_misfit_12 : decode cX2_misfit 12 = .ok (.aload_n 0, 1) := by decide +kernel
theorem dX2_misfit_13 : decode cX2_misfit 13 = .ok (.getfield 11, 3) := by decide +kernel
theorem dX2_misfit_16 : decode cX2_misfit 16 = .ok (.iload_n 3, 1) := by decide +kernel
theorem dX2_misfit_17 : decode cX2_misfit 17 = .ok (.iaload, 1) := by decide +kernel
theorem dX2_misfit_18 : decode cX2_misfit 18 = .ok (.goto 4, 3) := by decide +kernel
theorem dX2_misfit_21 : decode cX2_misfit 21 = .ok (.iconst 0, 1) := by decide +kernel
theorem dX2_misfit_22 : decode cX2_misfit 22 = .ok (.istore 5, 2) := by decide +kernel
theorem dX2_misfit_24 : decode cX2_misfit 24 = .ok (.iconst 0, 1) := by decide +kernel
theorem dX2_misfit_25 : decode cX2_misfit 25 = .ok (.istore 6, 2) := by decide +kernel
theorem dX2_misfit_27 : decode cX2_misfit 27 = .ok (.iload 6, 2) := by decide +kernel
theorem dX2_misfit_29 : decode cX2_misfit 29 = .ok (.iload 4, 2) := by decide +kernel
theorem dX2_misfit_31 : decode cX2_misfit 31 = .ok (.if_icmp .ge 99, 3) := by decide +kernel
theorem dX2_misfit_34 : decode cX2_misfit 34 = .ok (.aload_n 1, 1) := by decide +kernel
theorem dX2_misfit_35 : decode cX2_misfit 35 = .ok (.iload 5, 2) := by decide +kernel
theorem dX2_misfit_37 : decode cX2_misfit 37 = .ok (.iconst 2, 1) := by decide +kernel
theorem dX2_misfit_38 : decode cX2_misfit 38 = .ok (.invokevirtual 43, 3) := by decide +kernel
theorem dX2_misfit_41 : decode cX2_misfit 41 = .ok (.istore 7, 2) := by decide +kernel
theorem dX2_misfit_43 : decode cX2_misfit 43 = .ok (.aload_n 1, 1) := by decide +kernel
theorem dX2_misfit_44 : decode cX2_misfit 44 = .ok (.iload 5, 2) := by decide +kernel
theorem dX2_misfit_46 : decode cX2_misfit 46 = .ok (.iconst 2, 1) := by decide +kernel
theorem dX2_misfit_47 : decode cX2_misfit 47 = .ok (.iadd, 1) := by decide +kernel
theorem dX2_misfit_48 : decode cX2_misfit 48 = .ok (.iconst 2, 1) := by decide +kernel
theorem dX2_misfit_49 : decode cX2_misfit 49 = .ok (.invokevirtual 43, 3) := by decide +kernel
theorem dX2_misfit_52 : decode cX2_misfit 52 = .ok (.istore 8, 2) := by decide +kernel
theorem dX2_misfit_54 : decode cX2_misfit 54 = .ok (.iload 7, 2) := by decide +kernel
theorem dX2_misfit_56 : decode cX2_misfit 56 = .ok (.iload 8, 2) := by decide +kernel
theorem dX2_misfit_58 : decode cX2_misfit 58 = .ok (.if_icmp .ge 13, 3) := by decide +kernel
theorem dX2_misfit_61 : decode cX2_misfit 61 = .ok (.aload_n 2, 1) := by decide +kernel
theorem dX2_misfit_62 : decode cX2_misfit 62 = .ok (.iload_n 3, 1) := by decide +kernel
theorem dX2_misfit_63 : decode cX2_misfit 63 = .ok (.iload 7, 2) := by decide +kernel
theorem dX2_misfit_65 : decode cX2_misfit 65 = .ok (.invokevirtual 49, 3) := by decide +kernel
theorem dX2_misfit_68 : decode cX2_misfit 68 = .ok (.ifCond .ne 6, 3) := by decide +kernel
theorem dX2_misfit_71 : decode cX2_misfit 71 = .ok (.iload 5, 2) := by decide +kernel
theorem dX2_misfit_73 : decode cX2_misfit 73 = .ok (.ireturn, 1) := by decide +kernel
theorem dX2_misfit_74 : decode cX2_misfit 74 = .ok (.iload 8, 2) := by decide +kernel
theorem dX2_misfit_76 : decode cX2_misfit 76 = .ok (.aload_n 2, 1) := by decide +kernel
theorem dX2_misfit_77 : decode cX2_misfit 77 = .ok (.iload_n 3, 1) := by decide +kernel
theorem dX2_misfit_78 : decode cX2_misfit 78 = .ok (.invokevirtual 55, 3) := by decide +kernel
theorem dX2_misfit_81 : decode cX2_misfit 81 = .ok (.if_icmp .eq 18, 3) := by decide +kernel
theorem dX2_misfit_84 : decode cX2_misfit 84 = .ok (.aload_n 2, 1) := by decide +kernel
theorem dX2_misfit_85 : decode cX2_misfit 85 = .ok (.iload_n 3, 1) := by decide +kernel
theorem dX2_misfit_86 : decode cX2_misfit 86 = .ok (.iload 8, 2) := by decide +kernel
theorem dX2_misfit_88 : decode cX2_misfit 88 = .ok (.invokevirtual 49, 3) := by decide +kernel
theorem dX2_misfit_91 : decode cX2_misfit 91 = .ok (.ifCond .ne 8, 3) := by decide +kernel
theorem dX2_misfit_94 : decode cX2_misfit 94 = .ok (.iload 5, 2) := by decide +kernel
theorem dX2_misfit_96 : decode cX2_misfit 96 = .ok (.iconst 2, 1) := by decide +kernel
theorem dX2_misfit_97 : decode cX2_misfit 97 = .ok (.iadd, 1) := by decide +kernel
theorem dX2_misfit_98 : decode cX2_misfit 98 = .ok (.ireturn, 1) := by decide +kernel
theorem dX2_misfit_99 : decode cX2_misfit 99 = .ok (.aload_n 2, 1) := by decide +kernel
theorem dX2_misfit_100 : decode cX2_misfit 100 = .ok (.iload_n 3, 1) := by decide +kernel
theorem dX2_misfit_101 : decode cX2_misfit 101 = .ok (.aload_n 1, 1) := by decide +kernel
theorem dX2_misfit_102 : decode cX2_misfit 102 = .ok (.iload 5, 2) := by decide +kernel
theorem dX2_misfit_104 : decode cX2_misfit 104 = .ok (.iconst 5, 1) := by decide +kernel
theorem dX2_misfit_105 : decode cX2_misfit 105 = .ok (.iadd, 1) := by decide +kernel
theorem dX2_misfit_106 : decode cX2_misfit 106 = .ok (.iconst 2, 1) := by decide +kernel
theorem dX2_misfit_107 : decode cX2_misfit 107 = .ok (.invokevirtual 43, 3) := by decide +kernel
theorem dX2_misfit_110 : decode cX2_misfit 110 = .ok (.invokevirtual 49, 3) := by decide +kernel
theorem dX2_misfit_113 : decode cX2_misfit 113 = .ok (.ifCond .ne 8, 3) := by decide +kernel
theorem dX2_misfit_116 : decode cX2_misfit 116 = .ok (.iload 5, 2) := by decide +kernel
theorem dX2_misfit_118 : decode cX2_misfit 118 = .ok (.iconst 5, 1) := by decide +kernel
theorem dX2_misfit_119 : decode cX2_misfit 119 = .ok (.iadd, 1) := by decide +kernel
theorem dX2_misfit_120 : decode cX2_misfit 120 = .ok (.ireturn, 1) := by decide +kernel
theorem dX2_misfit_121 : decode cX2_misfit 121 = .ok (.iinc 5 7, 3) := by decide +kernel
theorem dX2_misfit_124 : decode cX2_misfit 124 = .ok (.iinc 6 1, 3) := by decide +kernel
theorem dX2_misfit_127 : decode cX2_misfit 127 = .ok (.goto (-100), 3) := by decide +kernel
theorem dX2_misfit_130 : decode cX2_misfit 130 = .ok (.iconst (-1), 1) := by decide +kernel
theorem dX2_misfit_131 : decode cX2_misfit 131 = .ok (.ireturn, 1) := by decide +kernel
set_option maxRecDepth 20000 in
theorem ggX3_init_X1_init : GoodIn wsX3_init wsX1_init := goodIn_r _ [21, 22, 2, 3, 5, 23, 24, 25, 26, 42, 43, 44, 45, 46] (by decide +kernel) (by decide +kernel)
set_option maxRecDepth 20000 in
theorem gX3_init_X1_init_n36 : GoodIn wsX3_init (wsX1_init) := ggX3_init_X1_init
set_option maxRecDepth 20000 in
theorem ggX3_init_X2_init : GoodIn wsX3_init wsX2_init := goodIn_r _ [28, 29, 2, 3, 5, 30, 31, 47, 48] (by decide +kernel) (by decide +kernel)
set_option maxRecDepth 20000 in
theorem gX3_init_X2_init_n43 : GoodIn wsX3_init (wsX2_init) := ggX3_init_X2_init
theorem dX3_init_0 : decode cX3_init 0 = .ok (.aload_n 0, 1) := by decide +kernel
theorem dX3_init_1 : decode cX3_init 1 = .ok (.invokespecial 3, 3) := by decide +kernel
theorem dX3_init_4 : decode cX3_init 4 = .ok (.aload_n 0, 1) := by decide +kernel
theorem dX3_init_5 : decode cX3_init 5 = .ok (.iconst (-1), 1) := by decide +kernel
theorem dX3_init_6 : decode cX3_init 6 = .ok (.putfield 9, 3) := by decide +kernel
theorem dX3_init_9 : decode cX3_init 9 = .ok (.aload_n 0, 1) := by decide +kernel
theorem dX3_init_10 : decode cX3_init 10 = .ok (.bipush 64, 2) := by decide +kernel
theorem dX3_init_12 : decode cX3_init 12 = .ok (.newarray .int, 2) := by decide +kernel
theorem dX3_init_14 : decode cX3_init 14 = .ok (.putfield 15, 3) := by decide +kernel
theorem dX3_init_17 : decode cX3_init 17 = .ok (.aload_n 0, 1) := by decide +kernel
theorem dX3_init_18 : decode cX3_init 18 = .ok (.bipush 64, 2) := by decide +kernel
theorem dX3_init_20 : decode cX3_init 20 = .ok (.newarray .int, 2) := by decide +kernel
theorem dX3_init_22 : decode cX3_init 22 = .ok (.putfield 19, 3) := by decide +kernel
theorem dX3_init_25 : decode cX3_init 25 = .ok (.aload_n 0, 1) := by decide +kernel
theorem dX3_init_26 : decode cX3_init 26 = .ok (.sipush 512, 3) := by decide +kernel
theorem dX3_init_29 : decode cX3_init 29 = .ok (.newarray .int, 2) := by decide +kernel
theorem dX3_init_31 : decode cX3_init 31 = .ok (.putfield 22, 3) := by decide +kernel
theorem dX3_init_34 : decode cX3_init 34 = .ok (.aload_n 0, 1) := by decide +kernel
theorem dX3_init_35 : decode cX3_init 35 = .ok (.bipush 64, 2) := by decide +kernel
theorem dX3_init_37 : decode cX3_init 37 = .ok (.newarray .int, 2) := by decide +kernel
theorem dX3_init_39 : decode cX3_init 39 = .ok (.putfield 25, 3) := by decide +kernel
theorem dX3_init_42 : decode cX3_init 42 = .ok (.aload_n 0, 1) := by decide +kernel
theorem dX3_init_43 : decode cX3_init 43 = .ok (.bipush 64, 2) := by decide +kernel
theorem dX3_init_45 : decode cX3_init 45 = .ok (.newarray .int, 2) := by decide +kernel
theorem dX3_init_47 : decode cX3_init 47 = .ok (.putfield 28, 3) := by decide +kernel
theorem dX3_init_50 : decode cX3_init 50 = .ok (.aload_n 0, 1) := by decide +kernel
theorem dX3_init_51 : decode cX3_init 51 = .ok (.bipush 64, 2) := by decide +kernel
theorem dX3_init_53 : decode cX3_init 53 = .ok (.newarray .int, 2) := by decide +kernel
theorem dX3_init_55 : decode cX3_init 55 = .ok (.putfield 31, 3) := by decide +kernel
theorem dX3_init_58 : decode cX3_init 58 = .ok (.aload_n 0, 1) := by decide +kernel
theorem dX3_init_59 : decode cX3_init 59 = .ok (.new 34, 3) := by decide +kernel
theorem dX3_init_62 : decode cX3_init 62 = .ok (.dup, 1) := by decide +kernel
theorem dX3_init_63 : decode cX3_init 63 = .ok (.invokespecial 36, 3) := by decide +kernel
theorem dX3_init_66 : decode cX3_init 66 = .ok (.putfield 37, 3) := by decide +kernel
theorem dX3_init_69 : decode cX3_init 69 = .ok (.aload_n 0, 1) := by decide +kernel
theorem dX3_init_70 : decode cX3_init 70 = .ok (.new 41, 3) := by decide +kernel
theorem dX3_init_73 : decode cX3_init 73 = .ok (.dup, 1) := by decide +kernel
theorem dX3_init_74 : decode cX3_init 74 = .ok (.invokespecial 43, 3) := by decide +kernel
theorem dX3_init_77 : decode cX3_init 77 = .ok (.putfield 44, 3) := by decide +kernel
theorem dX3_init_80 : decode cX3_init 80 = .ok (.return_, 1) := by decide +kernel
set_option maxRecDepth 20000 in
theorem ggX3_clear_X1_clear : GoodIn wsX3_clear wsX1_clear := goodIn_r _ [8, 9, 10, 11, 12, 13, 14, 25, 26, 27, 28, 29] (by decide +kernel) (by decide +kernel)
set_option maxRecDepth 20000 in
theorem gX3_clear_X1_clear : GoodIn wsX3_clear (wsV RX3 51 RX1 yX1_clear wsX1_clear) := goodIn_app (goodIn_of _ (by decide +kernel)) ggX3_clear_X1_clear
theorem dX3_clear_0 : decode cX3_clear 0 = .ok (.aload_n 0, 1) := by decide +kernel
theorem dX3_clear_1 : decode cX3_clear 1 = .ok (.iconst 0, 1) := by decide +kernel
theorem dX3_clear_2 : decode cX3_clear 2 = .ok (.putfield 48, 3) := by decide +kernel
theorem dX3_clear_5 : decode cX3_clear 5 = .ok (.aload_n 0, 1) := by decide +kernel
theorem dX3_clear_6 : decode cX3_clear 6 = .ok (.iconst (-1), 1) := by decide +kernel
theorem dX3_clear_7 : decode cX3_clear 7 = .ok (.putfield 9, 3) := by decide +kernel
theorem dX3_clear_10 : decode cX3_clear 10 = .ok (.aload_n 0, 1) := by decide +kernel
theorem dX3_clear_11 : decode cX3_clear 11 = .ok (.getfield 37, 3) := by decide +kernel
theorem dX3_clear_14 : decode cX3_clear 14 = .ok (.invokevirtual 51, 3) := by decide +kernel
theorem dX3_clear_17 : decode cX3_clear 17 = .ok (.return_, 1) := by decide +kernel
theorem dX3_size_0 : decode cX3_size 0 = .ok (.aload_n 0, 1) := by decide +kernel
theorem dX3_size_1 : decode cX3_size 1 = .ok (.getfield 48, 3) := by decide +kernel
theorem dX3_size_4 : decode cX3_size 4 = .ok (.ireturn, 1) := by decide +kernel
theorem dX3_first_0 : decode cX3_first 0 = .ok (.aload_n 0, 1) := by decide +kernel
theorem dX3_first_1 : decode cX3_first 1 = .ok (.getfield 9, 3) := by decide +kernel
theorem dX3_first_4 : decode cX3_first 4 = .ok (.ireturn, 1) := by decide +kernel
set_option maxRecDepth 20000 in
theorem ggX3_instructions_X1_total : GoodIn wsX3_instructions wsX1_total := goodIn_r _ [6, 7, 18, 19, 20, 21, 22] (by decide +kernel) (by decide +kernel)
set_option maxRecDepth 20000 in
theorem gX3_instructions_X1_total : GoodIn wsX3_instructions (wsV RX3 54 RX1 yX1_total wsX1_total) := goodIn_app (goodIn_of _ (by decide +kernel)) ggX3_instructions_X1_total
theorem dX3_instructions_0 : decode cX3_instructions 0 = .ok (.aload_n 0, 1) := by decide +kernel
theorem dX3_instructions_1 : decode cX3_instructions 1 = .ok (.getfield 37, 3) := by decide +kernel
theorem dX3_instructions_4 : decode cX3_instructions 4 = .ok (.invokevirtual 54, 3) := by decide +kernel
theorem dX3_instructions_7 : decode cX3_instructions 7 = .ok (.ireturn, 1) := by decide +kernel
theorem dX3_has_0 : decode cX3_has 0 = .ok (.iload_n 1, 1) := by decide +kernel
theorem dX3_has_1 : decode cX3_has 1 = .ok (.ifCond .lt 21, 3) := by decide +kernel
theorem dX3_has_4 : decode cX3_has 4 = .ok (.iload_n 1, 1) := by decide +kernel
theorem dX3_has_5 : decode cX3_has 5 = .ok (.aload_n 0, 1) := by decide +kernel
theorem dX3_has_6 : decode cX3_has 6 = .ok (.getfield 48, 3) := by decide +kernel
theorem dX3_has_9 : decode cX3_has 9 = .ok (.if_icmp .ge 13, 3) := by decide +kernel
theorem dX3_has_12 : decode cX3_has 12 = .ok (.iload_n 1, 1) := by decide +kernel
theorem dX3_has_13 : decode cX3_has 13 = .ok (.bipush 64, 2) := by decide +kernel
theorem dX3_has_15 : decode cX3_has 15 = .ok (.if_icmp .ge 7, 3) := by decide +kernel
theorem dX3_has_18 : decode cX3_has 18 = .ok (.iconst 1, 1) := by decide +kernel
theorem dX3_has_19 : decode cX3_has 19 = .ok (.goto 4, 3) := by decide +kernel
theorem dX3_has_22 : decode cX3_has 22 = .ok (.iconst 0, 1) := by decide +kernel
theorem dX3_has_23 : decode cX3_has 23 = .ok (.ireturn, 1) := by decide +kernel
set_option maxRecDepth 20000 in
theorem ggX3_read_X3_clear : GoodIn wsX3_read wsX3_clear := goodIn_r _ [13, 5, 14, 6, 15, 16, 17, 18, 19, 20, 21, 22, 23, 24, 25, 178, 179, 180, 181, 182, 183, 184, 185, 186, 187, 188, 189, 190, 191, 192] (by decide +kernel) (by decide +kernel)
set_option maxRecDepth 20000 in
theorem gX3_read_X3_clear : GoodIn wsX3_read (wsV RX3 58 RX3 yX3_clear wsX3_clear) := goodIn_app (goodIn_of _ (by decide +kernel)) ggX3_read_X3_clear
set_option maxRecDepth 20000 in
theorem ggX3_read_X5_number : GoodIn wsX3_read wsX5_number := goodIn_r _ [30, 31, 32, 33, 34, 35, 29, 36, 37, 38, 193, 194, 195, 196] (by decide +kernel) (by decide +kernel)
set_option maxRecDepth 20000 in
theorem gX3_read_X5_number : GoodIn wsX3_read (wsV RX3 59 RX5 yX5_number wsX5_number) := goodIn_app (goodIn_of _ (by decide +kernel)) ggX3_read_X5_number
set_option maxRecDepth 20000 in
theorem ggX3_read_X5_stopped : GoodIn wsX3_read wsX5_stopped := goodIn_r _ [42, 32, 193, 194, 195, 196] (by decide +kernel) (by decide +kernel)
set_option maxRecDepth 20000 in
theorem gX3_read_X5_stopped : GoodIn wsX3_read (wsV RX3 70 RX5 yX5_stopped wsX5_stopped) := goodIn_app (goodIn_of _ (by decide +kernel)) ggX3_read_X5_stopped
set_option maxRecDepth 20000 in
theorem ggX3_read_X0_size : GoodIn wsX3_read wsX0_size := goodIn_r _ [47, 48, 197, 198, 199, 200, 201, 202, 203] (by decide +kernel) (by decide +kernel)
set_option maxRecDepth 20000 in
theorem gX3_read_X0_size : GoodIn wsX3_read (wsV RX3 74 RX0 yX0_size wsX0_size) := goodIn_app (goodIn_of _ (by decide +kernel)) ggX3_read_X0_size
set_option maxRecDepth 20000 in
theorem ggX3_read_X3_readHead : GoodIn wsX3_read wsX3_readHead := goodIn_r _ [52, 53, 54, 7, 55, 56, 57, 58, 59, 29, 60, 61, 62, 63, 64, 31, 33, 34, 35, 36, 37, 38, 65, 27, 28, 30, 32, 66, 67, 68, 12, 69, 70, 1, 2, 3, 4, 26, 71, 72, 73, 74, 75, 76, 77, 78, 79, 178, 179, 180, 181, 182, 183, 184, 185, 186, 187, 193, 194, 195, 196] (by decide +kernel) (by decide +kernel)
set_option maxRecDepth 20000 in
theorem gX3_read_X3_readHead : GoodIn wsX3_read (wsV RX3 79 RX3 yX3_readHead wsX3_readHead) := goodIn_app (goodIn_of _ (by decide +kernel)) ggX3_read_X3_readHead
set_option maxRecDepth 20000 in
theorem ggX3_read_X1_read : GoodIn wsX3_read wsX1_read := goodIn_r _ [83, 84, 2, 3, 4, 85, 86, 87, 20, 88, 89, 90, 29, 91, 32, 65, 27, 28, 30, 31, 33, 34, 35, 36, 37, 38, 92, 93, 94, 95, 96, 40, 41, 42, 97, 98, 99, 18, 100, 101, 102, 103, 104, 105, 106, 107, 108, 109, 110, 111, 112, 113, 114, 115, 116, 117, 118, 119, 120, 121, 122, 123, 124, 125, 21, 126, 127, 128, 129, 130, 44, 45, 46, 47, 48, 131, 132, 133, 134, 135, 136, 137, 138, 139, 140, 141, 142, 143, 144, 145, 146, 147, 148, 149, 150, 62, 63, 64, 151, 152, 153, 154, 155, 188, 189, 190, 191, 192, 193, 194, 195, 196, 197, 198, 199, 200, 201, 202, 203] (by decide +kernel) (by decide +kernel)
set_option maxRecDepth 20000 in
theorem gX3_read_X1_read : GoodIn wsX3_read (wsV RX3 83 RX1 yX1_read wsX1_read) := goodIn_app (goodIn_of _ (by decide +kernel)) ggX3_read_X1_read
set_option maxRecDepth 20000 in
theorem ggX3_read_X2_read : GoodIn wsX3_read wsX2_read := goodIn_r _ [160, 161, 2, 3, 4, 162, 163, 164, 27, 28, 29, 30, 31, 32, 33, 34, 35, 36, 37, 38, 165, 93, 94, 95, 166, 133, 134, 135, 136, 119, 120, 121, 204, 205, 193, 194, 195, 196] (by decide +kernel) (by decide +kernel)
set_option maxRecDepth 20000 in
theorem gX3_read_X2_read : GoodIn wsX3_read (wsV RX3 87 RX2 yX2_read wsX2_read) := goodIn_app (goodIn_of _ (by decide +kernel)) ggX3_read_X2_read
set_option maxRecDepth 20000 in
theorem ggX3_read_X3_readFirst : GoodIn wsX3_read wsX3_readFirst := goodIn_r _ [170, 53, 55, 14, 171, 62, 63, 29, 64, 31, 33, 34, 35, 36, 37, 38, 39, 40, 41, 42, 32, 172, 173, 174, 12, 175, 5, 176, 93, 94, 95, 177, 119, 120, 121, 26, 27, 28, 30, 178, 179, 180, 181, 182, 183, 184, 185, 186, 187, 193, 194, 195, 196] (by decide +kernel) (by decide +kernel)
set_option maxRecDepth 20000 in
theorem gX3_read_X3_readFirst : GoodIn wsX3_read (wsV RX3 89 RX3 yX3_readFirst wsX3_readFirst) := goodIn_app (goodIn_of _ (by decide +kernel)) ggX3_read_X3_readFirst
theorem dX3_read_0 : decode cX3_read 0 = .ok (.aload_n 0, 1) := by decide +kernel
theorem dX3_read_1 : decode cX3_read 1 = .ok (.invokevirtual 58, 3) := by decide +kernel
theorem dX3_read_4 : decode cX3_read 4 = .ok (.aload_n 0, 1) := by decide +kernel
theorem dX3_read_5 : decode cX3_read 5 = .ok (.aload_n 1, 1) := by decide +kernel
theorem dX3_read_6 : decode cX3_read 6 = .ok (.iconst 1, 1) := by decide +kernel
theorem dX3_read_7 : decode cX3_read 7 = .ok (.bipush 64, 2) := by decide +kernel
theorem dX3_read_9 : decode cX3_read 9 = .ok (.invokevirtual 59, 3) := by decide +kernel
theorem dX3_read_12 : decode cX3_read 12 = .ok (.iconst 0, 1) := by decide +kernel
theorem dX3_read_13 : decode cX3_read 13 = .ok (.invokestatic 65, 3) := by decide +kernel
theorem dX3_read_16 : decode cX3_read 16 = .ok (.putfield 48, 3) := by decide +kernel
theorem dX3_read_19 : decode cX3_read 19 = .ok (.iconst 0, 1) := by decide +kernel
theorem dX3_read_20 : decode cX3_read 20 = .ok (.istore_n 3, 1) := by decide +kernel
theorem dX3_read_21 : decode cX3_read 21 = .ok (.iload_n 3, 1) := by decide +kernel
theorem dX3_read_22 : decode cX3_read 22 = .ok (.aload_n 0, 1) := by decide +kernel
theorem dX3_read_23 : decode cX3_read 23 = .ok (.getfield 48, 3) := by decide +kernel
theorem dX3_read_26 : decode cX3_read 26 = .ok (.if_icmp .ge 55, 3) := by decide +kernel
theorem dX3_read_29 : decode cX3_read 29 = .ok (.aload_n 1, 1) := by decide +kernel
theorem dX3_read_30 : decode cX3_read 30 = .ok (.invokevirtual 70, 3) := by decide +kernel
theorem dX3_read_33 : decode cX3_read 33 = .ok (.ifCond .ne 48, 3) := by decide +kernel
theorem dX3_read_36 : decode cX3_read 36 = .ok (.aload_n 0, 1) := by decide +kernel
theorem dX3_read_37 : decode cX3_read 37 = .ok (.aload_n 1, 1) := by decide +kernel
theorem dX3_read_38 : decode cX3_read 38 = .ok (.aload_n 2, 1) := by decide +kernel
theorem dX3_read_39 : decode cX3_read 39 = .ok (.invokevirtual 74, 3) := by decide +kernel
theorem dX3_read_42 : decode cX3_read 42 = .ok (.iload_n 3, 1) := by decide +kernel
theorem dX3_read_43 : decode cX3_read 43 = .ok (.invokevirtual 79, 3) := by decide +kernel
theorem dX3_read_46 : decode cX3_read 46 = .ok (.aload_n 0, 1) := by decide +kernel
theorem dX3_read_47 : decode cX3_read 47 = .ok (.getfield 37, 3) := by decide +kernel
theorem dX3_read_50 : decode cX3_read 50 = .ok (.aload_n 1, 1) := by decide +kernel
theorem dX3_read_51 : decode cX3_read 51 = .ok (.aload_n 2, 1) := by decide +kernel
theorem dX3_read_52 : decode cX3_read 52 = .ok (.iload_n 3, 1) := by decide +kernel
theorem dX3_read_53 : decode cX3_read 53 = .ok (.aload_n 0, 1) := by decide +kernel
theorem dX3_read_54 : decode cX3_read 54 = .ok (.getfield 28, 3) := by decide +kernel
theorem dX3_read_57 : decode cX3_read 57 = .ok (.iload_n 3, 1) := by decide +kernel
theorem dX3_read_58 : decode cX3_read 58 = .ok (.iaload, 1) := by decide +kernel
theorem dX3_read_59 : decode cX3_read 59 = .ok (.invokevirtual 83, 3) := by decide +kernel
theorem dX3_read_62 : decode cX3_read 62 = .ok (.aload_n 0, 1) := by decide +kernel
theorem dX3_read_63 : decode cX3_read 63 = .ok (.getfield 44, 3) := by decide +kernel
theorem dX3_read_66 : decode cX3_read 66 = .ok (.aload_n 1, 1) := by decide +kernel
theorem dX3_read_67 : decode cX3_read 67 = .ok (.aload_n 2, 1) := by decide +kernel
theorem dX3_read_68 : decode cX3_read 68 = .ok (.invokevirtual 74, 3) := by decide +kernel
theorem dX3_read_71 : decode cX3_read 71 = .ok (.iload_n 3, 1) := by decide +kernel
theorem dX3_read_72 : decode cX3_read 72 = .ok (.invokevirtual 87, 3) := by decide +kernel
theorem dX3_read_75 : decode cX3_read 75 = .ok (.iinc 3 1, 3) := by decide +kernel
theorem dX3_read_78 : decode cX3_read 78 = .ok (.goto (-57), 3) := by decide +kernel
theorem dX3_read_81 : decode cX3_read 81 = .ok (.aload_n 0, 1) := by decide +kernel
theorem dX3_read_82 : decode cX3_read 82 = .ok (.aload_n 1, 1) := by decide +kernel
theorem dX3_read_83 : decode cX3_read 83 = .ok (.invokevirtual 89, 3) := by decide +kernel
theorem dX3_read_86 : decode cX3_read 86 = .ok (.return_, 1) := by decide +kernel
set_option maxRecDepth 20000 in
theorem ggX3_readHead_X5_numberOrNothing : GoodIn wsX3_readHead wsX5_numberOrNothing := goodIn_r _ [10, 11, 12, 13, 9, 14, 15, 16, 17, 18, 19, 20, 21, 22, 23, 24, 25, 26, 57, 58, 59, 60] (by decide +kernel) (by decide +kernel)
set_option maxRecDepth 20000 in
theorem gX3_readHead_X5_numberOrNothing : GoodIn wsX3_readHead (wsV RX3 93 RX5 yX5_numberOrNothing wsX5_numberOrNothing) := goodIn_app (goodIn_of _ (by decide +kernel)) ggX3_readHead_X5_numberOrNothing
set_option maxRecDepth 20000 in
theorem ggX3_readHead_X3_readParameters : GoodIn wsX3_readHead wsX3_readParameters := goodIn_r _ [31, 1, 32, 33, 34, 35, 36, 4, 37, 23, 24, 9, 25, 15, 26, 16, 17, 18, 19, 20, 21, 38, 39, 40, 41, 11, 12, 13, 14, 22, 47, 48, 49, 50, 51, 52, 53, 54, 55, 56, 57, 58, 59, 60] (by decide +kernel) (by decide +kernel)
set_option maxRecDepth 20000 in
theorem gX3_readHead_X3_readParameters : GoodIn wsX3_readHead (wsV RX3 97 RX3 yX3_readParameters wsX3_readParameters) := goodIn_app (goodIn_of _ (by decide +kernel)) ggX3_readHead_X3_readParameters
set_option maxRecDepth 20000 in
theorem ggX3_readHead_X5_typeOrNothing : GoodIn wsX3_readHead wsX5_typeOrNothing := goodIn_r _ [45, 11, 12, 13, 9, 14, 15, 16, 17, 18, 19, 20, 21, 22, 23, 24, 25, 26, 46, 39, 40, 41, 57, 58, 59, 60] (by decide +kernel) (by decide +kernel)
set_option maxRecDepth 20000 in
theorem gX3_readHead_X5_typeOrNothing : GoodIn wsX3_readHead (wsV RX3 100 RX5 yX5_typeOrNothing wsX5_typeOrNothing) := goodIn_app (goodIn_of _ (by decide +kernel)) ggX3_readHead_X5_typeOrNothing
set_option maxRecDepth 20000 in
theorem ggX3_readHead_X5_number : GoodIn wsX3_readHead wsX5_number := goodIn_r _ [25, 15, 26, 16, 17, 18, 9, 19, 20, 21, 57, 58, 59, 60] (by decide +kernel) (by decide +kernel)
set_option maxRecDepth 20000 in
theorem gX3_readHead_X5_number : GoodIn wsX3_readHead (wsV RX3 59 RX5 yX5_number wsX5_number) := goodIn_app (goodIn_of _ (by decide +kernel)) ggX3_readHead_X5_number
theorem dX3_readHead_0 : decode cX3_readHead 0 = .ok (.aload_n 1, 1) := by decide +kernel
theorem dX3_readHead_1 : decode cX3_readHead 1 = .ok (.iload_n 2, 1) := by decide +kernel
theorem dX3_readHead_2 : decode cX3_readHead 2 = .ok (.iconst 1, 1) := by decide +kernel
theorem dX3_readHead_3 : decode cX3_readHead 3 = .ok (.isub, 1) := by decide +kernel
theorem dX3_readHead_4 : decode cX3_readHead 4 = .ok (.invokevirtual 93, 3) := by decide +kernel
theorem dX3_readHead_7 : decode cX3_readHead 7 = .ok (.istore 4, 2) := by decide +kernel
theorem dX3_readHead_9 : decode cX3_readHead 9 = .ok (.aload_n 0, 1) := by decide +kernel
theorem dX3_readHead_10 : decode cX3_readHead 10 = .ok (.getfield 15, 3) := by decide +kernel
theorem dX3_readHead_13 : decode cX3_readHead 13 = .ok (.iload_n 3, 1) := by decide +kernel
theorem dX3_readHead_14 : decode cX3_readHead 14 = .ok (.iload 4, 2) := by decide +kernel
theorem dX3_readHead_16 : decode cX3_readHead 16 = .ok (.sipush 255, 3) := by decide +kernel
theorem dX3_readHead_19 : decode cX3_readHead 19 = .ok (.if_icmp .ne 7, 3) := by decide +kernel
theorem dX3_readHead_22 : decode cX3_readHead 22 = .ok (.iconst (-1), 1) := by decide +kernel
theorem dX3_readHead_23 : decode cX3_readHead 23 = .ok (.goto 5, 3) := by decide +kernel
theorem dX3_readHead_26 : decode cX3_readHead 26 = .ok (.iload 4, 2) := by decide +kernel
theorem dX3_readHead_28 : decode cX3_readHead 28 = .ok (.iastore, 1) := by decide +kernel
theorem dX3_readHead_29 : decode cX3_readHead 29 = .ok (.aload_n 0, 1) := by decide +kernel
theorem dX3_readHead_30 : decode cX3_readHead 30 = .ok (.aload_n 1, 1) := by decide +kernel
theorem dX3_readHead_31 : decode cX3_readHead 31 = .ok (.iload_n 2, 1) := by decide +kernel
theorem dX3_readHead_32 : decode cX3_readHead 32 = .ok (.iload_n 3, 1) := by decide +kernel
theorem dX3_readHead_33 : decode cX3_readHead 33 = .ok (.invokevirtual 97, 3) := by decide +kernel
theorem dX3_readHead_36 : decode cX3_readHead 36 = .ok (.aload_n 1, 1) := by decide +kernel
theorem dX3_readHead_37 : decode cX3_readHead 37 = .ok (.iload_n 2, 1) := by decide +kernel
theorem dX3_readHead_38 : decode cX3_readHead 38 = .ok (.invokevirtual 100, 3) := by decide +kernel
theorem dX3_readHead_41 : decode cX3_readHead 41 = .ok (.istore 5, 2) := by decide +kernel
theorem dX3_readHead_43 : decode cX3_readHead 43 = .ok (.aload_n 0, 1) := by decide +kernel
theorem dX3_readHead_44 : decode cX3_readHead 44 = .ok (.getfield 25, 3) := by decide +kernel
theorem dX3_readHead_47 : decode cX3_readHead 47 = .ok (.iload_n 3, 1) := by decide +kernel
theorem dX3_readHead_48 : decode cX3_readHead 48 = .ok (.iload 5, 2) := by decide +kernel
theorem dX3_readHead_50 : decode cX3_readHead 50 = .ok (.sipush 255, 3) := by decide +kernel
theorem dX3_readHead_53 : decode cX3_readHead 53 = .ok (.if_icmp .ne 7, 3) := by decide +kernel
theorem dX3_readHead_56 : decode cX3_readHead 56 = .ok (.iconst (-1), 1) := by decide +kernel
theorem dX3_readHead_57 : decode cX3_readHead 57 = .ok (.goto 5, 3) := by decide +kernel
theorem dX3_readHead_60 : decode cX3_readHead 60 = .ok (.iload 5, 2) := by decide +kernel
theorem dX3_readHead_62 : decode cX3_readHead 62 = .ok (.iastore, 1) := by decide +kernel
theorem dX3_readHead_63 : decode cX3_readHead 63 = .ok (.aload_n 0, 1) := by decide +kernel
theorem dX3_readHead_64 : decode cX3_readHead 64 = .ok (.getfield 28, 3) := by decide +kernel
theorem dX3_readHead_67 : decode cX3_readHead 67 = .ok (.iload_n 3, 1) := by decide +kernel
theorem dX3_readHead_68 : decode cX3_readHead 68 = .ok (.aload_n 1, 1) := by decide +kernel
theorem dX3_readHead_69 : decode cX3_readHead 69 = .ok (.aload_n 0, 1) := by decide +kernel
theorem dX3_readHead_70 : decode cX3_readHead 70 = .ok (.getfield 19, 3) := by decide +kernel
theorem dX3_readHead_73 : decode cX3_readHead 73 = .ok (.iload_n 3, 1) := by decide +kernel
theorem dX3_readHead_74 : decode cX3_readHead 74 = .ok (.iaload, 1) := by decide +kernel
theorem dX3_readHead_75 : decode cX3_readHead 75 = .ok (.bipush 12, 2) := by decide +kernel
theorem dX3_readHead_77 : decode cX3_readHead 77 = .ok (.invokevirtual 59, 3) := by decide +kernel
theorem dX3_readHead_80 : decode cX3_readHead 80 = .ok (.iastore, 1) := by decide +kernel
theorem dX3_readHead_81 : decode cX3_readHead 81 = .ok (.aload_n 0, 1) := by decide +kernel
theorem dX3_readHead_82 : decode cX3_readHead 82 = .ok (.getfield 31, 3) := by decide +kernel
theorem dX3_readHead_85 : decode cX3_readHead 85 = .ok (.iload_n 3, 1) := by decide +kernel
theorem dX3_readHead_86 : decode cX3_readHead 86 = .ok (.aload_n 1, 1) := by decide +kernel
theorem dX3_readHead_87 : decode cX3_readHead 87 = .ok (.iconst 0, 1) := by decide +kernel
theorem dX3_readHead_88 : decode cX3_readHead 88 = .ok (.bipush 12, 2) := by decide +kernel
theorem dX3_readHead_90 : decode cX3_readHead 90 = .ok (.aload_n 0, 1) := by decide +kernel
theorem dX3_readHead_91 : decode cX3_readHead 91 = .ok (.getfield 28, 3) := by decide +kernel
theorem dX3_readHead_94 : decode cX3_readHead 94 = .ok (.iload_n 3, 1) := by decide +kernel
theorem dX3_readHead_95 : decode cX3_readHead 95 = .ok (.iaload, 1) := by decide +kernel
theorem dX3_readHead_96 : decode cX3_readHead 96 = .ok (.isub, 1) := by decide +kernel
theorem dX3_readHead_97 : decode cX3_readHead 97 = .ok (.invokevirtual 59, 3) := by decide +kernel
theorem dX3_readHead_100 : decode cX3_readHead 100 = .ok (.iastore, 1) := by decide +kernel
theorem dX3_readHead_101 : decode cX3_readHead 101 = .ok (.return_, 1) := by decide +kernel
set_option maxRecDepth 20000 in
theorem ggX3_readParameters_X5_number : GoodIn wsX3_readParameters wsX5_number := goodIn_r _ [12, 13, 14, 15, 16, 17, 11, 18, 19, 20, 40, 41, 42, 43] (by decide +kernel) (by decide +kernel)
set_option maxRecDepth 20000 in
theorem gX3_readParameters_X5_number : GoodIn wsX3_readParameters (wsV RX3 59 RX5 yX5_number wsX5_number) := goodIn_app (goodIn_of _ (by decide +kernel)) ggX3_readParameters_X5_number
set_option maxRecDepth 20000 in
theorem ggX3_readParameters_X5_type : GoodIn wsX3_readParameters wsX5_type := goodIn_r _ [24, 25, 26, 27, 11, 28, 13, 15, 16, 17, 18, 19, 20, 29, 9, 10, 12, 14, 40, 41, 42, 43] (by decide +kernel) (by decide +kernel)
set_option maxRecDepth 20000 in
theorem gX3_readParameters_X5_type : GoodIn wsX3_readParameters (wsV RX3 103 RX5 yX5_type wsX5_type) := goodIn_app (goodIn_of _ (by decide +kernel)) ggX3_readParameters_X5_type
theorem dX3_readParameters_0 : decode cX3_readParameters 0 = .ok (.aload_n 0, 1) := by decide +kernel
theorem dX3_readParameters_1 : decode cX3_readParameters 1 = .ok (.getfield 15, 3) := by decide +kernel
theorem dX3_readParameters_4 : decode cX3_readParameters 4 = .ok (.iload_n 3, 1) := by decide +kernel
theorem dX3_readParameters_5 : decode cX3_readParameters 5 = .ok (.iaload, 1) := by decide +kernel
theorem dX3_readParameters_6 : decode cX3_readParameters 6 = .ok (.iconst (-1), 1) := by decide +kernel
theorem dX3_readParameters_7 : decode cX3_readParameters 7 = .ok (.if_icmp .ne 7, 3) := by decide +kernel
theorem dX3_readParameters_10 : decode cX3_readParameters 10 = .ok (.iconst 0, 1) := by decide +kernel
theorem dX3_readParameters_11 : decode cX3_readParameters 11 = .ok (.goto 4, 3) := by decide +kernel
theorem dX3_readParameters_14 : decode cX3_readParameters 14 = .ok (.iconst 1, 1) := by decide +kernel
theorem dX3_readParameters_15 : decode cX3_readParameters 15 = .ok (.istore 4, 2) := by decide +kernel
theorem dX3_readParameters_17 : decode cX3_readParameters 17 = .ok (.iload 4, 2) := by decide +kernel
theorem dX3_readParameters_19 : decode cX3_readParameters 19 = .ok (.iconst 1, 1) := by decide +kernel
theorem dX3_readParameters_20 : decode cX3_readParameters 20 = .ok (.if_icmp .ne 20, 3) := by decide +kernel
theorem dX3_readParameters_23 : decode cX3_readParameters 23 = .ok (.aload_n 0, 1) := by decide +kernel
theorem dX3_readParameters_24 : decode cX3_readParameters 24 = .ok (.getfield 22, 3) := by decide +kernel
theorem dX3_readParameters_27 : decode cX3_readParameters 27 = .ok (.iload_n 3, 1) := by decide +kernel
theorem dX3_readParameters_28 : decode cX3_readParameters 28 = .ok (.bipush 8, 2) := by decide +kernel
theorem dX3_readParameters_30 : decode cX3_readParameters 30 = .ok (.imul, 1) := by decide +kernel
theorem dX3_readParameters_31 : decode cX3_readParameters 31 = .ok (.aload_n 0, 1) := by decide +kernel
theorem dX3_readParameters_32 : decode cX3_readParameters 32 = .ok (.getfield 15, 3) := by decide +kernel
theorem dX3_readParameters_35 : decode cX3_readParameters 35 = .ok (.iload_n 3, 1) := by decide +kernel
theorem dX3_readParameters_36 : decode cX3_readParameters 36 = .ok (.iaload, 1) := by decide +kernel
theorem dX3_readParameters_37 : decode cX3_readParameters 37 = .ok (.iconst 1, 1) := by decide +kernel
theorem dX3_readParameters_38 : decode cX3_readParameters 38 = .ok (.iadd, 1) := by decide +kernel
theorem dX3_readParameters_39 : decode cX3_readParameters 39 = .ok (.iastore, 1) := by decide +kernel
theorem dX3_readParameters_40 : decode cX3_readParameters 40 = .ok (.aload_n 1, 1) := by decide +kernel
theorem dX3_readParameters_41 : decode cX3_readParameters 41 = .ok (.iconst 0, 1) := by decide +kernel
theorem dX3_readParameters_42 : decode cX3_readParameters 42 = .ok (.bipush 7, 2) := by decide +kernel
theorem dX3_readParameters_44 : decode cX3_readParameters 44 = .ok (.invokevirtual 59, 3) := by decide +kernel
theorem dX3_readParameters_47 : decode cX3_readParameters 47 = .ok (.iconst 0, 1) := by decide +kernel
theorem dX3_readParameters_48 : decode cX3_readParameters 48 = .ok (.invokestatic 65, 3) := by decide +kernel
theorem dX3_readParameters_51 : decode cX3_readParameters 51 = .ok (.istore 5, 2) := by decide +kernel
theorem dX3_readParameters_53 : decode cX3_readParameters 53 = .ok (.iconst 0, 1) := by decide +kernel
theorem dX3_readParameters_54 : decode cX3_readParameters 54 = .ok (.istore 6, 2) := by decide +kernel
theorem dX3_readParameters_56 : decode cX3_readParameters 56 = .ok (.iload 6, 2) := by decide +kernel
theorem dX3_readParameters_58 : decode cX3_readParameters 58 = .ok (.iload 5, 2) := by decide +kernel
theorem dX3_readParameters_60 : decode cX3_readParameters 60 = .ok (.if_icmp .ge 29, 3) := by decide +kernel
theorem dX3_readParameters_63 : decode cX3_readParameters 63 = .ok (.aload_n 0, 1) := by decide +kernel
theorem dX3_readParameters_64 : decode cX3_readParameters 64 = .ok (.getfield 22, 3) := by decide +kernel
theorem dX3_readParameters_67 : decode cX3_readParameters 67 = .ok (.iload_n 3, 1) := by decide +kernel
theorem dX3_readParameters_68 : decode cX3_readParameters 68 = .ok (.bipush 8, 2) := by decide +kernel
theorem dX3_readParameters_70 : decode cX3_readParameters 70 = .ok (.imul, 1) := by decide +kernel
theorem dX3_readParameters_71 : decode cX3_readParameters 71 = .ok (.iload 4, 2) := by decide +kernel
theorem dX3_readParameters_73 : decode cX3_readParameters 73 = .ok (.iadd, 1) := by decide +kernel
theorem dX3_readParameters_74 : decode cX3_readParameters 74 = .ok (.iload 6, 2) := by decide +kernel
theorem dX3_readParameters_76 : decode cX3_readParameters 76 = .ok (.iadd, 1) := by decide +kernel
theorem dX3_readParameters_77 : decode cX3_readParameters 77 = .ok (.aload_n 1, 1) := by decide +kernel
theorem dX3_readParameters_78 : decode cX3_readParameters 78 = .ok (.iload_n 2, 1) := by decide +kernel
theorem dX3_readParameters_79 : decode cX3_readParameters 79 = .ok (.invokevirtual 103, 3) := by decide +kernel
theorem dX3_readParameters_82 : decode cX3_readParameters 82 = .ok (.iastore, 1) := by decide +kernel
theorem dX3_readParameters_83 : decode cX3_readParameters 83 = .ok (.iinc 6 1, 3) := by decide +kernel
theorem dX3_readParameters_86 : decode cX3_readParameters 86 = .ok (.goto (-30), 3) := by decide +kernel
theorem dX3_readParameters_89 : decode cX3_readParameters 89 = .ok (.aload_n 0, 1) := by decide +kernel
theorem dX3_readParameters_90 : decode cX3_readParameters 90 = .ok (.getfield 19, 3) := by decide +kernel
theorem dX3_readParameters_93 : decode cX3_readParameters 93 = .ok (.iload_n 3, 1) := by decide +kernel
theorem dX3_readParameters_94 : decode cX3_readParameters 94 = .ok (.iload 4, 2) := by decide +kernel
theorem dX3_readParameters_96 : decode cX3_readParameters 96 = .ok (.iload 5, 2) := by decide +kernel
theorem dX3_readParameters_98 : decode cX3_readParameters 98 = .ok (.iadd, 1) := by decide +kernel
theorem dX3_readParameters_99 : decode cX3_readParameters 99 = .ok (.iastore, 1) := by decide +kernel
theorem dX3_readParameters_100 : decode cX3_readParameters 100 = .ok (.return_, 1) := by decide +kernel
set_option maxRecDepth 20000 in
theorem ggX3_readFirst_X5_next : GoodIn wsX3_readFirst wsX5_next := goodIn_r _ [8, 9, 10, 11, 12, 7, 13, 14, 15, 49, 50, 51, 52] (by decide +kernel) (by decide +kernel)
set_option maxRecDepth 20000 in
theorem gX3_readFirst_X5_next : GoodIn wsX3_readFirst (wsV RX3 106 RX5 yX5_next wsX5_next) := goodIn_app (goodIn_of _ (by decide +kernel)) ggX3_readFirst_X5_next
set_option maxRecDepth 20000 in
theorem ggX3_readFirst_X5_stopped : GoodIn wsX3_readFirst wsX5_stopped := goodIn_r _ [19, 20, 49, 50, 51, 52] (by decide +kernel) (by decide +kernel)
set_option maxRecDepth 20000 in
theorem gX3_readFirst_X5_stopped : GoodIn wsX3_readFirst (wsV RX3 70 RX5 yX5_stopped wsX5_stopped) := goodIn_app (goodIn_of _ (by decide +kernel)) ggX3_readFirst_X5_stopped
set_option maxRecDepth 20000 in
theorem ggX3_readFirst_X3_has : GoodIn wsX3_readFirst wsX3_has := goodIn_r _ [25, 26, 39, 40, 41, 42, 43, 44, 45, 46, 47, 48] (by decide +kernel) (by decide +kernel)
set_option maxRecDepth 20000 in
theorem gX3_readFirst_X3_has : GoodIn wsX3_readFirst (wsV RX3 109 RX3 yX3_has wsX3_has) := goodIn_app (goodIn_of _ (by decide +kernel)) ggX3_readFirst_X3_has
set_option maxRecDepth 20000 in
theorem ggX3_readFirst_X5_place : GoodIn wsX3_readFirst wsX5_place := goodIn_r _ [30, 9, 49, 50, 51, 52] (by decide +kernel) (by decide +kernel)
set_option maxRecDepth 20000 in
theorem gX3_readFirst_X5_place : GoodIn wsX3_readFirst (wsV RX3 113 RX5 yX5_place wsX5_place) := goodIn_app (goodIn_of _ (by decide +kernel)) ggX3_readFirst_X5_place
set_option maxRecDepth 20000 in
theorem ggX3_readFirst_X5_stopAt : GoodIn wsX3_readFirst wsX5_stopAt := goodIn_r _ [34, 9, 20, 49, 50, 51, 52] (by decide +kernel) (by decide +kernel)
set_option maxRecDepth 20000 in
theorem gX3_readFirst_X5_stopAt : GoodIn wsX3_readFirst (wsV RX3 116 RX5 yX5_stopAt wsX5_stopAt) := goodIn_app (goodIn_of _ (by decide +kernel)) ggX3_readFirst_X5_stopAt
set_option maxRecDepth 20000 in
theorem ggX3_readFirst_X5_number : GoodIn wsX3_readFirst wsX5_number := goodIn_r _ [38, 9, 20, 10, 11, 12, 7, 13, 14, 15, 49, 50, 51, 52] (by decide +kernel) (by decide +kernel)
set_option maxRecDepth 20000 in
theorem gX3_readFirst_X5_number : GoodIn wsX3_readFirst (wsV RX3 59 RX5 yX5_number wsX5_number) := goodIn_app (goodIn_of _ (by decide +kernel)) ggX3_readFirst_X5_number
theorem dX3_readFirst_0 : decode cX3_readFirst 0 = .ok (.aload_n 1, 1) := by decide +kernel
theorem dX3_readFirst_1 : decode cX3_readFirst 1 = .ok (.invokevirtual 106, 3) := by decide +kernel
theorem dX3_readFirst_4 : decode cX3_readFirst 4 = .ok (.istore_n 2, 1) := by decide +kernel
theorem dX3_readFirst_5 : decode cX3_readFirst 5 = .ok (.aload_n 1, 1) := by decide +kernel
theorem dX3_readFirst_6 : decode cX3_readFirst 6 = .ok (.invokevirtual 70, 3) := by decide +kernel
theorem dX3_readFirst_9 : decode cX3_readFirst 9 = .ok (.ifCond .eq 4, 3) := by decide +kernel
theorem dX3_readFirst_12 : decode cX3_readFirst 12 = .ok (.return_, 1) := by decide +kernel
theorem dX3_readFirst_13 : decode cX3_readFirst 13 = .ok (.aload_n 0, 1) := by decide +kernel
theorem dX3_readFirst_14 : decode cX3_readFirst 14 = .ok (.iload_n 2, 1) := by decide +kernel
theorem dX3_readFirst_15 : decode cX3_readFirst 15 = .ok (.invokevirtual 109, 3) := by decide +kernel
theorem dX3_readFirst_18 : decode cX3_readFirst 18 = .ok (.ifCond .eq 22, 3) := by decide +kernel
theorem dX3_readFirst_21 : decode cX3_readFirst 21 = .ok (.aload_n 0, 1) := by decide +kernel
theorem dX3_readFirst_22 : decode cX3_readFirst 22 = .ok (.getfield 15, 3) := by decide +kernel
theorem dX3_readFirst_25 : decode cX3_readFirst 25 = .ok (.iload_n 2, 1) := by decide +kernel
theorem dX3_readFirst_26 : decode cX3_readFirst 26 = .ok (.iaload, 1) := by decide +kernel
theorem dX3_readFirst_27 : decode cX3_readFirst 27 = .ok (.iconst (-1), 1) := by decide +kernel
theorem dX3_readFirst_28 : decode cX3_readFirst 28 = .ok (.if_icmp .ne 12, 3) := by decide +kernel
theorem dX3_readFirst_31 : decode cX3_readFirst 31 = .ok (.aload_n 0, 1) := by decide +kernel
theorem dX3_readFirst_32 : decode cX3_readFirst 32 = .ok (.getfield 19, 3) := by decide +kernel
theorem dX3_readFirst_35 : decode cX3_readFirst 35 = .ok (.iload_n 2, 1) := by decide +kernel
theorem dX3_readFirst_36 : decode cX3_readFirst 36 = .ok (.iaload, 1) := by decide +kernel
theorem dX3_readFirst_37 : decode cX3_readFirst 37 = .ok (.ifCond .eq 12, 3) := by decide +kernel
theorem dX3_readFirst_40 : decode cX3_readFirst 40 = .ok (.aload_n 1, 1) := by decide +kernel
theorem dX3_readFirst_41 : decode cX3_readFirst 41 = .ok (.aload_n 1, 1) := by decide +kernel
theorem dX3_readFirst_42 : decode cX3_readFirst 42 = .ok (.invokevirtual 113, 3) := by decide +kernel
theorem dX3_readFirst_45 : decode cX3_readFirst 45 = .ok (.invokevirtual 116, 3) := by decide +kernel
theorem dX3_readFirst_48 : decode cX3_readFirst 48 = .ok (.return_, 1) := by decide +kernel
theorem dX3_readFirst_49 : decode cX3_readFirst 49 = .ok (.aload_n 0, 1) := by decide +kernel
theorem dX3_readFirst_50 : decode cX3_readFirst 50 = .ok (.aload_n 1, 1) := by decide +kernel
theorem dX3_readFirst_51 : decode cX3_readFirst 51 = .ok (.iload_n 2, 1) := by decide +kernel
theorem dX3_readFirst_52 : decode cX3_readFirst 52 = .ok (.iload_n 2, 1) := by decide +kernel
theorem dX3_readFirst_53 : decode cX3_readFirst 53 = .ok (.invokevirtual 59, 3) := by decide +kernel
theorem dX3_readFirst_56 : decode cX3_readFirst 56 = .ok (.putfield 9, 3) := by decide +kernel
theorem dX3_readFirst_59 : decode cX3_readFirst 59 = .ok (.return_, 1) := by decide +kernel
set_option maxRecDepth 20000 in
theorem ggX3_fact_X3_has : GoodIn wsX3_fact wsX3_has := goodIn_r _ [12, 13, 65, 66, 67, 68, 69, 70, 71, 72, 73, 74] (by decide +kernel) (by decide +kernel)
set_option maxRecDepth 20000 in
theorem gX3_fact_X3_has : GoodIn wsX3_fact (wsV RX3 109 RX3 yX3_has wsX3_has) := goodIn_app (goodIn_of _ (by decide +kernel)) ggX3_fact_X3_has
set_option maxRecDepth 20000 in
theorem ggX3_fact_X3_parameterType : GoodIn wsX3_fact wsX3_parameterType := goodIn_r _ [17, 2, 18, 65, 66, 67, 68, 69, 70, 71, 72, 73, 74] (by decide +kernel) (by decide +kernel)
set_option maxRecDepth 20000 in
theorem gX3_fact_X3_parameterType : GoodIn wsX3_fact (wsV RX3 120 RX3 yX3_parameterType wsX3_parameterType) := goodIn_app (goodIn_of _ (by decide +kernel)) ggX3_fact_X3_parameterType
set_option maxRecDepth 20000 in
theorem ggX3_fact_X1_length : GoodIn wsX3_fact wsX1_length := goodIn_r _ [23, 24, 75, 76, 77, 78, 79] (by decide +kernel) (by decide +kernel)
set_option maxRecDepth 20000 in
theorem gX3_fact_X1_length : GoodIn wsX3_fact (wsV RX3 123 RX1 yX1_length wsX1_length) := goodIn_app (goodIn_of _ (by decide +kernel)) ggX3_fact_X1_length
set_option maxRecDepth 20000 in
theorem ggX3_fact_X1_size : GoodIn wsX3_fact wsX1_size := goodIn_r _ [28, 29, 75, 76, 77, 78, 79] (by decide +kernel) (by decide +kernel)
set_option maxRecDepth 20000 in
theorem gX3_fact_X1_size : GoodIn wsX3_fact (wsV RX3 126 RX1 yX1_size wsX1_size) := goodIn_app (goodIn_of _ (by decide +kernel)) ggX3_fact_X1_size
set_option maxRecDepth 20000 in
theorem ggX3_fact_X1_placeOf : GoodIn wsX3_fact wsX1_placeOf := goodIn_r _ [33, 34, 35, 26, 27, 22, 28, 29, 36, 37, 38, 39, 40, 41, 42, 43, 44, 45, 46, 47, 48, 49, 50, 51, 52, 53, 54, 55, 56, 57, 58, 75, 76, 77, 78, 79, 80, 81, 82, 83] (by decide +kernel) (by decide +kernel)
set_option maxRecDepth 20000 in
theorem gX3_fact_X1_placeOf : GoodIn wsX3_fact (wsV RX3 128 RX1 yX1_placeOf wsX1_placeOf) := goodIn_app (goodIn_of _ (by decide +kernel)) ggX3_fact_X1_placeOf
set_option maxRecDepth 20000 in
theorem ggX3_fact_X2_size : GoodIn wsX3_fact wsX2_size := goodIn_r _ [63, 64, 84, 85] (by decide +kernel) (by decide +kernel)
set_option maxRecDepth 20000 in
theorem gX3_fact_X2_size : GoodIn wsX3_fact (wsV RX3 132 RX2 yX2_size wsX2_size) := goodIn_app (goodIn_of _ (by decide +kernel)) ggX3_fact_X2_size
theorem dX3_fact_0 : decode cX3_fact 0 = .ok (.aload_n 0, 1) := by decide +kernel
theorem dX3_fact_1 : decode cX3_fact 1 = .ok (.iload_n 2, 1) := by decide +kernel
theorem dX3_fact_2 : decode cX3_fact 2 = .ok (.invokevirtual 109, 3) := by decide +kernel
theorem dX3_fact_5 : decode cX3_fact 5 = .ok (.ifCond .ne 5, 3) := by decide +kernel
theorem dX3_fact_8 : decode cX3_fact 8 = .ok (.iconst (-1), 1) := by decide +kernel
theorem dX3_fact_9 : decode cX3_fact 9 = .ok (.ireturn, 1) := by decide +kernel
theorem dX3_fact_10 : decode cX3_fact 10 = .ok (.iload_n 3, 1) := by decide +kernel
theorem dX3_fact_11 : decode cX3_fact 11 = .ok (.tableswitch 135 0 9 #[53, 60, 67, 75, 82, 89, 96, 105, 114, 126], 53) := by decide +kernel
theorem dX3_fact_64 : decode cX3_fact 64 = .ok (.aload_n 0, 1) := by decide +kernel
theorem dX3_fact_65 : decode cX3_fact 65 = .ok (.getfield 15, 3) := by decide +kernel
theorem dX3_fact_68 : decode cX3_fact 68 = .ok (.iload_n 2, 1) := by decide +kernel
theorem dX3_fact_69 : decode cX3_fact 69 = .ok (.iaload, 1) := by decide +kernel
theorem dX3_fact_70 : decode cX3_fact 70 = .ok (.ireturn, 1) := by decide +kernel
theorem dX3_fact_71 : decode cX3_fact 71 = .ok (.aload_n 0, 1) := by decide +kernel
theorem dX3_fact_72 : decode cX3_fact 72 = .ok (.getfield 19, 3) := by decide +kernel
theorem dX3_fact_75 : decode cX3_fact 75 = .ok (.iload_n 2, 1) := by decide +kernel
theorem dX3_fact_76 : decode cX3_fact 76 = .ok (.iaload, 1) := by decide +kernel
theorem dX3_fact_77 : decode cX3_fact 77 = .ok (.ireturn, 1) := by decide +kernel
theorem dX3_fact_78 : decode cX3_fact 78 = .ok (.aload_n 0, 1) := by decide +kernel
theorem dX3_fact_79 : decode cX3_fact 79 = .ok (.iload_n 2, 1) := by decide +kernel
theorem dX3_fact_80 : decode cX3_fact 80 = .ok (.iload 4, 2) := by decide +kernel
theorem dX3_fact_82 : decode cX3_fact 82 = .ok (.invokevirtual 120, 3) := by decide +kernel
theorem dX3_fact_85 : decode cX3_fact 85 = .ok (.ireturn, 1) := by decide +kernel
theorem dX3_fact_86 : decode cX3_fact 86 = .ok (.aload_n 0, 1) := by decide +kernel
theorem dX3_fact_87 : decode cX3_fact 87 = .ok (.getfield 25, 3) := by decide +kernel
theorem dX3_fact_90 : decode cX3_fact 90 = .ok (.iload_n 2, 1) := by decide +kernel
theorem dX3_fact_91 : decode cX3_fact 91 = .ok (.iaload, 1) := by decide +kernel
theorem dX3_fact_92 : decode cX3_fact 92 = .ok (.ireturn, 1) := by decide +kernel
theorem dX3_fact_93 : decode cX3_fact 93 = .ok (.aload_n 0, 1) := by decide +kernel
theorem dX3_fact_94 : decode cX3_fact 94 = .ok (.getfield 28, 3) := by decide +kernel
theorem dX3_fact_97 : decode cX3_fact 97 = .ok (.iload_n 2, 1) := by decide +kernel
theorem dX3_fact_98 : decode cX3_fact 98 = .ok (.iaload, 1) := by decide +kernel
theorem dX3_fact_99 : decode cX3_fact 99 = .ok (.ireturn, 1) := by decide +kernel
theorem dX3_fact_100 : decode cX3_fact 100 = .ok (.aload_n 0, 1) := by decide +kernel
theorem dX3_fact_101 : decode cX3_fact 101 = .ok (.getfield 31, 3) := by decide +kernel
theorem dX3_fact_104 : decode cX3_fact 104 = .ok (.iload_n 2, 1) := by decide +kernel
theorem dX3_fact_105 : decode cX3_fact 105 = .ok (.iaload, 1) := by decide +kernel
theorem dX3_fact_106 : decode cX3_fact 106 = .ok (.ireturn, 1) := by decide +kernel
theorem dX3_fact_107 : decode cX3_fact 107 = .ok (.aload_n 0, 1) := by decide +kernel
theorem dX3_fact_108 : decode cX3_fact 108 = .ok (.getfield 37, 3) := by decide +kernel
theorem dX3_fact_111 : decode cX3_fact 111 = .ok (.iload_n 2, 1) := by decide +kernel
theorem dX3_fact_112 : decode cX3_fact 112 = .ok (.invokevirtual 123, 3) := by decide +kernel
theorem dX3_fact_115 : decode cX3_fact 115 = .ok (.ireturn, 1) := by decide +kernel
theorem dX3_fact_116 : decode cX3_fact 116 = .ok (.aload_n 0, 1) := by decide +kernel
theorem dX3_fact_117 : decode cX3_fact 117 = .ok (.getfield 37, 3) := by decide +kernel
theorem dX3_fact_120 : decode cX3_fact 120 = .ok (.iload_n 2, 1) := by decide +kernel
theorem dX3_fact_121 : decode cX3_fact 121 = .ok (.invokevirtual 126, 3) := by decide +kernel
theorem dX3_fact_124 : decode cX3_fact 124 = .ok (.ireturn, 1) := by decide +kernel
theorem dX3_fact_125 : decode cX3_fact 125 = .ok (.aload_n 0, 1) := by decide +kernel
theorem dX3_fact_126 : decode cX3_fact 126 = .ok (.getfield 37, 3) := by decide +kernel
theorem dX3_fact_129 : decode cX3_fact 129 = .ok (.aload_n 1, 1) := by decide +kernel
theorem dX3_fact_130 : decode cX3_fact 130 = .ok (.iload_n 2, 1) := by decide +kernel
theorem dX3_fact_131 : decode cX3_fact 131 = .ok (.iload 4, 2) := by decide +kernel
theorem dX3_fact_133 : decode cX3_fact 133 = .ok (.invokevirtual 128, 3) := by decide +kernel
theorem dX3_fact_136 : decode cX3_fact 136 = .ok (.ireturn, 1) := by decide +kernel
theorem dX3_fact_137 : decode cX3_fact 137 = .ok (.aload_n 0, 1) := by decide +kernel
theorem dX3_fact_138 : decode cX3_fact 138 = .ok (.getfield 44, 3) := by decide +kernel
theorem dX3_fact_141 : decode cX3_fact 141 = .ok (.iload_n 2, 1) := by decide +kernel
theorem dX3_fact_142 : decode cX3_fact 142 = .ok (.invokevirtual 132, 3) := by decide +kernel
theorem dX3_fact_145 : decode cX3_fact 145 = .ok (.ireturn, 1) := by decide +kernel
theorem dX3_fact_146 : decode cX3_fact 146 = .ok (.iconst (-1), 1) := by decide +kernel
theorem dX3_fact_147 : decode cX3_fact 147 = .ok (.ireturn, 1) := by decide +kernel
theorem dX3_parameterType_0 : decode cX3_parameterType 0 = .ok (.iload_n 2, 1) := by decide +kernel
theorem dX3_parameterType_1 : decode cX3_parameterType 1 = .ok (.ifCond .lt 33, 3) := by decide +kernel
theorem dX3_parameterType_4 : decode cX3_parameterType 4 = .ok (.iload_n 2, 1) := by decide +kernel
theorem dX3_parameterType_5 : decode cX3_parameterType 5 = .ok (.aload_n 0, 1) := by decide +kernel
theorem dX3_parameterType_6 : decode cX3_parameterType 6 = .ok (.getfield 19, 3) := by decide +kernel
theorem dX3_parameterType_9 : decode cX3_parameterType 9 = .ok (.iload_n 1, 1) := by decide +kernel
theorem dX3_parameterType_10 : decode cX3_parameterType 10 = .ok (.iaload, 1) := by decide +kernel
theorem dX3_parameterType_11 : decode cX3_parameterType 11 = .ok (.if_icmp .ge 23, 3) := by decide +kernel
theorem dX3_parameterType_14 : decode cX3_parameterType 14 = .ok (.iload_n 2, 1) := by decide +kernel
theorem dX3_parameterType_15 : decode cX3_parameterType 15 = .ok (.bipush 8, 2) := by decide +kernel
theorem dX3_parameterType_17 : decode cX3_parameterType 17 = .ok (.if_icmp .ge 17, 3) := by decide +kernel
theorem dX3_parameterType_20 : decode cX3_parameterType 20 = .ok (.aload_n 0, 1) := by decide +kernel
theorem dX3_parameterType_21 : decode cX3_parameterType 21 = .ok (.getfield 22, 3) := by decide +kernel
theorem dX3_parameterType_24 : decode cX3_parameterType 24 = .ok (.iload_n 1, 1) := by decide +kernel
theorem dX3_parameterType_25 : decode cX3_parameterType 25 = .ok (.bipush 8, 2) := by decide +kernel
theorem dX3_parameterType_27 : decode cX3_parameterType 27 = .ok (.imul, 1) := by decide +kernel
theorem dX3_parameterType_28 : decode cX3_parameterType 28 = .ok (.iload_n 2, 1) := by decide +kernel
theorem dX3_parameterType_29 : decode cX3_parameterType 29 = .ok (.iadd, 1) := by decide +kernel
theorem dX3_parameterType_30 : decode cX3_parameterType 30 = .ok (.iaload, 1) := by decide +kernel
theorem dX3_parameterType_31 : decode cX3_parameterType 31 = .ok (.goto 4, 3) := by decide +kernel
theorem dX3_parameterType_34 : decode cX3_parameterType 34 = .ok (.iconst (-1), 1) := by decide +kernel
theorem dX3_parameterType_35 : decode cX3_parameterType 35 = .ok (.ireturn, 1) := by decide +kernel
set_option maxRecDepth 20000 in
theorem ggX3_handlerFact_X3_has : GoodIn wsX3_handlerFact wsX3_has := goodIn_r _ [6, 7, 31, 32, 33, 34, 35, 36, 37, 38, 39, 40] (by decide +kernel) (by decide +kernel)
set_option maxRecDepth 20000 in
theorem gX3_handlerFact_X3_has : GoodIn wsX3_handlerFact (wsV RX3 109 RX3 yX3_has wsX3_has) := goodIn_app (goodIn_of _ (by decide +kernel)) ggX3_handlerFact_X3_has
set_option maxRecDepth 20000 in
theorem ggX3_handlerFact_X2_fact : GoodIn wsX3_handlerFact wsX2_fact := goodIn_r _ [12, 13, 14, 15, 16, 11, 17, 18, 19, 20, 21, 22, 23, 24, 25, 26, 27, 28, 29, 30, 41, 42, 43, 44, 45, 46] (by decide +kernel) (by decide +kernel)
set_option maxRecDepth 20000 in
theorem gX3_handlerFact_X2_fact : GoodIn wsX3_handlerFact (wsV RX3 133 RX2 yX2_fact wsX2_fact) := goodIn_app (goodIn_of _ (by decide +kernel)) ggX3_handlerFact_X2_fact
theorem dX3_handlerFact_0 : decode cX3_handlerFact 0 = .ok (.aload_n 0, 1) := by decide +kernel
theorem dX3_handlerFact_1 : decode cX3_handlerFact 1 = .ok (.iload_n 2, 1) := by decide +kernel
theorem dX3_handlerFact_2 : decode cX3_handlerFact 2 = .ok (.invokevirtual 109, 3) := by decide +kernel
theorem dX3_handlerFact_5 : decode cX3_handlerFact 5 = .ok (.ifCond .eq 18, 3) := by decide +kernel
theorem dX3_handlerFact_8 : decode cX3_handlerFact 8 = .ok (.aload_n 0, 1) := by decide +kernel
theorem dX3_handlerFact_9 : decode cX3_handlerFact 9 = .ok (.getfield 44, 3) := by decide +kernel
theorem dX3_handlerFact_12 : decode cX3_handlerFact 12 = .ok (.aload_n 1, 1) := by decide +kernel
theorem dX3_handlerFact_13 : decode cX3_handlerFact 13 = .ok (.iload_n 2, 1) := by decide +kernel
theorem dX3_handlerFact_14 : decode cX3_handlerFact 14 = .ok (.iload_n 3, 1) := by decide +kernel
theorem dX3_handlerFact_15 : decode cX3_handlerFact 15 = .ok (.iload 4, 2) := by decide +kernel
theorem dX3_handlerFact_17 : decode cX3_handlerFact 17 = .ok (.invokevirtual 133, 3) := by decide +kernel
theorem dX3_handlerFact_20 : decode cX3_handlerFact 20 = .ok (.goto 4, 3) := by decide +kernel
theorem dX3_handlerFact_23 : decode cX3_handlerFact 23 = .ok (.iconst (-1), 1) := by decide +kernel
theorem dX3_handlerFact_24 : decode cX3_handlerFact 24 = .ok (.ireturn, 1) := by decide +kernel
set_option maxRecDepth 20000 in
theorem ggX3_instructionFact_X3_has : GoodIn wsX3_instructionFact wsX3_has := goodIn_r _ [6, 7, 55, 56, 57, 58, 59, 60, 61, 62, 63, 64] (by decide +kernel) (by decide +kernel)
set_option maxRecDepth 20000 in
theorem gX3_instructionFact_X3_has : GoodIn wsX3_instructionFact (wsV RX3 109 RX3 yX3_has wsX3_has) := goodIn_app (goodIn_of _ (by decide +kernel)) ggX3_instructionFact_X3_has
set_option maxRecDepth 20000 in
theorem ggX3_instructionFact_X1_fact : GoodIn wsX3_instructionFact wsX1_fact := goodIn_r _ [12, 13, 14, 15, 16, 11, 17, 18, 19, 20, 21, 22, 23, 24, 25, 26, 27, 28, 29, 30, 31, 32, 33, 34, 35, 36, 37, 38, 39, 40, 41, 42, 43, 44, 45, 46, 47, 48, 49, 50, 51, 52, 53, 54, 65, 66, 67, 68, 69, 70, 71, 72, 73] (by decide +kernel) (by decide +kernel)
set_option maxRecDepth 20000 in
theorem gX3_instructionFact_X1_fact : GoodIn wsX3_instructionFact (wsV RX3 137 RX1 yX1_fact wsX1_fact) := goodIn_app (goodIn_of _ (by decide +kernel)) ggX3_instructionFact_X1_fact
theorem dX3_instructionFact_0 : decode cX3_instructionFact 0 = .ok (.aload_n 0, 1) := by decide +kernel
theorem dX3_instructionFact_1 : decode cX3_instructionFact 1 = .ok (.iload_n 2, 1) := by decide +kernel
theorem dX3_instructionFact_2 : decode cX3_instructionFact 2 = .ok (.invokevirtual 109, 3) := by decide +kernel
theorem dX3_instructionFact_5 : decode cX3_instructionFact 5 = .ok (.ifCond .eq 18, 3) := by decide +kernel
theorem dX3_instructionFact_8 : decode cX3_instructionFact 8 = .ok (.aload_n 0, 1) := by decide +kernel
theorem dX3_instructionFact_9 : decode cX3_instructionFact 9 = .ok (.getfield 37, 3) := by decide +kernel
theorem dX3_instructionFact_12 : decode cX3_instructionFact 12 = .ok (.aload_n 1, 1) := by decide +kernel
theorem dX3_instructionFact_13 : decode cX3_instructionFact 13 = .ok (.iload_n 2, 1) := by decide +kernel
theorem dX3_instructionFact_14 : decode cX3_instructionFact 14 = .ok (.iload_n 3, 1) := by decide +kernel
theorem dX3_instructionFact_15 : decode cX3_instructionFact 15 = .ok (.iload 4, 2) := by decide +kernel
theorem dX3_instructionFact_17 : decode cX3_instructionFact 17 = .ok (.invokevirtual 137, 3) := by decide +kernel
theorem dX3_instructionFact_20 : decode cX3_instructionFact 20 = .ok (.goto 4, 3) := by decide +kernel
theorem dX3_instructionFact_23 : decode cX3_instructionFact 23 = .ok (.iconst (-1), 1) := by decide +kernel
theorem dX3_instructionFact_24 : decode cX3_instructionFact 24 = .ok (.ireturn, 1) := by decide +kernel
set_option maxRecDepth 20000 in
theorem ggX3_misfit_X0_size : GoodIn wsX3_misfit wsX0_size := goodIn_r _ [8, 9, 130, 131, 132, 133, 134, 135, 136] (by decide +kernel) (by decide +kernel)
set_option maxRecDepth 20000 in
theorem gX3_misfit_X0_size : GoodIn wsX3_misfit (wsV RX3 74 RX0 yX0_size wsX0_size) := goodIn_app (goodIn_of _ (by decide +kernel)) ggX3_misfit_X0_size
set_option maxRecDepth 20000 in
theorem ggX3_misfit_X3_misfitSlot : GoodIn wsX3_misfit wsX3_misfitSlot := goodIn_r _ [14, 15, 16, 17, 7, 18, 19, 20, 21, 22, 23, 9, 24, 25, 26, 13, 27, 28, 29, 30, 31, 32, 33, 34, 35, 36, 37, 38, 39, 40, 41, 42, 1, 43, 44, 45, 46, 47, 48, 49, 50, 51, 52, 53, 130, 131, 132, 133, 134, 135, 136, 120, 121, 122, 123, 124, 125, 126, 127, 128, 129] (by decide +kernel) (by decide +kernel)
set_option maxRecDepth 20000 in
theorem gX3_misfit_X3_misfitSlot : GoodIn wsX3_misfit (wsV RX3 138 RX3 yX3_misfitSlot wsX3_misfitSlot) := goodIn_app (goodIn_of _ (by decide +kernel)) ggX3_misfit_X3_misfitSlot
set_option maxRecDepth 20000 in
theorem ggX3_misfit_X1_misfit : GoodIn wsX3_misfit wsX1_misfit := goodIn_r _ [58, 59, 60, 61, 62, 57, 63, 64, 65, 66, 67, 68, 69, 70, 71, 72, 73, 74, 75, 76, 77, 78, 79, 80, 81, 82, 83, 84, 85, 86, 87, 88, 89, 90, 91, 92, 93, 94, 95, 96, 97, 98, 99, 100, 101, 102, 103, 104, 105, 137, 138, 139, 140, 141, 142, 143, 144, 145] (by decide +kernel) (by decide +kernel)
set_option maxRecDepth 20000 in
theorem gX3_misfit_X1_misfit : GoodIn wsX3_misfit (wsV RX3 142 RX1 yX1_misfit wsX1_misfit) := goodIn_app (goodIn_of _ (by decide +kernel)) ggX3_misfit_X1_misfit
set_option maxRecDepth 20000 in
theorem ggX3_misfit_X2_misfit : GoodIn wsX3_misfit wsX2_misfit := goodIn_r _ [110, 111, 112, 113, 114, 109, 115, 116, 117, 82, 83, 68, 84, 85, 66, 67, 69, 70, 71, 118, 87, 88, 57, 89, 59, 90, 91, 92, 93, 94, 95, 119, 146, 147, 142, 143, 144, 145, 137, 138, 139, 140, 141] (by decide +kernel) (by decide +kernel)
set_option maxRecDepth 20000 in
theorem gX3_misfit_X2_misfit : GoodIn wsX3_misfit (wsV RX3 145 RX2 yX2_misfit wsX2_misfit) := goodIn_app (goodIn_of _ (by decide +kernel)) ggX3_misfit_X2_misfit
theorem dX3_misfit_0 : decode cX3_misfit 0 = .ok (.iconst 0, 1) := by decide +kernel
theorem dX3_misfit_1 : decode cX3_misfit 1 = .ok (.istore_n 3, 1) := by decide +kernel
theorem dX3_misfit_2 : decode cX3_misfit 2 = .ok (.iload_n 3, 1) := by decide +kernel
theorem dX3_misfit_3 : decode cX3_misfit 3 = .ok (.aload_n 2, 1) := by decide +kernel
theorem dX3_misfit_4 : decode cX3_misfit 4 = .ok (.invokevirtual 74, 3) := by decide +kernel
theorem dX3_misfit_7 : decode cX3_misfit 7 = .ok (.if_icmp .ge 26, 3) := by decide +kernel
theorem dX3_misfit_10 : decode cX3_misfit 10 = .ok (.aload_n 0, 1) := by decide +kernel
theorem dX3_misfit_11 : decode cX3_misfit 11 = .ok (.aload_n 2, 1) := by decide +kernel
theorem dX3_misfit_12 : decode cX3_misfit 12 = .ok (.iload_n 3, 1) := by decide +kernel
theorem dX3_misfit_13 : decode cX3_misfit 13 = .ok (.invokevirtual 138, 3) := by decide +kernel
theorem dX3_misfit_16 : decode cX3_misfit 16 = .ok (.istore 4, 2) := by decide +kernel
theorem dX3_misfit_18 : decode cX3_misfit 18 = .ok (.iload 4, 2) := by decide +kernel
theorem dX3_misfit_20 : decode cX3_misfit 20 = .ok (.iconst (-1), 1) := by decide +kernel
theorem dX3_misfit_21 : decode cX3_misfit 21 = .ok (.if_icmp .eq 6, 3) := by decide +kernel
theorem dX3_misfit_24 : decode cX3_misfit 24 = .ok (.iload 4, 2) := by decide +kernel
theorem dX3_misfit_26 : decode cX3_misfit 26 = .ok (.ireturn, 1) := by decide +kernel
theorem dX3_misfit_27 : decode cX3_misfit 27 = .ok (.iinc 3 1, 3) := by decide +kernel
theorem dX3_misfit_30 : decode cX3_misfit 30 = .ok (.goto (-28), 3) := by decide +kernel
theorem dX3_misfit_33 : decode cX3_misfit 33 = .ok (.iconst 0, 1) := by decide +kernel
theorem dX3_misfit_34 : decode cX3_misfit 34 = .ok (.istore_n 3, 1) := by decide +kernel
theorem dX3_misfit_35 : decode cX3_misfit 35 = .ok (.iload_n 3, 1) := by decide +kernel
theorem dX3_misfit_36 : decode cX3_misfit 36 = .ok (.aload_n 0, 1) := by decide +kernel
theorem dX3_misfit_37 : decode cX3_misfit 37 = .ok (.getfield 48, 3) := by decide +kernel
theorem dX3_misfit_40 : decode cX3_misfit 40 = .ok (.if_icmp .ge 59, 3) := by decide +kernel
theorem dX3_misfit_43 : decode cX3_misfit 43 = .ok (.aload_n 0, 1) := by decide +kernel
theorem dX3_misfit_44 : decode cX3_misfit 44 = .ok (.getfield 37, 3) := by decide +kernel
theorem dX3_misfit_47 : decode cX3_misfit 47 = .ok (.aload_n 1, 1) := by decide +kernel
theorem dX3_misfit_48 : decode cX3_misfit 48 = .ok (.iload_n 3, 1) := by decide +kernel
theorem dX3_misfit_49 : decode cX3_misfit 49 = .ok (.aload_n 0, 1) := by decide +kernel
theorem dX3_misfit_50 : decode cX3_misfit 50 = .ok (.getfield 48, 3) := by decide +kernel
theorem dX3_misfit_53 : decode cX3_misfit 53 = .ok (.invokevirtual 142, 3) := by decide +kernel
theorem dX3_misfit_56 : decode cX3_misfit 56 = .ok (.istore 4, 2) := by decide +kernel
theorem dX3_misfit_58 : decode cX3_misfit 58 = .ok (.iload 4, 2) := by decide +kernel
theorem dX3_misfit_60 : decode cX3_misfit 60 = .ok (.iconst (-1), 1) := by decide +kernel
theorem dX3_misfit_61 : decode cX3_misfit 61 = .ok (.if_icmp .eq 8, 3) := by decide +kernel
theorem dX3_misfit_64 : decode cX3_misfit 64 = .ok (.iload 4, 2) := by decide +kernel
theorem dX3_misfit_66 : decode cX3_misfit 66 = .ok (.goto 16, 3) := by decide +kernel
theorem dX3_misfit_69 : decode cX3_misfit 69 = .ok (.aload_n 0, 1) := by decide +kernel
theorem dX3_misfit_70 : decode cX3_misfit 70 = .ok (.getfield 44, 3) := by decide +kernel
theorem dX3_misfit_73 : decode cX3_misfit 73 = .ok (.aload_n 1, 1) := by decide +kernel
theorem dX3_misfit_74 : decode cX3_misfit 74 = .ok (.aload_n 0, 1) := by decide +kernel
theorem dX3_misfit_75 : decode cX3_misfit 75 = .ok (.getfield 37, 3) := by decide +kernel
theorem dX3_misfit_78 : decode cX3_misfit 78 = .ok (.iload_n 3, 1) := by decide +kernel
theorem dX3_misfit_79 : decode cX3_misfit 79 = .ok (.invokevirtual 145, 3) := by decide +kernel
theorem dX3_misfit_82 : decode cX3_misfit 82 = .ok (.istore 5, 2) := by decide +kernel
theorem dX3_misfit_84 : decode cX3_misfit 84 = .ok (.iload 5, 2) := by decide +kernel
theorem dX3_misfit_86 : decode cX3_misfit 86 = .ok (.iconst (-1), 1) := by decide +kernel
theorem dX3_misfit_87 : decode cX3_misfit 87 = .ok (.if_icmp .eq 6, 3) := by decide +kernel
theorem dX3_misfit_90 : decode cX3_misfit 90 = .ok (.iload 5, 2) := by decide +kernel
theorem dX3_misfit_92 : decode cX3_misfit 92 = .ok (.ireturn, 1) := by decide +kernel
theorem dX3_misfit_93 : decode cX3_misfit 93 = .ok (.iinc 3 1, 3) := by decide +kernel
theorem dX3_misfit_96 : decode cX3_misfit 96 = .ok (.goto (-61), 3) := by decide +kernel
theorem dX3_misfit_99 : decode cX3_misfit 99 = .ok (.iconst (-1), 1) := by decide +kernel
theorem dX3_misfit_100 : decode cX3_misfit 100 = .ok (.ireturn, 1) := by decide +kernel
set_option maxRecDepth 20000 in
theorem ggX3_misfitSlot_X0_slotPlace : GoodIn wsX3_misfitSlot wsX0_slotPlace := goodIn_r _ [5, 6, 7, 8, 9, 4, 10, 11, 44, 45, 46, 47, 48, 49, 50] (by decide +kernel) (by decide +kernel)
set_option maxRecDepth 20000 in
theorem gX3_misfitSlot_X0_slotPlace : GoodIn wsX3_misfitSlot (wsV RX3 148 RX0 yX0_slotPlace wsX0_slotPlace) := goodIn_app (goodIn_of _ (by decide +kernel)) ggX3_misfitSlot_X0_slotPlace
set_option maxRecDepth 20000 in
theorem ggX3_misfitSlot_X3_fitsSlot : GoodIn wsX3_misfitSlot wsX3_fitsSlot := goodIn_r _ [16, 17, 18, 19, 20, 4, 21, 22, 7, 8, 9, 10, 11, 23, 24, 25, 26, 27, 28, 29, 30, 15, 31, 32, 33, 34, 35, 36, 37, 38, 39, 40, 41, 42, 43, 51, 52, 53, 54, 55, 56, 57, 58, 59, 60, 44, 45, 46, 47, 48, 49, 50] (by decide +kernel) (by decide +kernel)
set_option maxRecDepth 20000 in
theorem gX3_misfitSlot_X3_fitsSlot : GoodIn wsX3_misfitSlot (wsV RX3 151 RX3 yX3_fitsSlot wsX3_fitsSlot) := goodIn_app (goodIn_of _ (by decide +kernel)) ggX3_misfitSlot_X3_fitsSlot
theorem dX3_misfitSlot_0 : decode cX3_misfitSlot 0 = .ok (.iconst 0, 1) := by decide +kernel
theorem dX3_misfitSlot_1 : decode cX3_misfitSlot 1 = .ok (.istore_n 3, 1) := by decide +kernel
theorem dX3_misfitSlot_2 : decode cX3_misfitSlot 2 = .ok (.iload_n 3, 1) := by decide +kernel
theorem dX3_misfitSlot_3 : decode cX3_misfitSlot 3 = .ok (.bipush 16, 2) := by decide +kernel
theorem dX3_misfitSlot_5 : decode cX3_misfitSlot 5 = .ok (.if_icmp .ge 36, 3) := by decide +kernel
theorem dX3_misfitSlot_8 : decode cX3_misfitSlot 8 = .ok (.aload_n 1, 1) := by decide +kernel
theorem dX3_misfitSlot_9 : decode cX3_misfitSlot 9 = .ok (.iload_n 2, 1) := by decide +kernel
theorem dX3_misfitSlot_10 : decode cX3_misfitSlot 10 = .ok (.iload_n 3, 1) := by decide +kernel
theorem dX3_misfitSlot_11 : decode cX3_misfitSlot 11 = .ok (.invokevirtual 148, 3) := by decide +kernel
theorem dX3_misfitSlot_14 : decode cX3_misfitSlot 14 = .ok (.istore 4, 2) := by decide +kernel
theorem dX3_misfitSlot_16 : decode cX3_misfitSlot 16 = .ok (.iload 4, 2) := by decide +kernel
theorem dX3_misfitSlot_18 : decode cX3_misfitSlot 18 = .ok (.iconst (-1), 1) := by decide +kernel
theorem dX3_misfitSlot_19 : decode cX3_misfitSlot 19 = .ok (.if_icmp .eq 16, 3) := by decide +kernel
theorem dX3_misfitSlot_22 : decode cX3_misfitSlot 22 = .ok (.aload_n 0, 1) := by decide +kernel
theorem dX3_misfitSlot_23 : decode cX3_misfitSlot 23 = .ok (.aload_n 1, 1) := by decide +kernel
theorem dX3_misfitSlot_24 : decode cX3_misfitSlot 24 = .ok (.iload_n 2, 1) := by decide +kernel
theorem dX3_misfitSlot_25 : decode cX3_misfitSlot 25 = .ok (.iload_n 3, 1) := by decide +kernel
theorem dX3_misfitSlot_26 : decode cX3_misfitSlot 26 = .ok (.invokevirtual 151, 3) := by decide +kernel
theorem dX3_misfitSlot_29 : decode cX3_misfitSlot 29 = .ok (.ifCond .ne 6, 3) := by decide +kernel
theorem dX3_misfitSlot_32 : decode cX3_misfitSlot 32 = .ok (.iload 4, 2) := by decide +kernel
theorem dX3_misfitSlot_34 : decode cX3_misfitSlot 34 = .ok (.ireturn, 1) := by decide +kernel
theorem dX3_misfitSlot_35 : decode cX3_misfitSlot 35 = .ok (.iinc 3 1, 3) := by decide +kernel
theorem dX3_misfitSlot_38 : decode cX3_misfitSlot 38 = .ok (.goto (-36), 3) := by decide +kernel
theorem dX3_misfitSlot_41 : decode cX3_misfitSlot 41 = .ok (.iconst (-1), 1) := by decide +kernel
theorem dX3_misfitSlot_42 : decode cX3_misfitSlot 42 = .ok (.ireturn, 1) := by decide +kernel
set_option maxRecDepth 20000 in
theorem ggX3_fitsSlot_X0_slotMethod : GoodIn wsX3_fitsSlot wsX0_slotMethod := goodIn_r _ [6, 7, 8, 9, 10, 5, 11, 12, 45, 46, 47, 48, 49, 50, 51] (by decide +kernel) (by decide +kernel)
set_option maxRecDepth 20000 in
theorem gX3_fitsSlot_X0_slotMethod : GoodIn wsX3_fitsSlot (wsV RX3 155 RX0 yX0_slotMethod wsX0_slotMethod) := goodIn_app (goodIn_of _ (by decide +kernel)) ggX3_fitsSlot_X0_slotMethod
set_option maxRecDepth 20000 in
theorem ggX3_fitsSlot_X0_upper : GoodIn wsX3_fitsSlot wsX0_upper := goodIn_r _ [16, 17, 8, 9, 10, 5, 11, 12, 45, 46, 47, 48, 49, 50, 51] (by decide +kernel) (by decide +kernel)
set_option maxRecDepth 20000 in
theorem gX3_fitsSlot_X0_upper : GoodIn wsX3_fitsSlot (wsV RX3 158 RX0 yX0_upper wsX0_upper) := goodIn_app (goodIn_of _ (by decide +kernel)) ggX3_fitsSlot_X0_upper
set_option maxRecDepth 20000 in
theorem ggX3_fitsSlot_X3_has : GoodIn wsX3_fitsSlot wsX3_has := goodIn_r _ [22, 23, 35, 36, 37, 38, 39, 40, 41, 42, 43, 44] (by decide +kernel) (by decide +kernel)
set_option maxRecDepth 20000 in
theorem gX3_fitsSlot_X3_has : GoodIn wsX3_fitsSlot (wsV RX3 109 RX3 yX3_has wsX3_has) := goodIn_app (goodIn_of _ (by decide +kernel)) ggX3_fitsSlot_X3_has
set_option maxRecDepth 20000 in
theorem ggX3_fitsSlot_X3_standsFor : GoodIn wsX3_fitsSlot wsX3_standsFor := goodIn_r _ [27, 28, 29, 18, 19, 20, 21, 22, 23, 30, 31, 32, 33, 34, 35, 36, 37, 38, 39, 40, 41, 42, 43, 44] (by decide +kernel) (by decide +kernel)
set_option maxRecDepth 20000 in
theorem gX3_fitsSlot_X3_standsFor : GoodIn wsX3_fitsSlot (wsV RX3 161 RX3 yX3_standsFor wsX3_standsFor) := goodIn_app (goodIn_of _ (by decide +kernel)) ggX3_fitsSlot_X3_standsFor
theorem dX3_fitsSlot_0 : decode cX3_fitsSlot 0 = .ok (.aload_n 1, 1) := by decide +kernel
theorem dX3_fitsSlot_1 : decode cX3_fitsSlot 1 = .ok (.iload_n 2, 1) := by decide +kernel
theorem dX3_fitsSlot_2 : decode cX3_fitsSlot 2 = .ok (.iload_n 3, 1) := by decide +kernel
theorem dX3_fitsSlot_3 : decode cX3_fitsSlot 3 = .ok (.invokevirtual 155, 3) := by decide +kernel
theorem dX3_fitsSlot_6 : decode cX3_fitsSlot 6 = .ok (.istore 4, 2) := by decide +kernel
theorem dX3_fitsSlot_8 : decode cX3_fitsSlot 8 = .ok (.aload_n 1, 1) := by decide +kernel
theorem dX3_fitsSlot_9 : decode cX3_fitsSlot 9 = .ok (.aload_n 1, 1) := by decide +kernel
theorem dX3_fitsSlot_10 : decode cX3_fitsSlot 10 = .ok (.iload_n 2, 1) := by decide +kernel
theorem dX3_fitsSlot_11 : decode cX3_fitsSlot 11 = .ok (.invokevirtual 158, 3) := by decide +kernel
theorem dX3_fitsSlot_14 : decode cX3_fitsSlot 14 = .ok (.iload_n 3, 1) := by decide +kernel
theorem dX3_fitsSlot_15 : decode cX3_fitsSlot 15 = .ok (.invokevirtual 155, 3) := by decide +kernel
theorem dX3_fitsSlot_18 : decode cX3_fitsSlot 18 = .ok (.istore 5, 2) := by decide +kernel
theorem dX3_fitsSlot_20 : decode cX3_fitsSlot 20 = .ok (.aload_n 0, 1) := by decide +kernel
theorem dX3_fitsSlot_21 : decode cX3_fitsSlot 21 = .ok (.iload 4, 2) := by decide +kernel
theorem dX3_fitsSlot_23 : decode cX3_fitsSlot 23 = .ok (.invokevirtual 109, 3) := by decide +kernel
theorem dX3_fitsSlot_26 : decode cX3_fitsSlot 26 = .ok (.ifCond .eq 35, 3) := by decide +kernel
theorem dX3_fitsSlot_29 : decode cX3_fitsSlot 29 = .ok (.aload_n 0, 1) := by decide +kernel
theorem dX3_fitsSlot_30 : decode cX3_fitsSlot 30 = .ok (.getfield 15, 3) := by decide +kernel
theorem dX3_fitsSlot_33 : decode cX3_fitsSlot 33 = .ok (.iload 4, 2) := by decide +kernel
theorem dX3_fitsSlot_35 : decode cX3_fitsSlot 35 = .ok (.iaload, 1) := by decide +kernel
theorem dX3_fitsSlot_36 : decode cX3_fitsSlot 36 = .ok (.iload_n 2, 1) := by decide +kernel
theorem dX3_fitsSlot_37 : decode cX3_fitsSlot 37 = .ok (.if_icmp .ne 24, 3) := by decide +kernel
theorem dX3_fitsSlot_40 : decode cX3_fitsSlot 40 = .ok (.iload 5, 2) := by decide +kernel
theorem dX3_fitsSlot_42 : decode cX3_fitsSlot 42 = .ok (.iconst (-1), 1) := by decide +kernel
theorem dX3_fitsSlot_43 : decode cX3_fitsSlot 43 = .ok (.if_icmp .eq 14, 3) := by decide +kernel
theorem dX3_fitsSlot_46 : decode cX3_fitsSlot 46 = .ok (.aload_n 0, 1) := by decide +kernel
theorem dX3_fitsSlot_47 : decode cX3_fitsSlot 47 = .ok (.iload 4, 2) := by decide +kernel
theorem dX3_fitsSlot_49 : decode cX3_fitsSlot 49 = .ok (.iload 5, 2) := by decide +kernel
theorem dX3_fitsSlot_51 : decode cX3_fitsSlot 51 = .ok (.invokevirtual 161, 3) := by decide +kernel
theorem dX3_fitsSlot_54 : decode cX3_fitsSlot 54 = .ok (.ifCond .eq 7, 3) := by decide +kernel
theorem dX3_fitsSlot_57 : decode cX3_fitsSlot 57 = .ok (.iconst 1, 1) := by decide +kernel
theorem dX3_fitsSlot_58 : decode cX3_fitsSlot 58 = .ok (.goto 4, 3) := by decide +kernel
theorem dX3_fitsSlot_61 : decode cX3_fitsSlot 61 = .ok (.iconst 0, 1) := by decide +kernel
theorem dX3_fitsSlot_62 : decode cX3_fitsSlot 62 = .ok (.ireturn, 1) := by decide +kernel
set_option maxRecDepth 20000 in
theorem ggX3_standsFor_X3_has : GoodIn wsX3_standsFor wsX3_has := goodIn_r _ [7, 8, 14, 15, 16, 17, 18, 19, 20, 21, 22, 23] (by decide +kernel) (by decide +kernel)
set_option maxRecDepth 20000 in
theorem gX3_standsFor_X3_has : GoodIn wsX3_standsFor (wsV RX3 109 RX3 yX3_has wsX3_has) := goodIn_app (goodIn_of _ (by decide +kernel)) ggX3_standsFor_X3_has
set_option maxRecDepth 20000 in
theorem ggX3_standsFor_X3_parameterType : GoodIn wsX3_standsFor wsX3_parameterType := goodIn_r _ [12, 2, 13, 14, 15, 16, 17, 18, 19, 20, 21, 22, 23] (by decide +kernel) (by decide +kernel)
set_option maxRecDepth 20000 in
theorem gX3_standsFor_X3_parameterType : GoodIn wsX3_standsFor (wsV RX3 120 RX3 yX3_parameterType wsX3_parameterType) := goodIn_app (goodIn_of _ (by decide +kernel)) ggX3_standsFor_X3_parameterType
theorem dX3_standsFor_0 : decode cX3_standsFor 0 = .ok (.aload_n 0, 1) := by decide +kernel
theorem dX3_standsFor_1 : decode cX3_standsFor 1 = .ok (.iload_n 1, 1) := by decide +kernel
theorem dX3_standsFor_2 : decode cX3_standsFor 2 = .ok (.invokevirtual 109, 3) := by decide +kernel
theorem dX3_standsFor_5 : decode cX3_standsFor 5 = .ok (.ifCond .eq 41, 3) := by decide +kernel
theorem dX3_standsFor_8 : decode cX3_standsFor 8 = .ok (.aload_n 0, 1) := by decide +kernel
theorem dX3_standsFor_9 : decode cX3_standsFor 9 = .ok (.iload_n 2, 1) := by decide +kernel
theorem dX3_standsFor_10 : decode cX3_standsFor 10 = .ok (.invokevirtual 109, 3) := by decide +kernel
theorem dX3_standsFor_13 : decode cX3_standsFor 13 = .ok (.ifCond .eq 33, 3) := by decide +kernel
theorem dX3_standsFor_16 : decode cX3_standsFor 16 = .ok (.aload_n 0, 1) := by decide +kernel
theorem dX3_standsFor_17 : decode cX3_standsFor 17 = .ok (.getfield 25, 3) := by decide +kernel
theorem dX3_standsFor_20 : decode cX3_standsFor 20 = .ok (.iload_n 1, 1) := by decide +kernel
theorem dX3_standsFor_21 : decode cX3_standsFor 21 = .ok (.iaload, 1) := by decide +kernel
theorem dX3_standsFor_22 : decode cX3_standsFor 22 = .ok (.aload_n 0, 1) := by decide +kernel
theorem dX3_standsFor_23 : decode cX3_standsFor 23 = .ok (.getfield 25, 3) := by decide +kernel
theorem dX3_standsFor_26 : decode cX3_standsFor 26 = .ok (.iload_n 2, 1) := by decide +kernel
theorem dX3_standsFor_27 : decode cX3_standsFor 27 = .ok (.iaload, 1) := by decide +kernel
theorem dX3_standsFor_28 : decode cX3_standsFor 28 = .ok (.if_icmp .ne 18, 3) := by decide +kernel
theorem dX3_standsFor_31 : decode cX3_standsFor 31 = .ok (.aload_n 0, 1) := by decide +kernel
theorem dX3_standsFor_32 : decode cX3_standsFor 32 = .ok (.getfield 19, 3) := by decide +kernel
theorem dX3_standsFor_35 : decode cX3_standsFor 35 = .ok (.iload_n 1, 1) := by decide +kernel
theorem dX3_standsFor_36 : decode cX3_standsFor 36 = .ok (.iaload, 1) := by decide +kernel
theorem dX3_standsFor_37 : decode cX3_standsFor 37 = .ok (.aload_n 0, 1) := by decide +kernel
theorem dX3_standsFor_38 : decode cX3_standsFor 38 = .ok (.getfield 19, 3) := by decide +kernel
theorem dX3_standsFor_41 : decode cX3_standsFor 41 = .ok (.iload_n 2, 1) := by decide +kernel
theorem dX3_standsFor_42 : decode cX3_standsFor 42 = .ok (.iaload, 1) := by decide +kernel
theorem dX3_standsFor_43 : decode cX3_standsFor 43 = .ok (.if_icmp .eq 5, 3) := by decide +kernel
theorem dX3_standsFor_46 : decode cX3_standsFor 46 = .ok (.iconst 0, 1) := by decide +kernel
theorem dX3_standsFor_47 : decode cX3_standsFor 47 = .ok (.ireturn, 1) := by decide +kernel
theorem dX3_standsFor_48 : decode cX3_standsFor 48 = .ok (.iconst 1, 1) := by decide +kernel
theorem dX3_standsFor_49 : decode cX3_standsFor 49 = .ok (.istore_n 3, 1) := by decide +kernel
theorem dX3_standsFor_50 : decode cX3_standsFor 50 = .ok (.iload_n 3, 1) := by decide +kernel
theorem dX3_standsFor_51 : decode cX3_standsFor 51 = .ok (.aload_n 0, 1) := by decide +kernel
theorem dX3_standsFor_52 : decode cX3_standsFor 52 = .ok (.getfield 19, 3) := by decide +kernel
theorem dX3_standsFor_55 : decode cX3_standsFor 55 = .ok (.iload_n 1, 1) := by decide +kernel
theorem dX3_standsFor_56 : decode cX3_standsFor 56 = .ok (.iaload, 1) := by decide +kernel
theorem dX3_standsFor_57 : decode cX3_standsFor 57 = .ok (.if_icmp .ge 26, 3) := by decide +kernel
theorem dX3_standsFor_60 : decode cX3_standsFor 60 = .ok (.aload_n 0, 1) := by decide +kernel
theorem dX3_standsFor_61 : decode cX3_standsFor 61 = .ok (.iload_n 1, 1) := by decide +kernel
theorem dX3_standsFor_62 : decode cX3_standsFor 62 = .ok (.iload_n 3, 1) := by decide +kernel
theorem dX3_standsFor_63 : decode cX3_standsFor 63 = .ok (.invokevirtual 120, 3) := by decide +kernel
theorem dX3_standsFor_66 : decode cX3_standsFor 66 = .ok (.aload_n 0, 1) := by decide +kernel
theorem dX3_standsFor_67 : decode cX3_standsFor 67 = .ok (.iload_n 2, 1) := by decide +kernel
theorem dX3_standsFor_68 : decode cX3_standsFor 68 = .ok (.iload_n 3, 1) := by decide +kernel
theorem dX3_standsFor_69 : decode cX3_standsFor 69 = .ok (.invokevirtual 120, 3) := by decide +kernel
theorem dX3_standsFor_72 : decode cX3_standsFor 72 = .ok (.if_icmp .eq 5, 3) := by decide +kernel
theorem dX3_standsFor_75 : decode cX3_standsFor 75 = .ok (.iconst 0, 1) := by decide +kernel
theorem dX3_standsFor_76 : decode cX3_standsFor 76 = .ok (.ireturn, 1) := by decide +kernel
theorem dX3_standsFor_77 : decode cX3_standsFor 77 = .ok (.iinc 3 1, 3) := by decide +kernel
theorem dX3_standsFor_80 : decode cX3_standsFor 80 = .ok (.goto (-30), 3) := by decide +kernel
theorem dX3_standsFor_83 : decode cX3_standsFor 83 = .ok (.iconst 1, 1) := by decide +kernel
theorem dX3_standsFor_84 : decode cX3_standsFor 84 = .ok (.ireturn, 1) := by decide +kernel
theorem dJ9_max_7cf53_0 : decode cJ9_max_7cf53 0 = .ok (.iload_n 0, 1) := by decide +kernel
theorem dJ9_max_7cf53_1 : decode cJ9_max_7cf53 1 = .ok (.iload_n 1, 1) := by decide +kernel
theorem dJ9_max_7cf53_2 : decode cJ9_max_7cf53 2 = .ok (.if_icmp .lt 7, 3) := by decide +kernel
theorem dJ9_max_7cf53_5 : decode cJ9_max_7cf53 5 = .ok (.iload_n 0, 1) := by decide +kernel
theorem dJ9_max_7cf53_6 : decode cJ9_max_7cf53 6 = .ok (.goto 4, 3) := by decide +kernel
theorem dJ9_max_7cf53_9 : decode cJ9_max_7cf53 9 = .ok (.iload_n 1, 1) := by decide +kernel
theorem dJ9_max_7cf53_10 : decode cJ9_max_7cf53 10 = .ok (.ireturn, 1) := by decide +kernel
theorem dJ7_fill_53178_0 : decode cJ7_fill_53178 0 = .ok (.iconst 0, 1) := by decide +kernel
theorem dJ7_fill_53178_1 : decode cJ7_fill_53178 1 = .ok (.istore_n 2, 1) := by decide +kernel
theorem dJ7_fill_53178_2 : decode cJ7_fill_53178 2 = .ok (.aload_n 0, 1) := by decide +kernel
theorem dJ7_fill_53178_3 : decode cJ7_fill_53178 3 = .ok (.arraylength, 1) := by decide +kernel
theorem dJ7_fill_53178_4 : decode cJ7_fill_53178 4 = .ok (.istore_n 3, 1) := by decide +kernel
theorem dJ7_fill_53178_5 : decode cJ7_fill_53178 5 = .ok (.iload_n 2, 1) := by decide +kernel
theorem dJ7_fill_53178_6 : decode cJ7_fill_53178 6 = .ok (.iload_n 3, 1) := by decide +kernel
theorem dJ7_fill_53178_7 : decode cJ7_fill_53178 7 = .ok (.if_icmp .ge 13, 3) := by decide +kernel
theorem dJ7_fill_53178_10 : decode cJ7_fill_53178 10 = .ok (.aload_n 0, 1) := by decide +kernel
theorem dJ7_fill_53178_11 : decode cJ7_fill_53178 11 = .ok (.iload_n 2, 1) := by decide +kernel
theorem dJ7_fill_53178_12 : decode cJ7_fill_53178 12 = .ok (.iload_n 1, 1) := by decide +kernel
theorem dJ7_fill_53178_13 : decode cJ7_fill_53178 13 = .ok (.iastore, 1) := by decide +kernel
theorem dJ7_fill_53178_14 : decode cJ7_fill_53178 14 = .ok (.iinc 2 1, 3) := by decide +kernel
theorem dJ7_fill_53178_17 : decode cJ7_fill_53178 17 = .ok (.goto (-12), 3) := by decide +kernel
theorem dJ7_fill_53178_20 : decode cJ7_fill_53178 20 = .ok (.return_, 1) := by decide +kernel
