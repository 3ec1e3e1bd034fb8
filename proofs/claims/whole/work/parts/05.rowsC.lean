theorem dX4_first_0 : decode cX4_first 0 = .ok (.iload_n 0, 1) := by decide +kernel
theorem dX4_first_1 : decode cX4_first 1 = .ok (.ifCond .lt 19, 3) := by decide +kernel
theorem dX4_first_4 : decode cX4_first 4 = .ok (.iload_n 0, 1) := by decide +kernel
theorem dX4_first_5 : decode cX4_first 5 = .ok (.getstatic 7, 3) := by decide +kernel
theorem dX4_first_8 : decode cX4_first 8 = .ok (.arraylength, 1) := by decide +kernel
theorem dX4_first_9 : decode cX4_first 9 = .ok (.if_icmp .ge 11, 3) := by decide +kernel
theorem dX4_first_12 : decode cX4_first 12 = .ok (.getstatic 7, 3) := by decide +kernel
theorem dX4_first_15 : decode cX4_first 15 = .ok (.iload_n 0, 1) := by decide +kernel
theorem dX4_first_16 : decode cX4_first 16 = .ok (.iaload, 1) := by decide +kernel
theorem dX4_first_17 : decode cX4_first 17 = .ok (.goto 4, 3) := by decide +kernel
theorem dX4_first_20 : decode cX4_first 20 = .ok (.iconst 0, 1) := by decide +kernel
theorem dX4_first_21 : decode cX4_first 21 = .ok (.ireturn, 1) := by decide +kernel
theorem dX4_second_0 : decode cX4_second 0 = .ok (.iload_n 0, 1) := by decide +kernel
theorem dX4_second_1 : decode cX4_second 1 = .ok (.ifCond .lt 19, 3) := by decide +kernel
theorem dX4_second_4 : decode cX4_second 4 = .ok (.iload_n 0, 1) := by decide +kernel
theorem dX4_second_5 : decode cX4_second 5 = .ok (.getstatic 13, 3) := by decide +kernel
theorem dX4_second_8 : decode cX4_second 8 = .ok (.arraylength, 1) := by decide +kernel
theorem dX4_second_9 : decode cX4_second 9 = .ok (.if_icmp .ge 11, 3) := by decide +kernel
theorem dX4_second_12 : decode cX4_second 12 = .ok (.getstatic 13, 3) := by decide +kernel
theorem dX4_second_15 : decode cX4_second 15 = .ok (.iload_n 0, 1) := by decide +kernel
theorem dX4_second_16 : decode cX4_second 16 = .ok (.iaload, 1) := by decide +kernel
theorem dX4_second_17 : decode cX4_second 17 = .ok (.goto 4, 3) := by decide +kernel
theorem dX4_second_20 : decode cX4_second 20 = .ok (.iconst 0, 1) := by decide +kernel
theorem dX4_second_21 : decode cX4_second 21 = .ok (.ireturn, 1) := by decide +kernel
theorem dX4_width_0 : decode cX4_width 0 = .ok (.iload_n 0, 1) := by decide +kernel
theorem dX4_width_1 : decode cX4_width 1 = .ok (.ifCond .lt 19, 3) := by decide +kernel
theorem dX4_width_4 : decode cX4_width 4 = .ok (.iload_n 0, 1) := by decide +kernel
theorem dX4_width_5 : decode cX4_width 5 = .ok (.getstatic 16, 3) := by decide +kernel
theorem dX4_width_8 : decode cX4_width 8 = .ok (.arraylength, 1) := by decide +kernel
theorem dX4_width_9 : decode cX4_width 9 = .ok (.if_icmp .ge 11, 3) := by decide +kernel
theorem dX4_width_12 : decode cX4_width 12 = .ok (.getstatic 16, 3) := by decide +kernel
theorem dX4_width_15 : decode cX4_width 15 = .ok (.iload_n 0, 1) := by decide +kernel
theorem dX4_width_16 : decode cX4_width 16 = .ok (.iaload, 1) := by decide +kernel
theorem dX4_width_17 : decode cX4_width 17 = .ok (.goto 4, 3) := by decide +kernel
theorem dX4_width_20 : decode cX4_width 20 = .ok (.iconst 0, 1) := by decide +kernel
theorem dX4_width_21 : decode cX4_width 21 = .ok (.ireturn, 1) := by decide +kernel
set_option maxRecDepth 20000 in
theorem ggX4_length_X4_first : GoodIn wsX4_length wsX4_first := goodIn_r _ [4, 5] (by decide +kernel) (by decide +kernel)
set_option maxRecDepth 20000 in
theorem gX4_length_X4_first : GoodIn wsX4_length (va_wsS RX4 19 yX4_first wsX4_first) := goodIn_app (goodIn_of _ (by decide +kernel)) ggX4_length_X4_first
set_option maxRecDepth 20000 in
theorem ggX4_length_X4_width : GoodIn wsX4_length wsX4_width := goodIn_r _ [8, 9] (by decide +kernel) (by decide +kernel)
set_option maxRecDepth 20000 in
theorem gX4_length_X4_width : GoodIn wsX4_length (va_wsS RX4 23 yX4_width wsX4_width) := goodIn_app (goodIn_of _ (by decide +kernel)) ggX4_length_X4_width
set_option maxRecDepth 20000 in
theorem ggX4_length_X4_second : GoodIn wsX4_length wsX4_second := goodIn_r _ [12, 13] (by decide +kernel) (by decide +kernel)
set_option maxRecDepth 20000 in
theorem gX4_length_X4_second : GoodIn wsX4_length (va_wsS RX4 26 yX4_second wsX4_second) := goodIn_app (goodIn_of _ (by decide +kernel)) ggX4_length_X4_second
theorem dX4_length_0 : decode cX4_length 0 = .ok (.iconst 1, 1) := by decide +kernel
theorem dX4_length_1 : decode cX4_length 1 = .ok (.iload_n 0, 1) := by decide +kernel
theorem dX4_length_2 : decode cX4_length 2 = .ok (.invokestatic 19, 3) := by decide +kernel
theorem dX4_length_5 : decode cX4_length 5 = .ok (.invokestatic 23, 3) := by decide +kernel
theorem dX4_length_8 : decode cX4_length 8 = .ok (.iadd, 1) := by decide +kernel
theorem dX4_length_9 : decode cX4_length 9 = .ok (.iload_n 0, 1) := by decide +kernel
theorem dX4_length_10 : decode cX4_length 10 = .ok (.invokestatic 26, 3) := by decide +kernel
theorem dX4_length_13 : decode cX4_length 13 = .ok (.invokestatic 23, 3) := by decide +kernel
theorem dX4_length_16 : decode cX4_length 16 = .ok (.iadd, 1) := by decide +kernel
theorem dX4_length_17 : decode cX4_length 17 = .ok (.ireturn, 1) := by decide +kernel
theorem dX5_init_0 : decode cX5_init 0 = .ok (.aload_n 0, 1) := by decide +kernel
theorem dX5_init_1 : decode cX5_init 1 = .ok (.invokespecial 3, 3) := by decide +kernel
theorem dX5_init_4 : decode cX5_init 4 = .ok (.aload_n 0, 1) := by decide +kernel
theorem dX5_init_5 : decode cX5_init 5 = .ok (.sipush 2000, 3) := by decide +kernel
theorem dX5_init_8 : decode cX5_init 8 = .ok (.newarray .int, 2) := by decide +kernel
theorem dX5_init_10 : decode cX5_init 10 = .ok (.putfield 11, 3) := by decide +kernel
theorem dX5_init_13 : decode cX5_init 13 = .ok (.return_, 1) := by decide +kernel
set_option maxRecDepth 20000 in
theorem ggX5_take_X6_length : GoodIn wsX5_take wsX6_length := goodIn_r _ [9, 10, 24, 25] (by decide +kernel) (by decide +kernel)
set_option maxRecDepth 20000 in
theorem gX5_take_X6_length : GoodIn wsX5_take (wsV RX5 17 RX6 yX6_length wsX6_length) := goodIn_app (goodIn_of _ (by decide +kernel)) ggX5_take_X6_length
set_option maxRecDepth 20000 in
theorem ggX5_take_X6_clear : GoodIn wsX5_take wsX6_clear := goodIn_r _ [14, 10, 24, 25] (by decide +kernel) (by decide +kernel)
set_option maxRecDepth 20000 in
theorem gX5_take_X6_clear : GoodIn wsX5_take (wsV RX5 21 RX6 yX6_clear wsX6_clear) := goodIn_app (goodIn_of _ (by decide +kernel)) ggX5_take_X6_clear
set_option maxRecDepth 20000 in
theorem ggX5_take_X6_exchange : GoodIn wsX5_take wsX6_exchange := goodIn_r _ [18, 19, 10, 24, 25] (by decide +kernel) (by decide +kernel)
set_option maxRecDepth 20000 in
theorem gX5_take_X6_exchange : GoodIn wsX5_take (wsV RX5 24 RX6 yX6_exchange wsX6_exchange) := goodIn_app (goodIn_of _ (by decide +kernel)) ggX5_take_X6_exchange
theorem dX5_take_0 : decode cX5_take 0 = .ok (.iload_n 2, 1) := by decide +kernel
theorem dX5_take_1 : decode cX5_take 1 = .ok (.ifCond .lt 11, 3) := by decide +kernel
theorem dX5_take_4 : decode cX5_take 4 = .ok (.iload_n 2, 1) := by decide +kernel
theorem dX5_take_5 : decode cX5_take 5 = .ok (.aload_n 1, 1) := by decide +kernel
theorem dX5_take_6 : decode cX5_take 6 = .ok (.invokevirtual 17, 3) := by decide +kernel
theorem dX5_take_9 : decode cX5_take 9 = .ok (.if_icmp .le 9, 3) := by decide +kernel
theorem dX5_take_12 : decode cX5_take 12 = .ok (.aload_n 1, 1) := by decide +kernel
theorem dX5_take_13 : decode cX5_take 13 = .ok (.invokevirtual 21, 3) := by decide +kernel
theorem dX5_take_16 : decode cX5_take 16 = .ok (.iconst 0, 1) := by decide +kernel
theorem dX5_take_17 : decode cX5_take 17 = .ok (.ireturn, 1) := by decide +kernel
theorem dX5_take_18 : decode cX5_take 18 = .ok (.aload_n 0, 1) := by decide +kernel
theorem dX5_take_19 : decode cX5_take 19 = .ok (.aload_n 1, 1) := by decide +kernel
theorem dX5_take_20 : decode cX5_take 20 = .ok (.aload_n 0, 1) := by decide +kernel
theorem dX5_take_21 : decode cX5_take 21 = .ok (.getfield 11, 3) := by decide +kernel
theorem dX5_take_24 : decode cX5_take 24 = .ok (.invokevirtual 24, 3) := by decide +kernel
theorem dX5_take_27 : decode cX5_take 27 = .ok (.putfield 11, 3) := by decide +kernel
theorem dX5_take_30 : decode cX5_take 30 = .ok (.aload_n 0, 1) := by decide +kernel
theorem dX5_take_31 : decode cX5_take 31 = .ok (.iload_n 2, 1) := by decide +kernel
theorem dX5_take_32 : decode cX5_take 32 = .ok (.putfield 28, 3) := by decide +kernel
theorem dX5_take_35 : decode cX5_take 35 = .ok (.aload_n 0, 1) := by decide +kernel
theorem dX5_take_36 : decode cX5_take 36 = .ok (.iconst 0, 1) := by decide +kernel
theorem dX5_take_37 : decode cX5_take 37 = .ok (.putfield 31, 3) := by decide +kernel
theorem dX5_take_40 : decode cX5_take 40 = .ok (.aload_n 0, 1) := by decide +kernel
theorem dX5_take_41 : decode cX5_take 41 = .ok (.iconst 0, 1) := by decide +kernel
theorem dX5_take_42 : decode cX5_take 42 = .ok (.putfield 34, 3) := by decide +kernel
theorem dX5_take_45 : decode cX5_take 45 = .ok (.iconst 1, 1) := by decide +kernel
theorem dX5_take_46 : decode cX5_take 46 = .ok (.ireturn, 1) := by decide +kernel
theorem dX5_place_0 : decode cX5_place 0 = .ok (.aload_n 0, 1) := by decide +kernel
theorem dX5_place_1 : decode cX5_place 1 = .ok (.getfield 31, 3) := by decide +kernel
theorem dX5_place_4 : decode cX5_place 4 = .ok (.ireturn, 1) := by decide +kernel
theorem dX5_stopped_0 : decode cX5_stopped 0 = .ok (.aload_n 0, 1) := by decide +kernel
theorem dX5_stopped_1 : decode cX5_stopped 1 = .ok (.getfield 34, 3) := by decide +kernel
theorem dX5_stopped_4 : decode cX5_stopped 4 = .ok (.ireturn, 1) := by decide +kernel
theorem dX5_stopAt_0 : decode cX5_stopAt 0 = .ok (.aload_n 0, 1) := by decide +kernel
theorem dX5_stopAt_1 : decode cX5_stopAt 1 = .ok (.iload_n 1, 1) := by decide +kernel
theorem dX5_stopAt_2 : decode cX5_stopAt 2 = .ok (.putfield 31, 3) := by decide +kernel
theorem dX5_stopAt_5 : decode cX5_stopAt 5 = .ok (.aload_n 0, 1) := by decide +kernel
theorem dX5_stopAt_6 : decode cX5_stopAt 6 = .ok (.iconst 1, 1) := by decide +kernel
theorem dX5_stopAt_7 : decode cX5_stopAt 7 = .ok (.putfield 34, 3) := by decide +kernel
theorem dX5_stopAt_10 : decode cX5_stopAt 10 = .ok (.return_, 1) := by decide +kernel
theorem dX5_close_0 : decode cX5_close 0 = .ok (.aload_n 0, 1) := by decide +kernel
theorem dX5_close_1 : decode cX5_close 1 = .ok (.getfield 31, 3) := by decide +kernel
theorem dX5_close_4 : decode cX5_close 4 = .ok (.aload_n 0, 1) := by decide +kernel
theorem dX5_close_5 : decode cX5_close 5 = .ok (.getfield 28, 3) := by decide +kernel
theorem dX5_close_8 : decode cX5_close 8 = .ok (.if_icmp .ge 8, 3) := by decide +kernel
theorem dX5_close_11 : decode cX5_close 11 = .ok (.aload_n 0, 1) := by decide +kernel
theorem dX5_close_12 : decode cX5_close 12 = .ok (.iconst 1, 1) := by decide +kernel
theorem dX5_close_13 : decode cX5_close 13 = .ok (.putfield 34, 3) := by decide +kernel
theorem dX5_close_16 : decode cX5_close 16 = .ok (.return_, 1) := by decide +kernel
set_option maxRecDepth 20000 in
theorem ggX5_next_X5_byteAt : GoodIn wsX5_next wsX5_byteAt := goodIn_r _ [6, 7, 8, 9, 10, 11, 12] (by decide +kernel) (by decide +kernel)
set_option maxRecDepth 20000 in
theorem gX5_next_X5_byteAt : GoodIn wsX5_next (wsV RX5 38 RX5 yX5_byteAt wsX5_byteAt) := goodIn_app (goodIn_of _ (by decide +kernel)) ggX5_next_X5_byteAt
theorem dX5_next_0 : decode cX5_next 0 = .ok (.aload_n 0, 1) := by decide +kernel
theorem dX5_next_1 : decode cX5_next 1 = .ok (.aload_n 0, 1) := by decide +kernel
theorem dX5_next_2 : decode cX5_next 2 = .ok (.getfield 31, 3) := by decide +kernel
theorem dX5_next_5 : decode cX5_next 5 = .ok (.invokevirtual 38, 3) := by decide +kernel
theorem dX5_next_8 : decode cX5_next 8 = .ok (.ireturn, 1) := by decide +kernel
set_option maxRecDepth 20000 in
theorem ggX5_number_X5_byteAt : GoodIn wsX5_number wsX5_byteAt := goodIn_r _ [7, 8, 9, 10, 11, 12, 13] (by decide +kernel) (by decide +kernel)
set_option maxRecDepth 20000 in
theorem gX5_number_X5_byteAt : GoodIn wsX5_number (wsV RX5 38 RX5 yX5_byteAt wsX5_byteAt) := goodIn_app (goodIn_of _ (by decide +kernel)) ggX5_number_X5_byteAt
theorem dX5_number_0 : decode cX5_number 0 = .ok (.aload_n 0, 1) := by decide +kernel
theorem dX5_number_1 : decode cX5_number 1 = .ok (.aload_n 0, 1) := by decide +kernel
theorem dX5_number_2 : decode cX5_number 2 = .ok (.getfield 31, 3) := by decide +kernel
theorem dX5_number_5 : decode cX5_number 5 = .ok (.invokevirtual 38, 3) := by decide +kernel
theorem dX5_number_8 : decode cX5_number 8 = .ok (.istore_n 3, 1) := by decide +kernel
theorem dX5_number_9 : decode cX5_number 9 = .ok (.aload_n 0, 1) := by decide +kernel
theorem dX5_number_10 : decode cX5_number 10 = .ok (.getfield 34, 3) := by decide +kernel
theorem dX5_number_13 : decode cX5_number 13 = .ok (.ifCond .ne 18, 3) := by decide +kernel
theorem dX5_number_16 : decode cX5_number 16 = .ok (.iload_n 3, 1) := by decide +kernel
theorem dX5_number_17 : decode cX5_number 17 = .ok (.iconst (-1), 1) := by decide +kernel
theorem dX5_number_18 : decode cX5_number 18 = .ok (.if_icmp .eq 13, 3) := by decide +kernel
theorem dX5_number_21 : decode cX5_number 21 = .ok (.iload_n 3, 1) := by decide +kernel
theorem dX5_number_22 : decode cX5_number 22 = .ok (.iload_n 1, 1) := by decide +kernel
theorem dX5_number_23 : decode cX5_number 23 = .ok (.if_icmp .lt 8, 3) := by decide +kernel
theorem dX5_number_26 : decode cX5_number 26 = .ok (.iload_n 3, 1) := by decide +kernel
theorem dX5_number_27 : decode cX5_number 27 = .ok (.iload_n 2, 1) := by decide +kernel
theorem dX5_number_28 : decode cX5_number 28 = .ok (.if_icmp .le 10, 3) := by decide +kernel
theorem dX5_number_31 : decode cX5_number 31 = .ok (.aload_n 0, 1) := by decide +kernel
theorem dX5_number_32 : decode cX5_number 32 = .ok (.iconst 1, 1) := by decide +kernel
theorem dX5_number_33 : decode cX5_number 33 = .ok (.putfield 34, 3) := by decide +kernel
theorem dX5_number_36 : decode cX5_number 36 = .ok (.iconst (-1), 1) := by decide +kernel
theorem dX5_number_37 : decode cX5_number 37 = .ok (.ireturn, 1) := by decide +kernel
theorem dX5_number_38 : decode cX5_number 38 = .ok (.aload_n 0, 1) := by decide +kernel
theorem dX5_number_39 : decode cX5_number 39 = .ok (.dup, 1) := by decide +kernel
theorem dX5_number_40 : decode cX5_number 40 = .ok (.getfield 31, 3) := by decide +kernel
theorem dX5_number_43 : decode cX5_number 43 = .ok (.iconst 1, 1) := by decide +kernel
theorem dX5_number_44 : decode cX5_number 44 = .ok (.iadd, 1) := by decide +kernel
theorem dX5_number_45 : decode cX5_number 45 = .ok (.putfield 31, 3) := by decide +kernel
theorem dX5_number_48 : decode cX5_number 48 = .ok (.iload_n 3, 1) := by decide +kernel
theorem dX5_number_49 : decode cX5_number 49 = .ok (.ireturn, 1) := by decide +kernel
set_option maxRecDepth 20000 in
theorem ggX5_numberOrNothing_X5_next : GoodIn wsX5_numberOrNothing wsX5_next := goodIn_r _ [5, 6, 7, 8, 9, 4, 10, 11, 12, 18, 19, 20, 21] (by decide +kernel) (by decide +kernel)
set_option maxRecDepth 20000 in
theorem gX5_numberOrNothing_X5_next : GoodIn wsX5_numberOrNothing (wsV RX5 42 RX5 yX5_next wsX5_next) := goodIn_app (goodIn_of _ (by decide +kernel)) ggX5_numberOrNothing_X5_next
set_option maxRecDepth 20000 in
theorem ggX5_numberOrNothing_X5_number : GoodIn wsX5_numberOrNothing wsX5_number := goodIn_r _ [16, 6, 17, 7, 8, 9, 4, 10, 11, 12, 18, 19, 20, 21] (by decide +kernel) (by decide +kernel)
set_option maxRecDepth 20000 in
theorem gX5_numberOrNothing_X5_number : GoodIn wsX5_numberOrNothing (wsV RX5 45 RX5 yX5_number wsX5_number) := goodIn_app (goodIn_of _ (by decide +kernel)) ggX5_numberOrNothing_X5_number
theorem dX5_numberOrNothing_0 : decode cX5_numberOrNothing 0 = .ok (.aload_n 0, 1) := by decide +kernel
theorem dX5_numberOrNothing_1 : decode cX5_numberOrNothing 1 = .ok (.invokevirtual 42, 3) := by decide +kernel
theorem dX5_numberOrNothing_4 : decode cX5_numberOrNothing 4 = .ok (.sipush 255, 3) := by decide +kernel
theorem dX5_numberOrNothing_7 : decode cX5_numberOrNothing 7 = .ok (.if_icmp .ne 16, 3) := by decide +kernel
theorem dX5_numberOrNothing_10 : decode cX5_numberOrNothing 10 = .ok (.aload_n 0, 1) := by decide +kernel
theorem dX5_numberOrNothing_11 : decode cX5_numberOrNothing 11 = .ok (.sipush 255, 3) := by decide +kernel
theorem dX5_numberOrNothing_14 : decode cX5_numberOrNothing 14 = .ok (.sipush 255, 3) := by decide +kernel
theorem dX5_numberOrNothing_17 : decode cX5_numberOrNothing 17 = .ok (.invokevirtual 45, 3) := by decide +kernel
theorem dX5_numberOrNothing_20 : decode cX5_numberOrNothing 20 = .ok (.goto 9, 3) := by decide +kernel
theorem dX5_numberOrNothing_23 : decode cX5_numberOrNothing 23 = .ok (.aload_n 0, 1) := by decide +kernel
theorem dX5_numberOrNothing_24 : decode cX5_numberOrNothing 24 = .ok (.iconst 0, 1) := by decide +kernel
theorem dX5_numberOrNothing_25 : decode cX5_numberOrNothing 25 = .ok (.iload_n 1, 1) := by decide +kernel
theorem dX5_numberOrNothing_26 : decode cX5_numberOrNothing 26 = .ok (.invokevirtual 45, 3) := by decide +kernel
theorem dX5_numberOrNothing_29 : decode cX5_numberOrNothing 29 = .ok (.ireturn, 1) := by decide +kernel
set_option maxRecDepth 20000 in
theorem ggX5_type_X5_next : GoodIn wsX5_type wsX5_next := goodIn_r _ [5, 6, 7, 8, 9, 4, 10, 11, 12, 18, 19, 20, 21] (by decide +kernel) (by decide +kernel)
set_option maxRecDepth 20000 in
theorem gX5_type_X5_next : GoodIn wsX5_type (wsV RX5 42 RX5 yX5_next wsX5_next) := goodIn_app (goodIn_of _ (by decide +kernel)) ggX5_type_X5_next
set_option maxRecDepth 20000 in
theorem ggX5_type_X5_number : GoodIn wsX5_type wsX5_number := goodIn_r _ [16, 6, 17, 7, 8, 9, 4, 10, 11, 12, 18, 19, 20, 21] (by decide +kernel) (by decide +kernel)
set_option maxRecDepth 20000 in
theorem gX5_type_X5_number : GoodIn wsX5_type (wsV RX5 45 RX5 yX5_number wsX5_number) := goodIn_app (goodIn_of _ (by decide +kernel)) ggX5_type_X5_number
theorem dX5_type_0 : decode cX5_type 0 = .ok (.aload_n 0, 1) := by decide +kernel
theorem dX5_type_1 : decode cX5_type 1 = .ok (.invokevirtual 42, 3) := by decide +kernel
theorem dX5_type_4 : decode cX5_type 4 = .ok (.bipush 64, 2) := by decide +kernel
theorem dX5_type_6 : decode cX5_type 6 = .ok (.if_icmp .ge 12, 3) := by decide +kernel
theorem dX5_type_9 : decode cX5_type 9 = .ok (.aload_n 0, 1) := by decide +kernel
theorem dX5_type_10 : decode cX5_type 10 = .ok (.iconst 0, 1) := by decide +kernel
theorem dX5_type_11 : decode cX5_type 11 = .ok (.iload_n 1, 1) := by decide +kernel
theorem dX5_type_12 : decode cX5_type 12 = .ok (.invokevirtual 45, 3) := by decide +kernel
theorem dX5_type_15 : decode cX5_type 15 = .ok (.goto 13, 3) := by decide +kernel
theorem dX5_type_18 : decode cX5_type 18 = .ok (.aload_n 0, 1) := by decide +kernel
theorem dX5_type_19 : decode cX5_type 19 = .ok (.bipush 64, 2) := by decide +kernel
theorem dX5_type_21 : decode cX5_type 21 = .ok (.bipush 64, 2) := by decide +kernel
theorem dX5_type_23 : decode cX5_type 23 = .ok (.iload_n 1, 1) := by decide +kernel
theorem dX5_type_24 : decode cX5_type 24 = .ok (.iadd, 1) := by decide +kernel
theorem dX5_type_25 : decode cX5_type 25 = .ok (.invokevirtual 45, 3) := by decide +kernel
theorem dX5_type_28 : decode cX5_type 28 = .ok (.ireturn, 1) := by decide +kernel
set_option maxRecDepth 20000 in
theorem ggX5_typeOrNothing_X5_next : GoodIn wsX5_typeOrNothing wsX5_next := goodIn_r _ [5, 6, 7, 8, 9, 4, 10, 11, 12, 22, 23, 24, 25] (by decide +kernel) (by decide +kernel)
set_option maxRecDepth 20000 in
theorem gX5_typeOrNothing_X5_next : GoodIn wsX5_typeOrNothing (wsV RX5 42 RX5 yX5_next wsX5_next) := goodIn_app (goodIn_of _ (by decide +kernel)) ggX5_typeOrNothing_X5_next
set_option maxRecDepth 20000 in
theorem ggX5_typeOrNothing_X5_number : GoodIn wsX5_typeOrNothing wsX5_number := goodIn_r _ [16, 6, 17, 7, 8, 9, 4, 10, 11, 12, 22, 23, 24, 25] (by decide +kernel) (by decide +kernel)
set_option maxRecDepth 20000 in
theorem gX5_typeOrNothing_X5_number : GoodIn wsX5_typeOrNothing (wsV RX5 45 RX5 yX5_number wsX5_number) := goodIn_app (goodIn_of _ (by decide +kernel)) ggX5_typeOrNothing_X5_number
set_option maxRecDepth 20000 in
theorem ggX5_typeOrNothing_X5_type : GoodIn wsX5_typeOrNothing wsX5_type := goodIn_r _ [21, 1, 2, 3, 4, 5, 6, 7, 8, 9, 10, 11, 12, 13, 14, 15, 16, 17, 22, 23, 24, 25] (by decide +kernel) (by decide +kernel)
set_option maxRecDepth 20000 in
theorem gX5_typeOrNothing_X5_type : GoodIn wsX5_typeOrNothing (wsV RX5 49 RX5 yX5_type wsX5_type) := goodIn_app (goodIn_of _ (by decide +kernel)) ggX5_typeOrNothing_X5_type
theorem dX5_typeOrNothing_0 : decode cX5_typeOrNothing 0 = .ok (.aload_n 0, 1) := by decide +kernel
theorem dX5_typeOrNothing_1 : decode cX5_typeOrNothing 1 = .ok (.invokevirtual 42, 3) := by decide +kernel
theorem dX5_typeOrNothing_4 : decode cX5_typeOrNothing 4 = .ok (.sipush 255, 3) := by decide +kernel
theorem dX5_typeOrNothing_7 : decode cX5_typeOrNothing 7 = .ok (.if_icmp .ne 16, 3) := by decide +kernel
theorem dX5_typeOrNothing_10 : decode cX5_typeOrNothing 10 = .ok (.aload_n 0, 1) := by decide +kernel
theorem dX5_typeOrNothing_11 : decode cX5_typeOrNothing 11 = .ok (.sipush 255, 3) := by decide +kernel
theorem dX5_typeOrNothing_14 : decode cX5_typeOrNothing 14 = .ok (.sipush 255, 3) := by decide +kernel
theorem dX5_typeOrNothing_17 : decode cX5_typeOrNothing 17 = .ok (.invokevirtual 45, 3) := by decide +kernel
theorem dX5_typeOrNothing_20 : decode cX5_typeOrNothing 20 = .ok (.goto 8, 3) := by decide +kernel
theorem dX5_typeOrNothing_23 : decode cX5_typeOrNothing 23 = .ok (.aload_n 0, 1) := by decide +kernel
theorem dX5_typeOrNothing_24 : decode cX5_typeOrNothing 24 = .ok (.iload_n 1, 1) := by decide +kernel
theorem dX5_typeOrNothing_25 : decode cX5_typeOrNothing 25 = .ok (.invokevirtual 49, 3) := by decide +kernel
theorem dX5_typeOrNothing_28 : decode cX5_typeOrNothing 28 = .ok (.ireturn, 1) := by decide +kernel
set_option maxRecDepth 20000 in
theorem ggX5_pair_X5_number : GoodIn wsX5_pair wsX5_number := goodIn_r _ [6, 7, 1, 8, 9, 10, 5, 11, 12, 13, 14, 15, 16, 17] (by decide +kernel) (by decide +kernel)
set_option maxRecDepth 20000 in
theorem gX5_pair_X5_number : GoodIn wsX5_pair (wsV RX5 45 RX5 yX5_number wsX5_number) := goodIn_app (goodIn_of _ (by decide +kernel)) ggX5_pair_X5_number
theorem dX5_pair_0 : decode cX5_pair 0 = .ok (.aload_n 0, 1) := by decide +kernel
theorem dX5_pair_1 : decode cX5_pair 1 = .ok (.iload_n 1, 1) := by decide +kernel
theorem dX5_pair_2 : decode cX5_pair 2 = .ok (.bipush 8, 2) := by decide +kernel
theorem dX5_pair_4 : decode cX5_pair 4 = .ok (.ishr, 1) := by decide +kernel
theorem dX5_pair_5 : decode cX5_pair 5 = .ok (.iload_n 2, 1) := by decide +kernel
theorem dX5_pair_6 : decode cX5_pair 6 = .ok (.bipush 8, 2) := by decide +kernel
theorem dX5_pair_8 : decode cX5_pair 8 = .ok (.ishr, 1) := by decide +kernel
theorem dX5_pair_9 : decode cX5_pair 9 = .ok (.invokevirtual 45, 3) := by decide +kernel
theorem dX5_pair_12 : decode cX5_pair 12 = .ok (.istore_n 3, 1) := by decide +kernel
theorem dX5_pair_13 : decode cX5_pair 13 = .ok (.aload_n 0, 1) := by decide +kernel
theorem dX5_pair_14 : decode cX5_pair 14 = .ok (.iload_n 3, 1) := by decide +kernel
theorem dX5_pair_15 : decode cX5_pair 15 = .ok (.iload_n 1, 1) := by decide +kernel
theorem dX5_pair_16 : decode cX5_pair 16 = .ok (.bipush 8, 2) := by decide +kernel
theorem dX5_pair_18 : decode cX5_pair 18 = .ok (.ishr, 1) := by decide +kernel
theorem dX5_pair_19 : decode cX5_pair 19 = .ok (.if_icmp .ne 11, 3) := by decide +kernel
theorem dX5_pair_22 : decode cX5_pair 22 = .ok (.iload_n 1, 1) := by decide +kernel
theorem dX5_pair_23 : decode cX5_pair 23 = .ok (.sipush 255, 3) := by decide +kernel
theorem dX5_pair_26 : decode cX5_pair 26 = .ok (.iand, 1) := by decide +kernel
theorem dX5_pair_27 : decode cX5_pair 27 = .ok (.goto 4, 3) := by decide +kernel
theorem dX5_pair_30 : decode cX5_pair 30 = .ok (.iconst 0, 1) := by decide +kernel
theorem dX5_pair_31 : decode cX5_pair 31 = .ok (.iload_n 3, 1) := by decide +kernel
theorem dX5_pair_32 : decode cX5_pair 32 = .ok (.iload_n 2, 1) := by decide +kernel
theorem dX5_pair_33 : decode cX5_pair 33 = .ok (.bipush 8, 2) := by decide +kernel
theorem dX5_pair_35 : decode cX5_pair 35 = .ok (.ishr, 1) := by decide +kernel
theorem dX5_pair_36 : decode cX5_pair 36 = .ok (.if_icmp .ne 11, 3) := by decide +kernel
theorem dX5_pair_39 : decode cX5_pair 39 = .ok (.iload_n 2, 1) := by decide +kernel
theorem dX5_pair_40 : decode cX5_pair 40 = .ok (.sipush 255, 3) := by decide +kernel
theorem dX5_pair_43 : decode cX5_pair 43 = .ok (.iand, 1) := by decide +kernel
theorem dX5_pair_44 : decode cX5_pair 44 = .ok (.goto 6, 3) := by decide +kernel
theorem dX5_pair_47 : decode cX5_pair 47 = .ok (.sipush 255, 3) := by decide +kernel
theorem dX5_pair_50 : decode cX5_pair 50 = .ok (.invokevirtual 45, 3) := by decide +kernel
theorem dX5_pair_53 : decode cX5_pair 53 = .ok (.istore 4, 2) := by decide +kernel
theorem dX5_pair_55 : decode cX5_pair 55 = .ok (.aload_n 0, 1) := by decide +kernel
theorem dX5_pair_56 : decode cX5_pair 56 = .ok (.getfield 34, 3) := by decide +kernel
theorem dX5_pair_59 : decode cX5_pair 59 = .ok (.ifCond .eq 7, 3) := by decide +kernel
theorem dX5_pair_62 : decode cX5_pair 62 = .ok (.iconst (-1), 1) := by decide +kernel
theorem dX5_pair_63 : decode cX5_pair 63 = .ok (.goto 10, 3) := by decide +kernel
theorem dX5_pair_66 : decode cX5_pair 66 = .ok (.iload_n 3, 1) := by decide +kernel
theorem dX5_pair_67 : decode cX5_pair 67 = .ok (.bipush 8, 2) := by decide +kernel
theorem dX5_pair_69 : decode cX5_pair 69 = .ok (.ishl, 1) := by decide +kernel
theorem dX5_pair_70 : decode cX5_pair 70 = .ok (.iload 4, 2) := by decide +kernel
theorem dX5_pair_72 : decode cX5_pair 72 = .ok (.ior, 1) := by decide +kernel
theorem dX5_pair_73 : decode cX5_pair 73 = .ok (.ireturn, 1) := by decide +kernel
set_option maxRecDepth 20000 in
theorem ggX5_skip_X5_stopAt : GoodIn wsX5_skip wsX5_stopAt := goodIn_r _ [8, 3, 1, 9, 10, 11, 12] (by decide +kernel) (by decide +kernel)
set_option maxRecDepth 20000 in
theorem gX5_skip_X5_stopAt : GoodIn wsX5_skip (wsV RX5 52 RX5 yX5_stopAt wsX5_stopAt) := goodIn_app (goodIn_of _ (by decide +kernel)) ggX5_skip_X5_stopAt
theorem dX5_skip_0 : decode cX5_skip 0 = .ok (.aload_n 0, 1) := by decide +kernel
theorem dX5_skip_1 : decode cX5_skip 1 = .ok (.getfield 34, 3) := by decide +kernel
theorem dX5_skip_4 : decode cX5_skip 4 = .ok (.ifCond .eq 4, 3) := by decide +kernel
theorem dX5_skip_7 : decode cX5_skip 7 = .ok (.return_, 1) := by decide +kernel
theorem dX5_skip_8 : decode cX5_skip 8 = .ok (.iload_n 1, 1) := by decide +kernel
theorem dX5_skip_9 : decode cX5_skip 9 = .ok (.aload_n 0, 1) := by decide +kernel
theorem dX5_skip_10 : decode cX5_skip 10 = .ok (.getfield 28, 3) := by decide +kernel
theorem dX5_skip_13 : decode cX5_skip 13 = .ok (.aload_n 0, 1) := by decide +kernel
theorem dX5_skip_14 : decode cX5_skip 14 = .ok (.getfield 31, 3) := by decide +kernel
theorem dX5_skip_17 : decode cX5_skip 17 = .ok (.isub, 1) := by decide +kernel
theorem dX5_skip_18 : decode cX5_skip 18 = .ok (.if_icmp .le 12, 3) := by decide +kernel
theorem dX5_skip_21 : decode cX5_skip 21 = .ok (.aload_n 0, 1) := by decide +kernel
theorem dX5_skip_22 : decode cX5_skip 22 = .ok (.aload_n 0, 1) := by decide +kernel
theorem dX5_skip_23 : decode cX5_skip 23 = .ok (.getfield 28, 3) := by decide +kernel
theorem dX5_skip_26 : decode cX5_skip 26 = .ok (.invokevirtual 52, 3) := by decide +kernel
theorem dX5_skip_29 : decode cX5_skip 29 = .ok (.return_, 1) := by decide +kernel
theorem dX5_skip_30 : decode cX5_skip 30 = .ok (.aload_n 0, 1) := by decide +kernel
theorem dX5_skip_31 : decode cX5_skip 31 = .ok (.dup, 1) := by decide +kernel
theorem dX5_skip_32 : decode cX5_skip 32 = .ok (.getfield 31, 3) := by decide +kernel
theorem dX5_skip_35 : decode cX5_skip 35 = .ok (.iload_n 1, 1) := by decide +kernel
theorem dX5_skip_36 : decode cX5_skip 36 = .ok (.iadd, 1) := by decide +kernel
theorem dX5_skip_37 : decode cX5_skip 37 = .ok (.putfield 31, 3) := by decide +kernel
theorem dX5_skip_40 : decode cX5_skip 40 = .ok (.return_, 1) := by decide +kernel
theorem dX5_byteAt_0 : decode cX5_byteAt 0 = .ok (.iload_n 1, 1) := by decide +kernel
theorem dX5_byteAt_1 : decode cX5_byteAt 1 = .ok (.iconst 2, 1) := by decide +kernel
theorem dX5_byteAt_2 : decode cX5_byteAt 2 = .ok (.ishr, 1) := by decide +kernel
theorem dX5_byteAt_3 : decode cX5_byteAt 3 = .ok (.istore_n 2, 1) := by decide +kernel
theorem dX5_byteAt_4 : decode cX5_byteAt 4 = .ok (.iload_n 1, 1) := by decide +kernel
theorem dX5_byteAt_5 : decode cX5_byteAt 5 = .ok (.ifCond .lt 20, 3) := by decide +kernel
theorem dX5_byteAt_8 : decode cX5_byteAt 8 = .ok (.iload_n 1, 1) := by decide +kernel
theorem dX5_byteAt_9 : decode cX5_byteAt 9 = .ok (.aload_n 0, 1) := by decide +kernel
theorem dX5_byteAt_10 : decode cX5_byteAt 10 = .ok (.getfield 28, 3) := by decide +kernel
theorem dX5_byteAt_13 : decode cX5_byteAt 13 = .ok (.if_icmp .ge 12, 3) := by decide +kernel
theorem dX5_byteAt_16 : decode cX5_byteAt 16 = .ok (.iload_n 2, 1) := by decide +kernel
theorem dX5_byteAt_17 : decode cX5_byteAt 17 = .ok (.aload_n 0, 1) := by decide +kernel
theorem dX5_byteAt_18 : decode cX5_byteAt 18 = .ok (.getfield 11, 3) := by decide +kernel
theorem dX5_byteAt_21 : decode cX5_byteAt 21 = .ok (.arraylength, 1) := by decide +kernel
theorem dX5_byteAt_22 : decode cX5_byteAt 22 = .ok (.if_icmp .lt 5, 3) := by decide +kernel
theorem dX5_byteAt_25 : decode cX5_byteAt 25 = .ok (.iconst (-1), 1) := by decide +kernel
theorem dX5_byteAt_26 : decode cX5_byteAt 26 = .ok (.ireturn, 1) := by decide +kernel
theorem dX5_byteAt_27 : decode cX5_byteAt 27 = .ok (.aload_n 0, 1) := by decide +kernel
theorem dX5_byteAt_28 : decode cX5_byteAt 28 = .ok (.getfield 11, 3) := by decide +kernel
theorem dX5_byteAt_31 : decode cX5_byteAt 31 = .ok (.iload_n 2, 1) := by decide +kernel
theorem dX5_byteAt_32 : decode cX5_byteAt 32 = .ok (.iaload, 1) := by decide +kernel
theorem dX5_byteAt_33 : decode cX5_byteAt 33 = .ok (.bipush 24, 2) := by decide +kernel
theorem dX5_byteAt_35 : decode cX5_byteAt 35 = .ok (.bipush 8, 2) := by decide +kernel
theorem dX5_byteAt_37 : decode cX5_byteAt 37 = .ok (.iload_n 1, 1) := by decide +kernel
theorem dX5_byteAt_38 : decode cX5_byteAt 38 = .ok (.iconst 3, 1) := by decide +kernel
theorem dX5_byteAt_39 : decode cX5_byteAt 39 = .ok (.iand, 1) := by decide +kernel
theorem dX5_byteAt_40 : decode cX5_byteAt 40 = .ok (.imul, 1) := by decide +kernel
theorem dX5_byteAt_41 : decode cX5_byteAt 41 = .ok (.isub, 1) := by decide +kernel
theorem dX5_byteAt_42 : decode cX5_byteAt 42 = .ok (.iushr, 1) := by decide +kernel
theorem dX5_byteAt_43 : decode cX5_byteAt 43 = .ok (.sipush 255, 3) := by decide +kernel
theorem dX5_byteAt_46 : decode cX5_byteAt 46 = .ok (.iand, 1) := by decide +kernel
theorem dX5_byteAt_47 : decode cX5_byteAt 47 = .ok (.ireturn, 1) := by decide +kernel
set_option maxRecDepth 20000 in
theorem ggX5_valueAt_X5_byteAt : GoodIn wsX5_valueAt wsX5_byteAt := goodIn_r _ [5, 6, 7, 8, 9, 10, 11] (by decide +kernel) (by decide +kernel)
set_option maxRecDepth 20000 in
theorem gX5_valueAt_X5_byteAt : GoodIn wsX5_valueAt (wsV RX5 38 RX5 yX5_byteAt wsX5_byteAt) := goodIn_app (goodIn_of _ (by decide +kernel)) ggX5_valueAt_X5_byteAt
theorem dX5_valueAt_0 : decode cX5_valueAt 0 = .ok (.iconst 0, 1) := by decide +kernel
theorem dX5_valueAt_1 : decode cX5_valueAt 1 = .ok (.istore_n 3, 1) := by decide +kernel
theorem dX5_valueAt_2 : decode cX5_valueAt 2 = .ok (.iconst 0, 1) := by decide +kernel
theorem dX5_valueAt_3 : decode cX5_valueAt 3 = .ok (.istore 4, 2) := by decide +kernel
theorem dX5_valueAt_5 : decode cX5_valueAt 5 = .ok (.iload 4, 2) := by decide +kernel
theorem dX5_valueAt_7 : decode cX5_valueAt 7 = .ok (.iload_n 2, 1) := by decide +kernel
theorem dX5_valueAt_8 : decode cX5_valueAt 8 = .ok (.if_icmp .ge 23, 3) := by decide +kernel
theorem dX5_valueAt_11 : decode cX5_valueAt 11 = .ok (.iload_n 3, 1) := by decide +kernel
theorem dX5_valueAt_12 : decode cX5_valueAt 12 = .ok (.bipush 8, 2) := by decide +kernel
theorem dX5_valueAt_14 : decode cX5_valueAt 14 = .ok (.ishl, 1) := by decide +kernel
theorem dX5_valueAt_15 : decode cX5_valueAt 15 = .ok (.aload_n 0, 1) := by decide +kernel
theorem dX5_valueAt_16 : decode cX5_valueAt 16 = .ok (.iload_n 1, 1) := by decide +kernel
theorem dX5_valueAt_17 : decode cX5_valueAt 17 = .ok (.iload 4, 2) := by decide +kernel
theorem dX5_valueAt_19 : decode cX5_valueAt 19 = .ok (.iadd, 1) := by decide +kernel
theorem dX5_valueAt_20 : decode cX5_valueAt 20 = .ok (.invokevirtual 38, 3) := by decide +kernel
theorem dX5_valueAt_23 : decode cX5_valueAt 23 = .ok (.ior, 1) := by decide +kernel
theorem dX5_valueAt_24 : decode cX5_valueAt 24 = .ok (.istore_n 3, 1) := by decide +kernel
theorem dX5_valueAt_25 : decode cX5_valueAt 25 = .ok (.iinc 4 1, 3) := by decide +kernel
theorem dX5_valueAt_28 : decode cX5_valueAt 28 = .ok (.goto (-23), 3) := by decide +kernel
theorem dX5_valueAt_31 : decode cX5_valueAt 31 = .ok (.iload_n 3, 1) := by decide +kernel
theorem dX5_valueAt_32 : decode cX5_valueAt 32 = .ok (.ireturn, 1) := by decide +kernel
theorem dX6_init_0 : decode cX6_init 0 = .ok (.aload_n 0, 1) := by decide +kernel
theorem dX6_init_1 : decode cX6_init 1 = .ok (.invokespecial 1, 3) := by decide +kernel
theorem dX6_init_4 : decode cX6_init 4 = .ok (.aload_n 0, 1) := by decide +kernel
theorem dX6_init_5 : decode cX6_init 5 = .ok (.sipush 2000, 3) := by decide +kernel
theorem dX6_init_8 : decode cX6_init 8 = .ok (.newarray .int, 2) := by decide +kernel
theorem dX6_init_10 : decode cX6_init 10 = .ok (.putfield 9, 3) := by decide +kernel
theorem dX6_init_13 : decode cX6_init 13 = .ok (.return_, 1) := by decide +kernel
theorem dX6_add_0 : decode cX6_add 0 = .ok (.aload_n 0, 1) := by decide +kernel
theorem dX6_add_1 : decode cX6_add 1 = .ok (.getfield 13, 3) := by decide +kernel
theorem dX6_add_4 : decode cX6_add 4 = .ok (.ifCond .lt 17, 3) := by decide +kernel
theorem dX6_add_7 : decode cX6_add 7 = .ok (.aload_n 0, 1) := by decide +kernel
theorem dX6_add_8 : decode cX6_add 8 = .ok (.getfield 13, 3) := by decide +kernel
theorem dX6_add_11 : decode cX6_add 11 = .ok (.aload_n 0, 1) := by decide +kernel
theorem dX6_add_12 : decode cX6_add 12 = .ok (.getfield 9, 3) := by decide +kernel
theorem dX6_add_15 : decode cX6_add 15 = .ok (.arraylength, 1) := by decide +kernel
theorem dX6_add_16 : decode cX6_add 16 = .ok (.iconst 5, 1) := by decide +kernel
theorem dX6_add_17 : decode cX6_add 17 = .ok (.isub, 1) := by decide +kernel
theorem dX6_add_18 : decode cX6_add 18 = .ok (.if_icmp .le 5, 3) := by decide +kernel
theorem dX6_add_21 : decode cX6_add 21 = .ok (.iconst 0, 1) := by decide +kernel
theorem dX6_add_22 : decode cX6_add 22 = .ok (.ireturn, 1) := by decide +kernel
theorem dX6_add_23 : decode cX6_add 23 = .ok (.aload_n 0, 1) := by decide +kernel
theorem dX6_add_24 : decode cX6_add 24 = .ok (.getfield 9, 3) := by decide +kernel
theorem dX6_add_27 : decode cX6_add 27 = .ok (.aload_n 0, 1) := by decide +kernel
theorem dX6_add_28 : decode cX6_add 28 = .ok (.getfield 13, 3) := by decide +kernel
theorem dX6_add_31 : decode cX6_add 31 = .ok (.iload_n 1, 1) := by decide +kernel
theorem dX6_add_32 : decode cX6_add 32 = .ok (.iastore, 1) := by decide +kernel
theorem dX6_add_33 : decode cX6_add 33 = .ok (.aload_n 0, 1) := by decide +kernel
theorem dX6_add_34 : decode cX6_add 34 = .ok (.getfield 9, 3) := by decide +kernel
theorem dX6_add_37 : decode cX6_add 37 = .ok (.aload_n 0, 1) := by decide +kernel
theorem dX6_add_38 : decode cX6_add 38 = .ok (.getfield 13, 3) := by decide +kernel
theorem dX6_add_41 : decode cX6_add 41 = .ok (.iconst 1, 1) := by decide +kernel
theorem dX6_add_42 : decode cX6_add 42 = .ok (.iadd, 1) := by decide +kernel
theorem dX6_add_43 : decode cX6_add 43 = .ok (.iload_n 2, 1) := by decide +kernel
theorem dX6_add_44 : decode cX6_add 44 = .ok (.iastore, 1) := by decide +kernel
theorem dX6_add_45 : decode cX6_add 45 = .ok (.aload_n 0, 1) := by decide +kernel
theorem dX6_add_46 : decode cX6_add 46 = .ok (.getfield 9, 3) := by decide +kernel
theorem dX6_add_49 : decode cX6_add 49 = .ok (.aload_n 0, 1) := by decide +kernel
theorem dX6_add_50 : decode cX6_add 50 = .ok (.getfield 13, 3) := by decide +kernel
theorem dX6_add_53 : decode cX6_add 53 = .ok (.iconst 2, 1) := by decide +kernel
theorem dX6_add_54 : decode cX6_add 54 = .ok (.iadd, 1) := by decide +kernel
theorem dX6_add_55 : decode cX6_add 55 = .ok (.iload_n 3, 1) := by decide +kernel
theorem dX6_add_56 : decode cX6_add 56 = .ok (.iastore, 1) := by decide +kernel
theorem dX6_add_57 : decode cX6_add 57 = .ok (.aload_n 0, 1) := by decide +kernel
theorem dX6_add_58 : decode cX6_add 58 = .ok (.getfield 9, 3) := by decide +kernel
theorem dX6_add_61 : decode cX6_add 61 = .ok (.aload_n 0, 1) := by decide +kernel
theorem dX6_add_62 : decode cX6_add 62 = .ok (.getfield 13, 3) := by decide +kernel
theorem dX6_add_65 : decode cX6_add 65 = .ok (.iconst 3, 1) := by decide +kernel
theorem dX6_add_66 : decode cX6_add 66 = .ok (.iadd, 1) := by decide +kernel
theorem dX6_add_67 : decode cX6_add 67 = .ok (.iload 4, 2) := by decide +kernel
theorem dX6_add_69 : decode cX6_add 69 = .ok (.iastore, 1) := by decide +kernel
theorem dX6_add_70 : decode cX6_add 70 = .ok (.aload_n 0, 1) := by decide +kernel
theorem dX6_add_71 : decode cX6_add 71 = .ok (.getfield 9, 3) := by decide +kernel
theorem dX6_add_74 : decode cX6_add 74 = .ok (.aload_n 0, 1) := by decide +kernel
theorem dX6_add_75 : decode cX6_add 75 = .ok (.getfield 13, 3) := by decide +kernel
theorem dX6_add_78 : decode cX6_add 78 = .ok (.iconst 4, 1) := by decide +kernel
theorem dX6_add_79 : decode cX6_add 79 = .ok (.iadd, 1) := by decide +kernel
theorem dX6_add_80 : decode cX6_add 80 = .ok (.iload 5, 2) := by decide +kernel
theorem dX6_add_82 : decode cX6_add 82 = .ok (.iastore, 1) := by decide +kernel
theorem dX6_add_83 : decode cX6_add 83 = .ok (.aload_n 0, 1) := by decide +kernel
theorem dX6_add_84 : decode cX6_add 84 = .ok (.dup, 1) := by decide +kernel
theorem dX6_add_85 : decode cX6_add 85 = .ok (.getfield 13, 3) := by decide +kernel
theorem dX6_add_88 : decode cX6_add 88 = .ok (.iconst 5, 1) := by decide +kernel
theorem dX6_add_89 : decode cX6_add 89 = .ok (.iadd, 1) := by decide +kernel
theorem dX6_add_90 : decode cX6_add 90 = .ok (.putfield 13, 3) := by decide +kernel
theorem dX6_add_93 : decode cX6_add 93 = .ok (.iconst 1, 1) := by decide +kernel
theorem dX6_add_94 : decode cX6_add 94 = .ok (.ireturn, 1) := by decide +kernel
theorem dX6_length_0 : decode cX6_length 0 = .ok (.aload_n 0, 1) := by decide +kernel
theorem dX6_length_1 : decode cX6_length 1 = .ok (.getfield 13, 3) := by decide +kernel
theorem dX6_length_4 : decode cX6_length 4 = .ok (.iconst 4, 1) := by decide +kernel
theorem dX6_length_5 : decode cX6_length 5 = .ok (.imul, 1) := by decide +kernel
theorem dX6_length_6 : decode cX6_length 6 = .ok (.ireturn, 1) := by decide +kernel
theorem dX6_exchange_0 : decode cX6_exchange 0 = .ok (.aload_n 0, 1) := by decide +kernel
theorem dX6_exchange_1 : decode cX6_exchange 1 = .ok (.getfield 9, 3) := by decide +kernel
theorem dX6_exchange_4 : decode cX6_exchange 4 = .ok (.astore_n 2, 1) := by decide +kernel
theorem dX6_exchange_5 : decode cX6_exchange 5 = .ok (.aload_n 0, 1) := by decide +kernel
theorem dX6_exchange_6 : decode cX6_exchange 6 = .ok (.aload_n 1, 1) := by decide +kernel
theorem dX6_exchange_7 : decode cX6_exchange 7 = .ok (.putfield 9, 3) := by decide +kernel
theorem dX6_exchange_10 : decode cX6_exchange 10 = .ok (.aload_n 0, 1) := by decide +kernel
theorem dX6_exchange_11 : decode cX6_exchange 11 = .ok (.iconst 0, 1) := by decide +kernel
theorem dX6_exchange_12 : decode cX6_exchange 12 = .ok (.putfield 13, 3) := by decide +kernel
theorem dX6_exchange_15 : decode cX6_exchange 15 = .ok (.aload_n 2, 1) := by decide +kernel
theorem dX6_exchange_16 : decode cX6_exchange 16 = .ok (.areturn, 1) := by decide +kernel
theorem dX6_clear_0 : decode cX6_clear 0 = .ok (.aload_n 0, 1) := by decide +kernel
theorem dX6_clear_1 : decode cX6_clear 1 = .ok (.iconst 0, 1) := by decide +kernel
theorem dX6_clear_2 : decode cX6_clear 2 = .ok (.putfield 13, 3) := by decide +kernel
theorem dX6_clear_5 : decode cX6_clear 5 = .ok (.return_, 1) := by decide +kernel
set_option maxRecDepth 20000 in
theorem ggX7_init_X6_init : GoodIn wsX7_init wsX6_init := goodIn_r _ [21, 22, 2, 3, 23, 24, 68, 69] (by decide +kernel) (by decide +kernel)
set_option maxRecDepth 20000 in
theorem gX7_init_X6_init_n9 : GoodIn wsX7_init (wsX6_init) := ggX7_init_X6_init
set_option maxRecDepth 20000 in
theorem ggX7_init_X5_init : GoodIn wsX7_init wsX5_init := goodIn_r _ [26, 27, 2, 3, 23, 28, 74, 75, 76, 77] (by decide +kernel) (by decide +kernel)
set_option maxRecDepth 20000 in
theorem gX7_init_X5_init_n18 : GoodIn wsX7_init (wsX5_init) := ggX7_init_X5_init
set_option maxRecDepth 20000 in
theorem ggX7_init_X0_init : GoodIn wsX7_init wsX0_init := goodIn_r _ [30, 31, 2, 3, 23, 32, 33, 34, 35, 36, 37, 78, 79, 80, 81, 82, 83, 84] (by decide +kernel) (by decide +kernel)
set_option maxRecDepth 20000 in
theorem gX7_init_X0_init_n25 : GoodIn wsX7_init (wsX0_init) := ggX7_init_X0_init
set_option maxRecDepth 20000 in
theorem ggX7_init_X3_init : GoodIn wsX7_init wsX3_init := goodIn_r _ [39, 40, 2, 3, 41, 23, 42, 43, 44, 45, 46, 47, 48, 49, 50, 51, 52, 53, 54, 55, 56, 57, 58, 59, 60, 61, 62, 63, 64, 65, 66, 67, 85, 86, 87, 88, 89, 90, 91, 92, 93, 94, 95, 96, 97, 98, 99, 100, 101] (by decide +kernel) (by decide +kernel)
set_option maxRecDepth 20000 in
theorem gX7_init_X3_init_n32 : GoodIn wsX7_init (wsX3_init) := ggX7_init_X3_init
theorem dX7_init_0 : decode cX7_init 0 = .ok (.aload_n 0, 1) := by decide +kernel
theorem dX7_init_1 : decode cX7_init 1 = .ok (.invokespecial 1, 3) := by decide +kernel
theorem dX7_init_4 : decode cX7_init 4 = .ok (.aload_n 0, 1) := by decide +kernel
theorem dX7_init_5 : decode cX7_init 5 = .ok (.new 7, 3) := by decide +kernel
theorem dX7_init_8 : decode cX7_init 8 = .ok (.dup, 1) := by decide +kernel
theorem dX7_init_9 : decode cX7_init 9 = .ok (.invokespecial 9, 3) := by decide +kernel
theorem dX7_init_12 : decode cX7_init 12 = .ok (.putfield 10, 3) := by decide +kernel
theorem dX7_init_15 : decode cX7_init 15 = .ok (.aload_n 0, 1) := by decide +kernel
theorem dX7_init_16 : decode cX7_init 16 = .ok (.new 16, 3) := by decide +kernel
theorem dX7_init_19 : decode cX7_init 19 = .ok (.dup, 1) := by decide +kernel
theorem dX7_init_20 : decode cX7_init 20 = .ok (.invokespecial 18, 3) := by decide +kernel
theorem dX7_init_23 : decode cX7_init 23 = .ok (.putfield 19, 3) := by decide +kernel
theorem dX7_init_26 : decode cX7_init 26 = .ok (.aload_n 0, 1) := by decide +kernel
theorem dX7_init_27 : decode cX7_init 27 = .ok (.new 23, 3) := by decide +kernel
theorem dX7_init_30 : decode cX7_init 30 = .ok (.dup, 1) := by decide +kernel
theorem dX7_init_31 : decode cX7_init 31 = .ok (.invokespecial 25, 3) := by decide +kernel
theorem dX7_init_34 : decode cX7_init 34 = .ok (.putfield 26, 3) := by decide +kernel
theorem dX7_init_37 : decode cX7_init 37 = .ok (.aload_n 0, 1) := by decide +kernel
theorem dX7_init_38 : decode cX7_init 38 = .ok (.new 30, 3) := by decide +kernel
theorem dX7_init_41 : decode cX7_init 41 = .ok (.dup, 1) := by decide +kernel
theorem dX7_init_42 : decode cX7_init 42 = .ok (.invokespecial 32, 3) := by decide +kernel
theorem dX7_init_45 : decode cX7_init 45 = .ok (.putfield 33, 3) := by decide +kernel
theorem dX7_init_48 : decode cX7_init 48 = .ok (.return_, 1) := by decide +kernel
set_option maxRecDepth 20000 in
theorem ggX7_feed_X6_add : GoodIn wsX7_feed wsX6_add := goodIn_r _ [6, 7, 8, 17, 18] (by decide +kernel) (by decide +kernel)
set_option maxRecDepth 20000 in
theorem gX7_feed_X6_add : GoodIn wsX7_feed (wsV RX7 37 RX6 yX6_add wsX6_add) := goodIn_app (goodIn_of _ (by decide +kernel)) ggX7_feed_X6_add
set_option maxRecDepth 20000 in
theorem ggX7_feed_X6_length : GoodIn wsX7_feed wsX6_length := goodIn_r _ [12, 7, 17, 18] (by decide +kernel) (by decide +kernel)
set_option maxRecDepth 20000 in
theorem gX7_feed_X6_length : GoodIn wsX7_feed (wsV RX7 41 RX6 yX6_length wsX6_length) := goodIn_app (goodIn_of _ (by decide +kernel)) ggX7_feed_X6_length
theorem dX7_feed_0 : decode cX7_feed 0 = .ok (.aload_n 0, 1) := by decide +kernel
theorem dX7_feed_1 : decode cX7_feed 1 = .ok (.getfield 10, 3) := by decide +kernel
theorem dX7_feed_4 : decode cX7_feed 4 = .ok (.iload_n 1, 1) := by decide +kernel
theorem dX7_feed_5 : decode cX7_feed 5 = .ok (.iload_n 2, 1) := by decide +kernel
theorem dX7_feed_6 : decode cX7_feed 6 = .ok (.iload_n 3, 1) := by decide +kernel
theorem dX7_feed_7 : decode cX7_feed 7 = .ok (.iload 4, 2) := by decide +kernel
theorem dX7_feed_9 : decode cX7_feed 9 = .ok (.iload 5, 2) := by decide +kernel
theorem dX7_feed_11 : decode cX7_feed 11 = .ok (.invokevirtual 37, 3) := by decide +kernel
theorem dX7_feed_14 : decode cX7_feed 14 = .ok (.ifCond .eq 13, 3) := by decide +kernel
theorem dX7_feed_17 : decode cX7_feed 17 = .ok (.aload_n 0, 1) := by decide +kernel
theorem dX7_feed_18 : decode cX7_feed 18 = .ok (.getfield 10, 3) := by decide +kernel
theorem dX7_feed_21 : decode cX7_feed 21 = .ok (.invokevirtual 41, 3) := by decide +kernel
theorem dX7_feed_24 : decode cX7_feed 24 = .ok (.goto 5, 3) := by decide +kernel
theorem dX7_feed_27 : decode cX7_feed 27 = .ok (.bipush (-2), 2) := by decide +kernel
theorem dX7_feed_29 : decode cX7_feed 29 = .ok (.ireturn, 1) := by decide +kernel
set_option maxRecDepth 20000 in
theorem ggX7_end_X5_take : GoodIn wsX7_end wsX5_take := goodIn_r _ [9, 10, 11, 12, 13, 14, 15, 16, 17, 18, 19, 20, 21, 22, 23, 24, 25, 26, 27, 28, 325, 326, 327, 328, 329, 330] (by decide +kernel) (by decide +kernel)
set_option maxRecDepth 20000 in
theorem gX7_end_X5_take : GoodIn wsX7_end (wsV RX7 45 RX5 yX5_take wsX5_take) := goodIn_app (goodIn_of _ (by decide +kernel)) ggX7_end_X5_take
set_option maxRecDepth 20000 in
theorem ggX7_end_X0_read : GoodIn wsX7_end wsX0_read := goodIn_r _ [33, 34, 35, 36, 37, 38, 39, 40, 41, 42, 8, 43, 12, 13, 44, 45, 46, 47, 11, 10, 48, 49, 50, 51, 52, 53, 54, 32, 55, 56, 57, 58, 59, 60, 61, 62, 63, 64, 65, 66, 67, 68, 69, 70, 71, 72, 73, 74, 75, 76, 77, 78, 79, 80, 81, 82, 83, 84, 85, 86, 87, 88, 89, 90, 91, 92, 93, 94, 95, 96, 97, 98, 99, 100, 101, 102, 103, 104, 105, 331, 332, 333, 334, 335, 336, 337, 325, 326, 327, 328] (by decide +kernel) (by decide +kernel)
set_option maxRecDepth 20000 in
theorem gX7_end_X0_read : GoodIn wsX7_end (wsV RX7 49 RX0 yX0_read wsX0_read) := goodIn_app (goodIn_of _ (by decide +kernel)) ggX7_end_X0_read
set_option maxRecDepth 20000 in
theorem ggX7_end_X3_read : GoodIn wsX7_end wsX3_read := goodIn_r _ [110, 111, 35, 36, 37, 112, 113, 114, 115, 116, 117, 118, 109, 119, 120, 121, 122, 123, 124, 125, 126, 127, 128, 129, 130, 131, 132, 41, 42, 8, 43, 12, 13, 44, 45, 46, 47, 11, 10, 133, 49, 50, 51, 134, 135, 136, 32, 137, 38, 138, 139, 140, 141, 142, 143, 144, 145, 146, 58, 59, 60, 61, 62, 63, 64, 65, 147, 148, 149, 150, 151, 152, 95, 96, 97, 153, 154, 155, 156, 157, 158, 159, 160, 161, 162, 163, 164, 165, 166, 167, 168, 169, 170, 103, 104, 105, 171, 172, 173, 174, 175, 176, 177, 178, 179, 180, 181, 182, 183, 184, 185, 186, 187, 188, 189, 190, 191, 192, 193, 194, 195, 196, 197, 198, 199, 200, 201, 202, 203, 204, 205, 206, 207, 208, 209, 210, 211, 212, 213, 75, 76, 77, 70, 78, 79, 80, 81, 214, 215, 216, 217, 218, 87, 88, 89, 72, 219, 220, 221, 222, 223, 224, 225, 226, 227, 228, 229, 230, 231, 232, 233, 234, 235, 236, 237, 238, 239, 240, 338, 339, 340, 341, 342, 343, 344, 345, 346, 347, 348, 349, 350, 351, 352, 325, 326, 327, 328, 331, 332, 333, 334, 335, 336, 337, 353, 354] (by decide +kernel) (by decide +kernel)
set_option maxRecDepth 20000 in
theorem gX7_end_X3_read : GoodIn wsX7_end (wsV RX7 53 RX3 yX3_read wsX3_read) := goodIn_app (goodIn_of _ (by decide +kernel)) ggX7_end_X3_read
set_option maxRecDepth 20000 in
theorem ggX7_end_X5_close : GoodIn wsX7_end wsX5_close := goodIn_r _ [244, 12, 11, 13, 325, 326, 327, 328] (by decide +kernel) (by decide +kernel)
set_option maxRecDepth 20000 in
theorem gX7_end_X5_close : GoodIn wsX7_end (wsV RX7 56 RX5 yX5_close wsX5_close) := goodIn_app (goodIn_of _ (by decide +kernel)) ggX7_end_X5_close
set_option maxRecDepth 20000 in
theorem ggX7_end_X5_stopped : GoodIn wsX7_end wsX5_stopped := goodIn_r _ [51, 13, 325, 326, 327, 328] (by decide +kernel) (by decide +kernel)
set_option maxRecDepth 20000 in
theorem gX7_end_X5_stopped : GoodIn wsX7_end (wsV RX7 59 RX5 yX5_stopped wsX5_stopped) := goodIn_app (goodIn_of _ (by decide +kernel)) ggX7_end_X5_stopped
set_option maxRecDepth 20000 in
theorem ggX7_end_X5_place : GoodIn wsX7_end wsX5_place := goodIn_r _ [105, 12, 325, 326, 327, 328] (by decide +kernel) (by decide +kernel)
set_option maxRecDepth 20000 in
theorem gX7_end_X5_place : GoodIn wsX7_end (wsV RX7 63 RX5 yX5_place wsX5_place) := goodIn_app (goodIn_of _ (by decide +kernel)) ggX7_end_X5_place
set_option maxRecDepth 20000 in
theorem ggX7_end_X3_misfit : GoodIn wsX7_end wsX3_misfit := goodIn_r _ [250, 112, 113, 115, 134, 135, 136, 32, 137, 38, 251, 252, 253, 109, 254, 255, 256, 257, 258, 73, 78, 79, 80, 81, 259, 260, 261, 262, 142, 263, 87, 88, 89, 72, 264, 265, 266, 267, 56, 235, 236, 237, 238, 268, 269, 270, 271, 143, 144, 272, 273, 274, 275, 151, 276, 277, 278, 124, 279, 163, 280, 281, 282, 283, 165, 284, 45, 46, 8, 47, 11, 10, 201, 182, 179, 183, 184, 206, 186, 187, 188, 285, 286, 287, 288, 44, 289, 290, 291, 292, 127, 293, 294, 295, 296, 164, 212, 190, 191, 192, 177, 178, 180, 181, 185, 189, 297, 298, 299, 222, 300, 225, 301, 302, 303, 304, 226, 305, 306, 307, 338, 339, 340, 341, 342, 343, 344, 345, 346, 347, 331, 332, 333, 334, 335, 336, 337, 348, 349, 350, 351, 352, 325, 326, 327, 328, 353, 354] (by decide +kernel) (by decide +kernel)
set_option maxRecDepth 20000 in
theorem gX7_end_X3_misfit : GoodIn wsX7_end (wsV RX7 66 RX3 yX3_misfit wsX3_misfit) := goodIn_app (goodIn_of _ (by decide +kernel)) ggX7_end_X3_misfit
set_option maxRecDepth 20000 in
theorem ggX7_end_X3_instructions : GoodIn wsX7_end wsX3_instructions := goodIn_r _ [311, 113, 312, 313, 314, 124, 315, 126, 338, 339, 340, 341, 342, 343, 344, 345, 346, 347, 348, 349, 350, 351, 352] (by decide +kernel) (by decide +kernel)
set_option maxRecDepth 20000 in
theorem gX7_end_X3_instructions : GoodIn wsX7_end (wsV RX7 70 RX3 yX3_instructions wsX3_instructions) := goodIn_app (goodIn_of _ (by decide +kernel)) ggX7_end_X3_instructions
set_option maxRecDepth 20000 in
theorem ggX7_end_X0_clear : GoodIn wsX7_end wsX0_clear := goodIn_r _ [319, 38, 331, 332, 333, 334, 335, 336, 337] (by decide +kernel) (by decide +kernel)
set_option maxRecDepth 20000 in
theorem gX7_end_X0_clear : GoodIn wsX7_end (wsV RX7 73 RX0 yX0_clear wsX0_clear) := goodIn_app (goodIn_of _ (by decide +kernel)) ggX7_end_X0_clear
set_option maxRecDepth 20000 in
theorem ggX7_end_X3_clear : GoodIn wsX7_end wsX3_clear := goodIn_r _ [119, 112, 120, 113, 121, 122, 123, 124, 125, 126, 127, 128, 129, 130, 131, 338, 339, 340, 341, 342, 343, 344, 345, 346, 347, 348, 349, 350, 351, 352] (by decide +kernel) (by decide +kernel)
set_option maxRecDepth 20000 in
theorem gX7_end_X3_clear : GoodIn wsX7_end (wsV RX7 76 RX3 yX3_clear wsX3_clear) := goodIn_app (goodIn_of _ (by decide +kernel)) ggX7_end_X3_clear
theorem dX7_end_0 : decode cX7_end 0 = .ok (.aload_n 0, 1) := by decide +kernel
theorem dX7_end_1 : decode cX7_end 1 = .ok (.getfield 19, 3) := by decide +kernel
theorem dX7_end_4 : decode cX7_end 4 = .ok (.aload_n 0, 1) := by decide +kernel
theorem dX7_end_5 : decode cX7_end 5 = .ok (.getfield 10, 3) := by decide +kernel
theorem dX7_end_8 : decode cX7_end 8 = .ok (.iload_n 1, 1) := by decide +kernel
theorem dX7_end_9 : decode cX7_end 9 = .ok (.invokevirtual 45, 3) := by decide +kernel
theorem dX7_end_12 : decode cX7_end 12 = .ok (.ifCond .ne 5, 3) := by decide +kernel
theorem dX7_end_15 : decode cX7_end 15 = .ok (.iconst (-1), 1) := by decide +kernel
theorem dX7_end_16 : decode cX7_end 16 = .ok (.ireturn, 1) := by decide +kernel
theorem dX7_end_17 : decode cX7_end 17 = .ok (.aload_n 0, 1) := by decide +kernel
theorem dX7_end_18 : decode cX7_end 18 = .ok (.getfield 26, 3) := by decide +kernel
theorem dX7_end_21 : decode cX7_end 21 = .ok (.aload_n 0, 1) := by decide +kernel
theorem dX7_end_22 : decode cX7_end 22 = .ok (.getfield 19, 3) := by decide +kernel
theorem dX7_end_25 : decode cX7_end 25 = .ok (.invokevirtual 49, 3) := by decide +kernel
theorem dX7_end_28 : decode cX7_end 28 = .ok (.aload_n 0, 1) := by decide +kernel
theorem dX7_end_29 : decode cX7_end 29 = .ok (.getfield 33, 3) := by decide +kernel
theorem dX7_end_32 : decode cX7_end 32 = .ok (.aload_n 0, 1) := by decide +kernel
theorem dX7_end_33 : decode cX7_end 33 = .ok (.getfield 19, 3) := by decide +kernel
theorem dX7_end_36 : decode cX7_end 36 = .ok (.aload_n 0, 1) := by decide +kernel
theorem dX7_end_37 : decode cX7_end 37 = .ok (.getfield 26, 3) := by decide +kernel
theorem dX7_end_40 : decode cX7_end 40 = .ok (.invokevirtual 53, 3) := by decide +kernel
theorem dX7_end_43 : decode cX7_end 43 = .ok (.aload_n 0, 1) := by decide +kernel
theorem dX7_end_44 : decode cX7_end 44 = .ok (.getfield 19, 3) := by decide +kernel
theorem dX7_end_47 : decode cX7_end 47 = .ok (.invokevirtual 56, 3) := by decide +kernel
theorem dX7_end_50 : decode cX7_end 50 = .ok (.aload_n 0, 1) := by decide +kernel
theorem dX7_end_51 : decode cX7_end 51 = .ok (.getfield 19, 3) := by decide +kernel
theorem dX7_end_54 : decode cX7_end 54 = .ok (.invokevirtual 59, 3) := by decide +kernel
theorem dX7_end_57 : decode cX7_end 57 = .ok (.ifCond .eq 13, 3) := by decide +kernel
theorem dX7_end_60 : decode cX7_end 60 = .ok (.aload_n 0, 1) := by decide +kernel
theorem dX7_end_61 : decode cX7_end 61 = .ok (.getfield 19, 3) := by decide +kernel
theorem dX7_end_64 : decode cX7_end 64 = .ok (.invokevirtual 63, 3) := by decide +kernel
theorem dX7_end_67 : decode cX7_end 67 = .ok (.goto 18, 3) := by decide +kernel
theorem dX7_end_70 : decode cX7_end 70 = .ok (.aload_n 0, 1) := by decide +kernel
theorem dX7_end_71 : decode cX7_end 71 = .ok (.getfield 33, 3) := by decide +kernel
theorem dX7_end_74 : decode cX7_end 74 = .ok (.aload_n 0, 1) := by decide +kernel
theorem dX7_end_75 : decode cX7_end 75 = .ok (.getfield 19, 3) := by decide +kernel
theorem dX7_end_78 : decode cX7_end 78 = .ok (.aload_n 0, 1) := by decide +kernel
theorem dX7_end_79 : decode cX7_end 79 = .ok (.getfield 26, 3) := by decide +kernel
theorem dX7_end_82 : decode cX7_end 82 = .ok (.invokevirtual 66, 3) := by decide +kernel
theorem dX7_end_85 : decode cX7_end 85 = .ok (.istore_n 2, 1) := by decide +kernel
theorem dX7_end_86 : decode cX7_end 86 = .ok (.iload_n 2, 1) := by decide +kernel
theorem dX7_end_87 : decode cX7_end 87 = .ok (.iconst (-1), 1) := by decide +kernel
theorem dX7_end_88 : decode cX7_end 88 = .ok (.if_icmp .ne 11, 3) := by decide +kernel
theorem dX7_end_91 : decode cX7_end 91 = .ok (.aload_n 0, 1) := by decide +kernel
theorem dX7_end_92 : decode cX7_end 92 = .ok (.getfield 33, 3) := by decide +kernel
theorem dX7_end_95 : decode cX7_end 95 = .ok (.invokevirtual 70, 3) := by decide +kernel
theorem dX7_end_98 : decode cX7_end 98 = .ok (.ireturn, 1) := by decide +kernel
theorem dX7_end_99 : decode cX7_end 99 = .ok (.aload_n 0, 1) := by decide +kernel
theorem dX7_end_100 : decode cX7_end 100 = .ok (.getfield 26, 3) := by decide +kernel
theorem dX7_end_103 : decode cX7_end 103 = .ok (.invokevirtual 73, 3) := by decide +kernel
theorem dX7_end_106 : decode cX7_end 106 = .ok (.aload_n 0, 1) := by decide +kernel
theorem dX7_end_107 : decode cX7_end 107 = .ok (.getfield 33, 3) := by decide +kernel
theorem dX7_end_110 : decode cX7_end 110 = .ok (.invokevirtual 76, 3) := by decide +kernel
theorem dX7_end_113 : decode cX7_end 113 = .ok (.bipush (-3), 2) := by decide +kernel
theorem dX7_end_115 : decode cX7_end 115 = .ok (.iload_n 2, 1) := by decide +kernel
theorem dX7_end_116 : decode cX7_end 116 = .ok (.isub, 1) := by decide +kernel
theorem dX7_end_117 : decode cX7_end 117 = .ok (.ireturn, 1) := by decide +kernel
set_option maxRecDepth 20000 in
theorem ggX7_count_X0_size : GoodIn wsX7_count wsX0_size := goodIn_r _ [7, 8, 35, 36, 37, 38, 39, 40, 41] (by decide +kernel) (by decide +kernel)
set_option maxRecDepth 20000 in
theorem gX7_count_X0_size : GoodIn wsX7_count (wsV RX7 77 RX0 yX0_size wsX0_size) := goodIn_app (goodIn_of _ (by decide +kernel)) ggX7_count_X0_size
set_option maxRecDepth 20000 in
theorem ggX7_count_X3_size : GoodIn wsX7_count wsX3_size := goodIn_r _ [13, 14, 42, 43, 44, 45, 46, 47, 48, 49, 50, 51] (by decide +kernel) (by decide +kernel)
set_option maxRecDepth 20000 in
theorem gX7_count_X3_size : GoodIn wsX7_count (wsV RX7 80 RX3 yX3_size wsX3_size) := goodIn_app (goodIn_of _ (by decide +kernel)) ggX7_count_X3_size
set_option maxRecDepth 20000 in
theorem ggX7_count_X3_instructions : GoodIn wsX7_count wsX3_instructions := goodIn_r _ [18, 19, 20, 21, 22, 23, 24, 25, 42, 43, 44, 45, 46, 47, 48, 49, 50, 51, 52, 53, 54, 55, 56] (by decide +kernel) (by decide +kernel)
set_option maxRecDepth 20000 in
theorem gX7_count_X3_instructions : GoodIn wsX7_count (wsV RX7 70 RX3 yX3_instructions wsX3_instructions) := goodIn_app (goodIn_of _ (by decide +kernel)) ggX7_count_X3_instructions
set_option maxRecDepth 20000 in
theorem ggX7_count_X3_first : GoodIn wsX7_count wsX3_first := goodIn_r _ [29, 30, 42, 43, 44, 45, 46, 47, 48, 49, 50, 51] (by decide +kernel) (by decide +kernel)
set_option maxRecDepth 20000 in
theorem gX7_count_X3_first : GoodIn wsX7_count (wsV RX7 81 RX3 yX3_first wsX3_first) := goodIn_app (goodIn_of _ (by decide +kernel)) ggX7_count_X3_first
theorem dX7_count_0 : decode cX7_count 0 = .ok (.iload_n 1, 1) := by decide +kernel
theorem dX7_count_1 : decode cX7_count 1 = .ok (.tableswitch 63 0 3 #[31, 39, 47, 55], 31) := by decide +kernel
theorem dX7_count_32 : decode cX7_count 32 = .ok (.aload_n 0, 1) := by decide +kernel
theorem dX7_count_33 : decode cX7_count 33 = .ok (.getfield 26, 3) := by decide +kernel
theorem dX7_count_36 : decode cX7_count 36 = .ok (.invokevirtual 77, 3) := by decide +kernel
theorem dX7_count_39 : decode cX7_count 39 = .ok (.ireturn, 1) := by decide +kernel
theorem dX7_count_40 : decode cX7_count 40 = .ok (.aload_n 0, 1) := by decide +kernel
theorem dX7_count_41 : decode cX7_count 41 = .ok (.getfield 33, 3) := by decide +kernel
theorem dX7_count_44 : decode cX7_count 44 = .ok (.invokevirtual 80, 3) := by decide +kernel
theorem dX7_count_47 : decode cX7_count 47 = .ok (.ireturn, 1) := by decide +kernel
theorem dX7_count_48 : decode cX7_count 48 = .ok (.aload_n 0, 1) := by decide +kernel
theorem dX7_count_49 : decode cX7_count 49 = .ok (.getfield 33, 3) := by decide +kernel
theorem dX7_count_52 : decode cX7_count 52 = .ok (.invokevirtual 70, 3) := by decide +kernel
theorem dX7_count_55 : decode cX7_count 55 = .ok (.ireturn, 1) := by decide +kernel
theorem dX7_count_56 : decode cX7_count 56 = .ok (.aload_n 0, 1) := by decide +kernel
theorem dX7_count_57 : decode cX7_count 57 = .ok (.getfield 33, 3) := by decide +kernel
theorem dX7_count_60 : decode cX7_count 60 = .ok (.invokevirtual 81, 3) := by decide +kernel
theorem dX7_count_63 : decode cX7_count 63 = .ok (.ireturn, 1) := by decide +kernel
theorem dX7_count_64 : decode cX7_count 64 = .ok (.iconst (-1), 1) := by decide +kernel
theorem dX7_count_65 : decode cX7_count 65 = .ok (.ireturn, 1) := by decide +kernel
set_option maxRecDepth 20000 in
theorem ggX7_classOf_X0_upper : GoodIn wsX7_classOf wsX0_upper := goodIn_r _ [6, 7, 8, 9, 10, 5, 11, 12, 33, 34, 35, 36, 37, 38, 39] (by decide +kernel) (by decide +kernel)
set_option maxRecDepth 20000 in
theorem gX7_classOf_X0_upper : GoodIn wsX7_classOf (wsV RX7 84 RX0 yX0_upper wsX0_upper) := goodIn_app (goodIn_of _ (by decide +kernel)) ggX7_classOf_X0_upper
set_option maxRecDepth 20000 in
theorem ggX7_classOf_X0_fields : GoodIn wsX7_classOf wsX0_fields := goodIn_r _ [16, 17, 8, 9, 10, 5, 11, 12, 33, 34, 35, 36, 37, 38, 39] (by decide +kernel) (by decide +kernel)
set_option maxRecDepth 20000 in
theorem gX7_classOf_X0_fields : GoodIn wsX7_classOf (wsV RX7 88 RX0 yX0_fields wsX0_fields) := goodIn_app (goodIn_of _ (by decide +kernel)) ggX7_classOf_X0_fields
set_option maxRecDepth 20000 in
theorem ggX7_classOf_X0_fieldType : GoodIn wsX7_classOf wsX0_fieldType := goodIn_r _ [21, 22, 23, 14, 15, 5, 16, 17, 8, 9, 10, 11, 12, 33, 34, 35, 36, 37, 38, 39] (by decide +kernel) (by decide +kernel)
set_option maxRecDepth 20000 in
theorem gX7_classOf_X0_fieldType : GoodIn wsX7_classOf (wsV RX7 91 RX0 yX0_fieldType wsX0_fieldType) := goodIn_app (goodIn_of _ (by decide +kernel)) ggX7_classOf_X0_fieldType
set_option maxRecDepth 20000 in
theorem ggX7_classOf_X0_slotMethod : GoodIn wsX7_classOf wsX0_slotMethod := goodIn_r _ [27, 28, 8, 9, 10, 5, 11, 12, 33, 34, 35, 36, 37, 38, 39] (by decide +kernel) (by decide +kernel)
set_option maxRecDepth 20000 in
theorem gX7_classOf_X0_slotMethod : GoodIn wsX7_classOf (wsV RX7 95 RX0 yX0_slotMethod wsX0_slotMethod) := goodIn_app (goodIn_of _ (by decide +kernel)) ggX7_classOf_X0_slotMethod
theorem dX7_classOf_0 : decode cX7_classOf 0 = .ok (.iload_n 2, 1) := by decide +kernel
theorem dX7_classOf_1 : decode cX7_classOf 1 = .ok (.tableswitch 69 0 3 #[31, 40, 49, 59], 31) := by decide +kernel
theorem dX7_classOf_32 : decode cX7_classOf 32 = .ok (.aload_n 0, 1) := by decide +kernel
theorem dX7_classOf_33 : decode cX7_classOf 33 = .ok (.getfield 26, 3) := by decide +kernel
theorem dX7_classOf_36 : decode cX7_classOf 36 = .ok (.iload_n 1, 1) := by decide +kernel
theorem dX7_classOf_37 : decode cX7_classOf 37 = .ok (.invokevirtual 84, 3) := by decide +kernel
theorem dX7_classOf_40 : decode cX7_classOf 40 = .ok (.ireturn, 1) := by decide +kernel
theorem dX7_classOf_41 : decode cX7_classOf 41 = .ok (.aload_n 0, 1) := by decide +kernel
theorem dX7_classOf_42 : decode cX7_classOf 42 = .ok (.getfield 26, 3) := by decide +kernel
theorem dX7_classOf_45 : decode cX7_classOf 45 = .ok (.iload_n 1, 1) := by decide +kernel
theorem dX7_classOf_46 : decode cX7_classOf 46 = .ok (.invokevirtual 88, 3) := by decide +kernel
theorem dX7_classOf_49 : decode cX7_classOf 49 = .ok (.ireturn, 1) := by decide +kernel
theorem dX7_classOf_50 : decode cX7_classOf 50 = .ok (.aload_n 0, 1) := by decide +kernel
theorem dX7_classOf_51 : decode cX7_classOf 51 = .ok (.getfield 26, 3) := by decide +kernel
theorem dX7_classOf_54 : decode cX7_classOf 54 = .ok (.iload_n 1, 1) := by decide +kernel
theorem dX7_classOf_55 : decode cX7_classOf 55 = .ok (.iload_n 3, 1) := by decide +kernel
theorem dX7_classOf_56 : decode cX7_classOf 56 = .ok (.invokevirtual 91, 3) := by decide +kernel
theorem dX7_classOf_59 : decode cX7_classOf 59 = .ok (.ireturn, 1) := by decide +kernel
theorem dX7_classOf_60 : decode cX7_classOf 60 = .ok (.aload_n 0, 1) := by decide +kernel
theorem dX7_classOf_61 : decode cX7_classOf 61 = .ok (.getfield 26, 3) := by decide +kernel
theorem dX7_classOf_64 : decode cX7_classOf 64 = .ok (.iload_n 1, 1) := by decide +kernel
theorem dX7_classOf_65 : decode cX7_classOf 65 = .ok (.iload_n 3, 1) := by decide +kernel
theorem dX7_classOf_66 : decode cX7_classOf 66 = .ok (.invokevirtual 95, 3) := by decide +kernel
theorem dX7_classOf_69 : decode cX7_classOf 69 = .ok (.ireturn, 1) := by decide +kernel
theorem dX7_classOf_70 : decode cX7_classOf 70 = .ok (.iconst (-1), 1) := by decide +kernel
theorem dX7_classOf_71 : decode cX7_classOf 71 = .ok (.ireturn, 1) := by decide +kernel
set_option maxRecDepth 20000 in
theorem ggX7_isA_X0_reaches : GoodIn wsX7_isA wsX0_reaches := goodIn_r _ [6, 7, 8, 9, 10, 5, 11, 12, 17, 18, 19, 20, 21, 22, 23] (by decide +kernel) (by decide +kernel)
set_option maxRecDepth 20000 in
theorem gX7_isA_X0_reaches : GoodIn wsX7_isA (wsV RX7 98 RX0 yX0_reaches wsX0_reaches) := goodIn_app (goodIn_of _ (by decide +kernel)) ggX7_isA_X0_reaches
theorem dX7_isA_0 : decode cX7_isA 0 = .ok (.aload_n 0, 1) := by decide +kernel
theorem dX7_isA_1 : decode cX7_isA 1 = .ok (.getfield 26, 3) := by decide +kernel
theorem dX7_isA_4 : decode cX7_isA 4 = .ok (.iload_n 1, 1) := by decide +kernel
theorem dX7_isA_5 : decode cX7_isA 5 = .ok (.iload_n 2, 1) := by decide +kernel
theorem dX7_isA_6 : decode cX7_isA 6 = .ok (.invokevirtual 98, 3) := by decide +kernel
theorem dX7_isA_9 : decode cX7_isA 9 = .ok (.ireturn, 1) := by decide +kernel
set_option maxRecDepth 20000 in
theorem ggX7_method_X3_fact : GoodIn wsX7_method wsX3_fact := goodIn_r _ [7, 8, 9, 10, 11, 12, 13, 14, 15, 16, 17, 6, 18, 19, 20, 21, 22, 23, 24, 25, 26, 27, 28, 29, 30, 31, 32, 33, 34, 35, 36, 37, 38, 39, 40, 41, 42, 43, 44, 45, 46, 47, 48, 49, 50, 51, 52, 53, 54, 55, 56, 57, 58, 59, 60, 61, 62, 63, 64, 65, 66, 67, 68, 69, 70, 75, 76, 77, 78, 79, 80, 81, 82, 83, 84, 85, 86, 87, 88, 89, 90, 91, 92, 93, 94, 95] (by decide +kernel) (by decide +kernel)
set_option maxRecDepth 20000 in
theorem gX7_method_X3_fact : GoodIn wsX7_method (wsV RX7 102 RX3 yX3_fact wsX3_fact) := goodIn_app (goodIn_of _ (by decide +kernel)) ggX7_method_X3_fact
theorem dX7_method_0 : decode cX7_method 0 = .ok (.aload_n 0, 1) := by decide +kernel
theorem dX7_method_1 : decode cX7_method 1 = .ok (.getfield 33, 3) := by decide +kernel
theorem dX7_method_4 : decode cX7_method 4 = .ok (.aload_n 0, 1) := by decide +kernel
theorem dX7_method_5 : decode cX7_method 5 = .ok (.getfield 19, 3) := by decide +kernel
theorem dX7_method_8 : decode cX7_method 8 = .ok (.iload_n 1, 1) := by decide +kernel
theorem dX7_method_9 : decode cX7_method 9 = .ok (.iload_n 2, 1) := by decide +kernel
theorem dX7_method_10 : decode cX7_method 10 = .ok (.iload_n 3, 1) := by decide +kernel
theorem dX7_method_11 : decode cX7_method 11 = .ok (.invokevirtual 102, 3) := by decide +kernel
theorem dX7_method_14 : decode cX7_method 14 = .ok (.ireturn, 1) := by decide +kernel
set_option maxRecDepth 20000 in
theorem ggX7_handler_X3_handlerFact : GoodIn wsX7_handler wsX3_handlerFact := goodIn_r _ [7, 8, 9, 10, 11, 6, 12, 13, 14, 15, 16, 17, 18, 19, 20, 21, 22, 23, 24, 25, 26, 27, 28, 29, 30, 31, 32, 33, 34, 35, 36, 41, 42, 43, 44, 45, 46, 47, 48, 49, 50, 51, 52, 53, 54, 55, 56] (by decide +kernel) (by decide +kernel)
set_option maxRecDepth 20000 in
theorem gX7_handler_X3_handlerFact : GoodIn wsX7_handler (wsV RX7 106 RX3 yX3_handlerFact wsX3_handlerFact) := goodIn_app (goodIn_of _ (by decide +kernel)) ggX7_handler_X3_handlerFact
theorem dX7_handler_0 : decode cX7_handler 0 = .ok (.aload_n 0, 1) := by decide +kernel
theorem dX7_handler_1 : decode cX7_handler 1 = .ok (.getfield 33, 3) := by decide +kernel
theorem dX7_handler_4 : decode cX7_handler 4 = .ok (.aload_n 0, 1) := by decide +kernel
theorem dX7_handler_5 : decode cX7_handler 5 = .ok (.getfield 19, 3) := by decide +kernel
theorem dX7_handler_8 : decode cX7_handler 8 = .ok (.iload_n 1, 1) := by decide +kernel
theorem dX7_handler_9 : decode cX7_handler 9 = .ok (.iload_n 2, 1) := by decide +kernel
theorem dX7_handler_10 : decode cX7_handler 10 = .ok (.iload_n 3, 1) := by decide +kernel
theorem dX7_handler_11 : decode cX7_handler 11 = .ok (.invokevirtual 106, 3) := by decide +kernel
theorem dX7_handler_14 : decode cX7_handler 14 = .ok (.ireturn, 1) := by decide +kernel
set_option maxRecDepth 20000 in
theorem ggX7_instruction_X3_instructionFact : GoodIn wsX7_instruction wsX3_instructionFact := goodIn_r _ [7, 8, 9, 10, 11, 6, 12, 13, 14, 15, 16, 17, 18, 19, 20, 21, 22, 23, 24, 25, 26, 27, 28, 29, 30, 31, 32, 33, 34, 35, 36, 37, 38, 39, 40, 41, 42, 43, 44, 45, 46, 47, 48, 49, 50, 51, 52, 53, 54, 55, 56, 57, 58, 59, 60, 65, 66, 67, 68, 69, 70, 71, 72, 73, 74, 75, 76, 77, 78, 79, 80, 81, 82, 83] (by decide +kernel) (by decide +kernel)
set_option maxRecDepth 20000 in
theorem gX7_instruction_X3_instructionFact : GoodIn wsX7_instruction (wsV RX7 109 RX3 yX3_instructionFact wsX3_instructionFact) := goodIn_app (goodIn_of _ (by decide +kernel)) ggX7_instruction_X3_instructionFact
theorem dX7_instruction_0 : decode cX7_instruction 0 = .ok (.aload_n 0, 1) := by decide +kernel
theorem dX7_instruction_1 : decode cX7_instruction 1 = .ok (.getfield 33, 3) := by decide +kernel
theorem dX7_instruction_4 : decode cX7_instruction 4 = .ok (.aload_n 0, 1) := by decide +kernel
theorem dX7_instruction_5 : decode cX7_instruction 5 = .ok (.getfield 19, 3) := by decide +kernel
theorem dX7_instruction_8 : decode cX7_instruction 8 = .ok (.iload_n 1, 1) := by decide +kernel
theorem dX7_instruction_9 : decode cX7_instruction 9 = .ok (.iload_n 2, 1) := by decide +kernel
theorem dX7_instruction_10 : decode cX7_instruction 10 = .ok (.iload_n 3, 1) := by decide +kernel
theorem dX7_instruction_11 : decode cX7_instruction 11 = .ok (.invokevirtual 109, 3) := by decide +kernel
theorem dX7_instruction_14 : decode cX7_instruction 14 = .ok (.ireturn, 1) := by decide +kernel
set_option maxRecDepth 20000 in
theorem ggX7_thrown_X0_fault : GoodIn wsX7_thrown wsX0_fault := goodIn_r _ [6, 7, 8, 13, 14, 15, 16, 17, 18, 19] (by decide +kernel) (by decide +kernel)
set_option maxRecDepth 20000 in
theorem gX7_thrown_X0_fault : GoodIn wsX7_thrown (wsV RX7 112 RX0 yX0_fault wsX0_fault) := goodIn_app (goodIn_of _ (by decide +kernel)) ggX7_thrown_X0_fault
theorem dX7_thrown_0 : decode cX7_thrown 0 = .ok (.aload_n 0, 1) := by decide +kernel
theorem dX7_thrown_1 : decode cX7_thrown 1 = .ok (.getfield 26, 3) := by decide +kernel
theorem dX7_thrown_4 : decode cX7_thrown 4 = .ok (.iload_n 1, 1) := by decide +kernel
theorem dX7_thrown_5 : decode cX7_thrown 5 = .ok (.invokevirtual 112, 3) := by decide +kernel
theorem dX7_thrown_8 : decode cX7_thrown 8 = .ok (.ireturn, 1) := by decide +kernel
