theorem dX6_inRange_0 : decode cX6_inRange 0 = .ok (.iload_n 0, 1) := by decide +kernel
theorem dX6_inRange_1 : decode cX6_inRange 1 = .ok (.bipush 50, 2) := by decide +kernel
theorem dX6_inRange_3 : decode cX6_inRange 3 = .ok (.if_icmp .lt 34, 3) := by decide +kernel
theorem dX6_inRange_6 : decode cX6_inRange 6 = .ok (.iload_n 0, 1) := by decide +kernel
theorem dX6_inRange_7 : decode cX6_inRange 7 = .ok (.sipush 300, 3) := by decide +kernel
theorem dX6_inRange_10 : decode cX6_inRange 10 = .ok (.if_icmp .gt 27, 3) := by decide +kernel
theorem dX6_inRange_13 : decode cX6_inRange 13 = .ok (.iload_n 1, 1) := by decide +kernel
theorem dX6_inRange_14 : decode cX6_inRange 14 = .ok (.ifCond .lt 23, 3) := by decide +kernel
theorem dX6_inRange_17 : decode cX6_inRange 17 = .ok (.iload_n 1, 1) := by decide +kernel
theorem dX6_inRange_18 : decode cX6_inRange 18 = .ok (.bipush 100, 2) := by decide +kernel
theorem dX6_inRange_20 : decode cX6_inRange 20 = .ok (.if_icmp .gt 17, 3) := by decide +kernel
theorem dX6_inRange_23 : decode cX6_inRange 23 = .ok (.iload_n 2, 1) := by decide +kernel
theorem dX6_inRange_24 : decode cX6_inRange 24 = .ok (.ifCond .lt 13, 3) := by decide +kernel
theorem dX6_inRange_27 : decode cX6_inRange 27 = .ok (.iload_n 2, 1) := by decide +kernel
theorem dX6_inRange_28 : decode cX6_inRange 28 = .ok (.bipush 9, 2) := by decide +kernel
theorem dX6_inRange_30 : decode cX6_inRange 30 = .ok (.if_icmp .gt 7, 3) := by decide +kernel
theorem dX6_inRange_33 : decode cX6_inRange 33 = .ok (.iconst 1, 1) := by decide +kernel
theorem dX6_inRange_34 : decode cX6_inRange 34 = .ok (.goto 4, 3) := by decide +kernel
theorem dX6_inRange_37 : decode cX6_inRange 37 = .ok (.iconst 0, 1) := by decide +kernel
theorem dX6_inRange_38 : decode cX6_inRange 38 = .ok (.ireturn, 1) := by decide +kernel
theorem dX6_of_0 : decode cX6_of 0 = .ok (.iload_n 0, 1) := by decide +kernel
theorem dX6_of_1 : decode cX6_of 1 = .ok (.bipush 101, 2) := by decide +kernel
theorem dX6_of_3 : decode cX6_of 3 = .ok (.imul, 1) := by decide +kernel
theorem dX6_of_4 : decode cX6_of 4 = .ok (.iload_n 1, 1) := by decide +kernel
theorem dX6_of_5 : decode cX6_of 5 = .ok (.iadd, 1) := by decide +kernel
theorem dX6_of_6 : decode cX6_of 6 = .ok (.bipush 10, 2) := by decide +kernel
theorem dX6_of_8 : decode cX6_of 8 = .ok (.imul, 1) := by decide +kernel
theorem dX6_of_9 : decode cX6_of 9 = .ok (.iload_n 2, 1) := by decide +kernel
theorem dX6_of_10 : decode cX6_of 10 = .ok (.iadd, 1) := by decide +kernel
theorem dX6_of_11 : decode cX6_of 11 = .ok (.ireturn, 1) := by decide +kernel
theorem dX6_weight_0 : decode cX6_weight 0 = .ok (.iload_n 0, 1) := by decide +kernel
theorem dX6_weight_1 : decode cX6_weight 1 = .ok (.sipush 1010, 3) := by decide +kernel
theorem dX6_weight_4 : decode cX6_weight 4 = .ok (.idiv, 1) := by decide +kernel
theorem dX6_weight_5 : decode cX6_weight 5 = .ok (.ireturn, 1) := by decide +kernel
theorem dX6_red_0 : decode cX6_red 0 = .ok (.iload_n 0, 1) := by decide +kernel
theorem dX6_red_1 : decode cX6_red 1 = .ok (.bipush 10, 2) := by decide +kernel
theorem dX6_red_3 : decode cX6_red 3 = .ok (.idiv, 1) := by decide +kernel
theorem dX6_red_4 : decode cX6_red 4 = .ok (.bipush 101, 2) := by decide +kernel
theorem dX6_red_6 : decode cX6_red 6 = .ok (.irem, 1) := by decide +kernel
theorem dX6_red_7 : decode cX6_red 7 = .ok (.ireturn, 1) := by decide +kernel
theorem dX6_bruise_0 : decode cX6_bruise 0 = .ok (.iload_n 0, 1) := by decide +kernel
theorem dX6_bruise_1 : decode cX6_bruise 1 = .ok (.bipush 10, 2) := by decide +kernel
theorem dX6_bruise_3 : decode cX6_bruise 3 = .ok (.irem, 1) := by decide +kernel
theorem dX6_bruise_4 : decode cX6_bruise 4 = .ok (.ireturn, 1) := by decide +kernel
set_option maxRecDepth 20000 in
theorem ggX6_shortOf_X6_weight : GoodIn wsX6_shortOf wsX6_weight := goodIn_r _ [4] (by decide +kernel) (by decide +kernel)
set_option maxRecDepth 20000 in
theorem gX6_shortOf_X6_weight : GoodIn wsX6_shortOf (va_wsS RX6 11 yX6_weight wsX6_weight) := goodIn_app (goodIn_of _ (by decide +kernel)) ggX6_shortOf_X6_weight
set_option maxRecDepth 20000 in
theorem ggX6_shortOf_X6_red : GoodIn wsX6_shortOf wsX6_red := goodIn_r _ [7] (by decide +kernel) (by decide +kernel)
set_option maxRecDepth 20000 in
theorem gX6_shortOf_X6_red : GoodIn wsX6_shortOf (va_wsS RX6 15 yX6_red wsX6_red) := goodIn_app (goodIn_of _ (by decide +kernel)) ggX6_shortOf_X6_red
set_option maxRecDepth 20000 in
theorem ggX6_shortOf_X6_bruise : GoodIn wsX6_shortOf wsX6_bruise := goodIn_r _ [10] (by decide +kernel) (by decide +kernel)
set_option maxRecDepth 20000 in
theorem gX6_shortOf_X6_bruise : GoodIn wsX6_shortOf (va_wsS RX6 18 yX6_bruise wsX6_bruise) := goodIn_app (goodIn_of _ (by decide +kernel)) ggX6_shortOf_X6_bruise
theorem dX6_shortOf_0 : decode cX6_shortOf 0 = .ok (.iconst 0, 1) := by decide +kernel
theorem dX6_shortOf_1 : decode cX6_shortOf 1 = .ok (.istore_n 2, 1) := by decide +kernel
theorem dX6_shortOf_2 : decode cX6_shortOf 2 = .ok (.iload_n 1, 1) := by decide +kernel
theorem dX6_shortOf_3 : decode cX6_shortOf 3 = .ok (.invokestatic 11, 3) := by decide +kernel
theorem dX6_shortOf_6 : decode cX6_shortOf 6 = .ok (.iload_n 0, 1) := by decide +kernel
theorem dX6_shortOf_7 : decode cX6_shortOf 7 = .ok (.invokestatic 11, 3) := by decide +kernel
theorem dX6_shortOf_10 : decode cX6_shortOf 10 = .ok (.if_icmp .ge 6, 3) := by decide +kernel
theorem dX6_shortOf_13 : decode cX6_shortOf 13 = .ok (.iinc 2 1, 3) := by decide +kernel
theorem dX6_shortOf_16 : decode cX6_shortOf 16 = .ok (.iload_n 1, 1) := by decide +kernel
theorem dX6_shortOf_17 : decode cX6_shortOf 17 = .ok (.invokestatic 15, 3) := by decide +kernel
theorem dX6_shortOf_20 : decode cX6_shortOf 20 = .ok (.iload_n 0, 1) := by decide +kernel
theorem dX6_shortOf_21 : decode cX6_shortOf 21 = .ok (.invokestatic 15, 3) := by decide +kernel
theorem dX6_shortOf_24 : decode cX6_shortOf 24 = .ok (.if_icmp .ge 6, 3) := by decide +kernel
theorem dX6_shortOf_27 : decode cX6_shortOf 27 = .ok (.iinc 2 2, 3) := by decide +kernel
theorem dX6_shortOf_30 : decode cX6_shortOf 30 = .ok (.iload_n 1, 1) := by decide +kernel
theorem dX6_shortOf_31 : decode cX6_shortOf 31 = .ok (.invokestatic 18, 3) := by decide +kernel
theorem dX6_shortOf_34 : decode cX6_shortOf 34 = .ok (.iload_n 0, 1) := by decide +kernel
theorem dX6_shortOf_35 : decode cX6_shortOf 35 = .ok (.invokestatic 18, 3) := by decide +kernel
theorem dX6_shortOf_38 : decode cX6_shortOf 38 = .ok (.if_icmp .le 6, 3) := by decide +kernel
theorem dX6_shortOf_41 : decode cX6_shortOf 41 = .ok (.iinc 2 4, 3) := by decide +kernel
theorem dX6_shortOf_44 : decode cX6_shortOf 44 = .ok (.iload_n 2, 1) := by decide +kernel
theorem dX6_shortOf_45 : decode cX6_shortOf 45 = .ok (.ireturn, 1) := by decide +kernel
set_option maxRecDepth 20000 in
theorem ggX7_init_X5_init : GoodIn wsX7_init wsX5_init := goodIn_r _ [20, 21, 2, 3, 22, 23, 24, 25, 26, 27, 28, 29, 30, 31, 32, 33, 34, 35, 36, 37, 38, 39, 40, 41, 42, 43, 44, 45, 46, 47, 48, 49, 50, 51, 52, 53, 54, 55, 56, 57, 58, 59, 60, 61, 109, 110, 111, 81, 82, 83, 84, 85, 86, 87, 88, 89, 90, 91, 112, 113, 114, 115, 116] (by decide +kernel) (by decide +kernel)
set_option maxRecDepth 20000 in
theorem gX7_init_X5_init_n9 : GoodIn wsX7_init (wsX5_init) := ggX7_init_X5_init
set_option maxRecDepth 20000 in
theorem ggX7_init_X3_init : GoodIn wsX7_init wsX3_init := goodIn_r _ [64, 65, 2, 3, 66, 67, 68, 69, 5, 6, 19, 20, 21, 22, 23, 24, 25, 26, 27, 28, 29, 30, 31, 32, 33, 34, 35, 36, 37, 38, 39, 40, 41, 42, 43, 44, 45, 46, 47, 48, 49, 50, 51, 52, 53, 54, 55, 56, 57, 58, 59, 60, 61, 98, 99, 100, 81, 82, 83, 84, 85, 86, 87, 88, 89, 90, 91, 109, 110, 111, 112, 113, 114, 115, 116] (by decide +kernel) (by decide +kernel)
set_option maxRecDepth 20000 in
theorem gX7_init_X3_init : GoodIn wsX7_init (wsX3_init) := ggX7_init_X3_init
set_option maxRecDepth 20000 in
theorem ggX7_init_X4_init : GoodIn wsX7_init wsX4_init := goodIn_r _ [71, 72, 2, 3, 34, 73, 74, 75, 76, 77, 78, 79, 80, 101, 102, 103, 104, 105, 106, 107, 108] (by decide +kernel) (by decide +kernel)
set_option maxRecDepth 20000 in
theorem gX7_init_X4_init_n31 : GoodIn wsX7_init (wsX4_init) := ggX7_init_X4_init
theorem dX7_init_0 : decode cX7_init 0 = .ok (.aload_n 0, 1) := by decide +kernel
theorem dX7_init_1 : decode cX7_init 1 = .ok (.invokespecial 1, 3) := by decide +kernel
theorem dX7_init_4 : decode cX7_init 4 = .ok (.aload_n 0, 1) := by decide +kernel
theorem dX7_init_5 : decode cX7_init 5 = .ok (.new 7, 3) := by decide +kernel
theorem dX7_init_8 : decode cX7_init 8 = .ok (.dup, 1) := by decide +kernel
theorem dX7_init_9 : decode cX7_init 9 = .ok (.invokespecial 9, 3) := by decide +kernel
theorem dX7_init_12 : decode cX7_init 12 = .ok (.putfield 10, 3) := by decide +kernel
theorem dX7_init_15 : decode cX7_init 15 = .ok (.aload_n 0, 1) := by decide +kernel
theorem dX7_init_16 : decode cX7_init 16 = .ok (.new 7, 3) := by decide +kernel
theorem dX7_init_19 : decode cX7_init 19 = .ok (.dup, 1) := by decide +kernel
theorem dX7_init_20 : decode cX7_init 20 = .ok (.invokespecial 9, 3) := by decide +kernel
theorem dX7_init_23 : decode cX7_init 23 = .ok (.putfield 16, 3) := by decide +kernel
theorem dX7_init_26 : decode cX7_init 26 = .ok (.aload_n 0, 1) := by decide +kernel
theorem dX7_init_27 : decode cX7_init 27 = .ok (.new 7, 3) := by decide +kernel
theorem dX7_init_30 : decode cX7_init 30 = .ok (.dup, 1) := by decide +kernel
theorem dX7_init_31 : decode cX7_init 31 = .ok (.invokespecial 9, 3) := by decide +kernel
theorem dX7_init_34 : decode cX7_init 34 = .ok (.putfield 19, 3) := by decide +kernel
theorem dX7_init_37 : decode cX7_init 37 = .ok (.aload_n 0, 1) := by decide +kernel
theorem dX7_init_38 : decode cX7_init 38 = .ok (.new 22, 3) := by decide +kernel
theorem dX7_init_41 : decode cX7_init 41 = .ok (.dup, 1) := by decide +kernel
theorem dX7_init_42 : decode cX7_init 42 = .ok (.invokespecial 24, 3) := by decide +kernel
theorem dX7_init_45 : decode cX7_init 45 = .ok (.putfield 25, 3) := by decide +kernel
theorem dX7_init_48 : decode cX7_init 48 = .ok (.aload_n 0, 1) := by decide +kernel
theorem dX7_init_49 : decode cX7_init 49 = .ok (.new 29, 3) := by decide +kernel
theorem dX7_init_52 : decode cX7_init 52 = .ok (.dup, 1) := by decide +kernel
theorem dX7_init_53 : decode cX7_init 53 = .ok (.invokespecial 31, 3) := by decide +kernel
theorem dX7_init_56 : decode cX7_init 56 = .ok (.putfield 32, 3) := by decide +kernel
theorem dX7_init_59 : decode cX7_init 59 = .ok (.aload_n 0, 1) := by decide +kernel
theorem dX7_init_60 : decode cX7_init 60 = .ok (.iconst 0, 1) := by decide +kernel
theorem dX7_init_61 : decode cX7_init 61 = .ok (.putfield 36, 3) := by decide +kernel
theorem dX7_init_64 : decode cX7_init 64 = .ok (.return_, 1) := by decide +kernel
set_option maxRecDepth 20000 in
theorem ggX7_lay_X6_inRange : GoodIn wsX7_lay wsX6_inRange := goodIn_r _ [8] (by decide +kernel) (by decide +kernel)
set_option maxRecDepth 20000 in
theorem gX7_lay_X6_inRange : GoodIn wsX7_lay (va_wsS RX7 40 yX6_inRange wsX6_inRange) := goodIn_app (goodIn_of _ (by decide +kernel)) ggX7_lay_X6_inRange
set_option maxRecDepth 20000 in
theorem ggX7_lay_X3_keep : GoodIn wsX7_lay wsX3_keep := goodIn_r _ [13, 14, 15, 16, 17, 18, 19, 20, 21, 22, 23, 24, 25, 26, 27, 28, 29, 30, 31, 32, 33, 34, 35, 36, 37, 38, 39, 40, 41, 42, 43, 44, 45, 46, 47, 48, 49, 50, 51, 52, 53, 54, 55, 56, 57, 58, 59, 60, 61, 62, 94, 95, 96, 80, 81, 82, 83, 84, 85, 86, 87, 88, 89, 90, 97, 98, 99, 91, 92, 93, 100, 101] (by decide +kernel) (by decide +kernel)
set_option maxRecDepth 20000 in
theorem gX7_lay_X3_keep : GoodIn wsX7_lay (wsV RX7 56 RX3 yX3_keep wsX3_keep) := goodIn_app (goodIn_of _ (by decide +kernel)) ggX7_lay_X3_keep
set_option maxRecDepth 20000 in
theorem ggX7_lay_X6_of : GoodIn wsX7_lay wsX6_of := goodIn_r _ [65] (by decide +kernel) (by decide +kernel)
set_option maxRecDepth 20000 in
theorem gX7_lay_X6_of : GoodIn wsX7_lay (va_wsS RX7 60 yX6_of wsX6_of) := goodIn_app (goodIn_of _ (by decide +kernel)) ggX7_lay_X6_of
set_option maxRecDepth 20000 in
theorem ggX7_lay_X5_layApple : GoodIn wsX7_lay wsX5_layApple := goodIn_r _ [69, 23, 32, 70, 71, 72, 49, 73, 51, 54, 80, 81, 82, 83, 84, 85, 86, 87, 88, 89, 90, 91, 92, 93] (by decide +kernel) (by decide +kernel)
set_option maxRecDepth 20000 in
theorem gX7_lay_X5_layApple : GoodIn wsX7_lay (wsV RX7 64 RX5 yX5_layApple wsX5_layApple) := goodIn_app (goodIn_of _ (by decide +kernel)) ggX7_lay_X5_layApple
theorem dX7_lay_0 : decode cX7_lay 0 = .ok (.iload_n 1, 1) := by decide +kernel
theorem dX7_lay_1 : decode cX7_lay 1 = .ok (.iload_n 2, 1) := by decide +kernel
theorem dX7_lay_2 : decode cX7_lay 2 = .ok (.iload_n 3, 1) := by decide +kernel
theorem dX7_lay_3 : decode cX7_lay 3 = .ok (.invokestatic 40, 3) := by decide +kernel
theorem dX7_lay_6 : decode cX7_lay 6 = .ok (.ifCond .ne 5, 3) := by decide +kernel
theorem dX7_lay_9 : decode cX7_lay 9 = .ok (.iconst (-1), 1) := by decide +kernel
theorem dX7_lay_10 : decode cX7_lay 10 = .ok (.ireturn, 1) := by decide +kernel
theorem dX7_lay_11 : decode cX7_lay 11 = .ok (.aload_n 0, 1) := by decide +kernel
theorem dX7_lay_12 : decode cX7_lay 12 = .ok (.getfield 10, 3) := by decide +kernel
theorem dX7_lay_15 : decode cX7_lay 15 = .ok (.getfield 46, 3) := by decide +kernel
theorem dX7_lay_18 : decode cX7_lay 18 = .ok (.getfield 50, 3) := by decide +kernel
theorem dX7_lay_21 : decode cX7_lay 21 = .ok (.iconst 0, 1) := by decide +kernel
theorem dX7_lay_22 : decode cX7_lay 22 = .ok (.iaload, 1) := by decide +kernel
theorem dX7_lay_23 : decode cX7_lay 23 = .ok (.iconst 2, 1) := by decide +kernel
theorem dX7_lay_24 : decode cX7_lay 24 = .ok (.if_icmp .lt 6, 3) := by decide +kernel
theorem dX7_lay_27 : decode cX7_lay 27 = .ok (.bipush (-3), 2) := by decide +kernel
theorem dX7_lay_29 : decode cX7_lay 29 = .ok (.ireturn, 1) := by decide +kernel
theorem dX7_lay_30 : decode cX7_lay 30 = .ok (.aload_n 0, 1) := by decide +kernel
theorem dX7_lay_31 : decode cX7_lay 31 = .ok (.getfield 25, 3) := by decide +kernel
theorem dX7_lay_34 : decode cX7_lay 34 = .ok (.aload_n 0, 1) := by decide +kernel
theorem dX7_lay_35 : decode cX7_lay 35 = .ok (.getfield 10, 3) := by decide +kernel
theorem dX7_lay_38 : decode cX7_lay 38 = .ok (.invokevirtual 56, 3) := by decide +kernel
theorem dX7_lay_41 : decode cX7_lay 41 = .ok (.aload_n 0, 1) := by decide +kernel
theorem dX7_lay_42 : decode cX7_lay 42 = .ok (.getfield 10, 3) := by decide +kernel
theorem dX7_lay_45 : decode cX7_lay 45 = .ok (.iload_n 1, 1) := by decide +kernel
theorem dX7_lay_46 : decode cX7_lay 46 = .ok (.iload_n 2, 1) := by decide +kernel
theorem dX7_lay_47 : decode cX7_lay 47 = .ok (.iload_n 3, 1) := by decide +kernel
theorem dX7_lay_48 : decode cX7_lay 48 = .ok (.invokestatic 60, 3) := by decide +kernel
theorem dX7_lay_51 : decode cX7_lay 51 = .ok (.invokevirtual 64, 3) := by decide +kernel
theorem dX7_lay_54 : decode cX7_lay 54 = .ok (.aload_n 0, 1) := by decide +kernel
theorem dX7_lay_55 : decode cX7_lay 55 = .ok (.getfield 10, 3) := by decide +kernel
theorem dX7_lay_58 : decode cX7_lay 58 = .ok (.getfield 46, 3) := by decide +kernel
theorem dX7_lay_61 : decode cX7_lay 61 = .ok (.getfield 50, 3) := by decide +kernel
theorem dX7_lay_64 : decode cX7_lay 64 = .ok (.iconst 0, 1) := by decide +kernel
theorem dX7_lay_65 : decode cX7_lay 65 = .ok (.iaload, 1) := by decide +kernel
theorem dX7_lay_66 : decode cX7_lay 66 = .ok (.ireturn, 1) := by decide +kernel
set_option maxRecDepth 20000 in
theorem ggX7_pass_X3_keep : GoodIn wsX7_pass wsX3_keep := goodIn_r _ [7, 8, 9, 10, 11, 12, 13, 14, 15, 16, 17, 18, 19, 20, 21, 22, 23, 24, 25, 26, 27, 28, 29, 30, 31, 32, 33, 34, 35, 36, 37, 38, 39, 40, 41, 42, 43, 44, 45, 46, 47, 48, 49, 50, 51, 52, 53, 54, 55, 56, 142, 143, 144, 145, 146, 147, 148, 149, 150, 151, 152, 153, 154, 155, 156, 157, 158, 159, 160, 161, 162, 163] (by decide +kernel) (by decide +kernel)
set_option maxRecDepth 20000 in
theorem gX7_pass_X3_keep : GoodIn wsX7_pass (wsV RX7 56 RX3 yX3_keep wsX3_keep) := goodIn_app (goodIn_of _ (by decide +kernel)) ggX7_pass_X3_keep
set_option maxRecDepth 20000 in
theorem ggX7_pass_X5_tick : GoodIn wsX7_pass wsX5_tick := goodIn_r _ [60, 25, 17, 61, 62, 63, 14, 64, 65, 66, 28, 67, 68, 69, 70, 16, 71, 72, 73, 43, 74, 48, 75, 76, 77, 78, 19, 79, 80, 81, 82, 83, 84, 85, 86, 87, 88, 89, 90, 91, 92, 93, 94, 95, 96, 97, 98, 99, 100, 101, 34, 102, 39, 36, 38, 103, 104, 105, 106, 107, 108, 109, 110, 111, 112, 18, 113, 114, 115, 116, 52, 117, 54, 56, 118, 119, 120, 121, 45, 47, 122, 123, 124, 125, 126, 127, 128, 129, 130, 27, 24, 29, 131, 132, 133, 134, 135, 145, 146, 147, 148, 149, 150, 151, 152, 153, 154, 155, 159, 160, 161, 156, 157, 158, 162, 163] (by decide +kernel) (by decide +kernel)
set_option maxRecDepth 20000 in
theorem gX7_pass_X5_tick : GoodIn wsX7_pass (wsV RX7 68 RX5 yX5_tick wsX5_tick) := goodIn_app (goodIn_of _ (by decide +kernel)) ggX7_pass_X5_tick
theorem dX7_pass_0 : decode cX7_pass 0 = .ok (.iload_n 1, 1) := by decide +kernel
theorem dX7_pass_1 : decode cX7_pass 1 = .ok (.iconst 1, 1) := by decide +kernel
theorem dX7_pass_2 : decode cX7_pass 2 = .ok (.if_icmp .lt 9, 3) := by decide +kernel
theorem dX7_pass_5 : decode cX7_pass 5 = .ok (.iload_n 1, 1) := by decide +kernel
theorem dX7_pass_6 : decode cX7_pass 6 = .ok (.bipush 30, 2) := by decide +kernel
theorem dX7_pass_8 : decode cX7_pass 8 = .ok (.if_icmp .le 5, 3) := by decide +kernel
theorem dX7_pass_11 : decode cX7_pass 11 = .ok (.iconst (-1), 1) := by decide +kernel
theorem dX7_pass_12 : decode cX7_pass 12 = .ok (.ireturn, 1) := by decide +kernel
theorem dX7_pass_13 : decode cX7_pass 13 = .ok (.aload_n 0, 1) := by decide +kernel
theorem dX7_pass_14 : decode cX7_pass 14 = .ok (.getfield 25, 3) := by decide +kernel
theorem dX7_pass_17 : decode cX7_pass 17 = .ok (.aload_n 0, 1) := by decide +kernel
theorem dX7_pass_18 : decode cX7_pass 18 = .ok (.getfield 10, 3) := by decide +kernel
theorem dX7_pass_21 : decode cX7_pass 21 = .ok (.invokevirtual 56, 3) := by decide +kernel
theorem dX7_pass_24 : decode cX7_pass 24 = .ok (.iconst 0, 1) := by decide +kernel
theorem dX7_pass_25 : decode cX7_pass 25 = .ok (.istore_n 2, 1) := by decide +kernel
theorem dX7_pass_26 : decode cX7_pass 26 = .ok (.iconst 0, 1) := by decide +kernel
theorem dX7_pass_27 : decode cX7_pass 27 = .ok (.istore_n 3, 1) := by decide +kernel
theorem dX7_pass_28 : decode cX7_pass 28 = .ok (.iload_n 3, 1) := by decide +kernel
theorem dX7_pass_29 : decode cX7_pass 29 = .ok (.iload_n 1, 1) := by decide +kernel
theorem dX7_pass_30 : decode cX7_pass 30 = .ok (.if_icmp .ge 19, 3) := by decide +kernel
theorem dX7_pass_33 : decode cX7_pass 33 = .ok (.iload_n 2, 1) := by decide +kernel
theorem dX7_pass_34 : decode cX7_pass 34 = .ok (.aload_n 0, 1) := by decide +kernel
theorem dX7_pass_35 : decode cX7_pass 35 = .ok (.getfield 10, 3) := by decide +kernel
theorem dX7_pass_38 : decode cX7_pass 38 = .ok (.invokevirtual 68, 3) := by decide +kernel
theorem dX7_pass_41 : decode cX7_pass 41 = .ok (.iadd, 1) := by decide +kernel
theorem dX7_pass_42 : decode cX7_pass 42 = .ok (.istore_n 2, 1) := by decide +kernel
theorem dX7_pass_43 : decode cX7_pass 43 = .ok (.iinc 3 1, 3) := by decide +kernel
theorem dX7_pass_46 : decode cX7_pass 46 = .ok (.goto (-18), 3) := by decide +kernel
theorem dX7_pass_49 : decode cX7_pass 49 = .ok (.iload_n 2, 1) := by decide +kernel
theorem dX7_pass_50 : decode cX7_pass 50 = .ok (.ireturn, 1) := by decide +kernel
set_option maxRecDepth 20000 in
theorem ggX7_rule_X6_inRange : GoodIn wsX7_rule wsX6_inRange := goodIn_r _ [8] (by decide +kernel) (by decide +kernel)
set_option maxRecDepth 20000 in
theorem gX7_rule_X6_inRange : GoodIn wsX7_rule (va_wsS RX7 40 yX6_inRange wsX6_inRange) := goodIn_app (goodIn_of _ (by decide +kernel)) ggX7_rule_X6_inRange
set_option maxRecDepth 20000 in
theorem ggX7_rule_X7_isLane : GoodIn wsX7_rule wsX7_isLane := goodIn_r _ [12] (by decide +kernel) (by decide +kernel)
set_option maxRecDepth 20000 in
theorem gX7_rule_X7_isLane : GoodIn wsX7_rule (va_wsS RX7 82 yX7_isLane wsX7_isLane) := goodIn_app (goodIn_of _ (by decide +kernel)) ggX7_rule_X7_isLane
set_option maxRecDepth 20000 in
theorem ggX7_rule_X3_keep : GoodIn wsX7_rule wsX3_keep := goodIn_r _ [17, 18, 19, 20, 21, 22, 23, 24, 25, 26, 27, 28, 29, 30, 31, 32, 33, 34, 35, 36, 37, 38, 39, 40, 41, 42, 43, 44, 45, 46, 47, 48, 49, 50, 51, 52, 53, 54, 55, 56, 57, 58, 59, 60, 61, 62, 63, 64, 65, 66, 94, 95, 96, 80, 81, 82, 83, 84, 85, 86, 87, 88, 89, 90, 91, 92, 93, 97, 98, 99, 100, 101] (by decide +kernel) (by decide +kernel)
set_option maxRecDepth 20000 in
theorem gX7_rule_X3_keep : GoodIn wsX7_rule (wsV RX7 56 RX3 yX3_keep wsX3_keep) := goodIn_app (goodIn_of _ (by decide +kernel)) ggX7_rule_X3_keep
set_option maxRecDepth 20000 in
theorem ggX7_rule_X6_of : GoodIn wsX7_rule wsX6_of := goodIn_r _ [69] (by decide +kernel) (by decide +kernel)
set_option maxRecDepth 20000 in
theorem gX7_rule_X6_of : GoodIn wsX7_rule (va_wsS RX7 60 yX6_of wsX6_of) := goodIn_app (goodIn_of _ (by decide +kernel)) ggX7_rule_X6_of
set_option maxRecDepth 20000 in
theorem ggX7_rule_X1_insert : GoodIn wsX7_rule wsX1_insert := goodIn_r _ [73, 49, 46, 48, 91, 92, 93] (by decide +kernel) (by decide +kernel)
set_option maxRecDepth 20000 in
theorem gX7_rule_X1_insert : GoodIn wsX7_rule (wsV RX7 86 RX1 yX1_insert wsX1_insert) := goodIn_app (goodIn_of _ (by decide +kernel)) ggX7_rule_X1_insert
theorem dX7_rule_0 : decode cX7_rule 0 = .ok (.iload_n 1, 1) := by decide +kernel
theorem dX7_rule_1 : decode cX7_rule 1 = .ok (.ifCond .lt 35, 3) := by decide +kernel
theorem dX7_rule_4 : decode cX7_rule 4 = .ok (.iload_n 1, 1) := by decide +kernel
theorem dX7_rule_5 : decode cX7_rule 5 = .ok (.aload_n 0, 1) := by decide +kernel
theorem dX7_rule_6 : decode cX7_rule 6 = .ok (.getfield 10, 3) := by decide +kernel
theorem dX7_rule_9 : decode cX7_rule 9 = .ok (.getfield 72, 3) := by decide +kernel
theorem dX7_rule_12 : decode cX7_rule 12 = .ok (.getfield 76, 3) := by decide +kernel
theorem dX7_rule_15 : decode cX7_rule 15 = .ok (.if_icmp .gt 21, 3) := by decide +kernel
theorem dX7_rule_18 : decode cX7_rule 18 = .ok (.iload_n 2, 1) := by decide +kernel
theorem dX7_rule_19 : decode cX7_rule 19 = .ok (.iload_n 3, 1) := by decide +kernel
theorem dX7_rule_20 : decode cX7_rule 20 = .ok (.iload 4, 2) := by decide +kernel
theorem dX7_rule_22 : decode cX7_rule 22 = .ok (.invokestatic 40, 3) := by decide +kernel
theorem dX7_rule_25 : decode cX7_rule 25 = .ok (.ifCond .eq 11, 3) := by decide +kernel
theorem dX7_rule_28 : decode cX7_rule 28 = .ok (.iload 5, 2) := by decide +kernel
theorem dX7_rule_30 : decode cX7_rule 30 = .ok (.invokestatic 82, 3) := by decide +kernel
theorem dX7_rule_33 : decode cX7_rule 33 = .ok (.ifCond .ne 5, 3) := by decide +kernel
theorem dX7_rule_36 : decode cX7_rule 36 = .ok (.iconst (-1), 1) := by decide +kernel
theorem dX7_rule_37 : decode cX7_rule 37 = .ok (.ireturn, 1) := by decide +kernel
theorem dX7_rule_38 : decode cX7_rule 38 = .ok (.aload_n 0, 1) := by decide +kernel
theorem dX7_rule_39 : decode cX7_rule 39 = .ok (.getfield 10, 3) := by decide +kernel
theorem dX7_rule_42 : decode cX7_rule 42 = .ok (.getfield 72, 3) := by decide +kernel
theorem dX7_rule_45 : decode cX7_rule 45 = .ok (.getfield 76, 3) := by decide +kernel
theorem dX7_rule_48 : decode cX7_rule 48 = .ok (.bipush 8, 2) := by decide +kernel
theorem dX7_rule_50 : decode cX7_rule 50 = .ok (.if_icmp .lt 6, 3) := by decide +kernel
theorem dX7_rule_53 : decode cX7_rule 53 = .ok (.bipush (-3), 2) := by decide +kernel
theorem dX7_rule_55 : decode cX7_rule 55 = .ok (.ireturn, 1) := by decide +kernel
theorem dX7_rule_56 : decode cX7_rule 56 = .ok (.aload_n 0, 1) := by decide +kernel
theorem dX7_rule_57 : decode cX7_rule 57 = .ok (.getfield 25, 3) := by decide +kernel
theorem dX7_rule_60 : decode cX7_rule 60 = .ok (.aload_n 0, 1) := by decide +kernel
theorem dX7_rule_61 : decode cX7_rule 61 = .ok (.getfield 10, 3) := by decide +kernel
theorem dX7_rule_64 : decode cX7_rule 64 = .ok (.invokevirtual 56, 3) := by decide +kernel
theorem dX7_rule_67 : decode cX7_rule 67 = .ok (.aload_n 0, 1) := by decide +kernel
theorem dX7_rule_68 : decode cX7_rule 68 = .ok (.getfield 10, 3) := by decide +kernel
theorem dX7_rule_71 : decode cX7_rule 71 = .ok (.getfield 72, 3) := by decide +kernel
theorem dX7_rule_74 : decode cX7_rule 74 = .ok (.iload_n 1, 1) := by decide +kernel
theorem dX7_rule_75 : decode cX7_rule 75 = .ok (.iload_n 2, 1) := by decide +kernel
theorem dX7_rule_76 : decode cX7_rule 76 = .ok (.iload_n 3, 1) := by decide +kernel
theorem dX7_rule_77 : decode cX7_rule 77 = .ok (.iload 4, 2) := by decide +kernel
theorem dX7_rule_79 : decode cX7_rule 79 = .ok (.invokestatic 60, 3) := by decide +kernel
theorem dX7_rule_82 : decode cX7_rule 82 = .ok (.iload 5, 2) := by decide +kernel
theorem dX7_rule_84 : decode cX7_rule 84 = .ok (.invokevirtual 86, 3) := by decide +kernel
theorem dX7_rule_87 : decode cX7_rule 87 = .ok (.aload_n 0, 1) := by decide +kernel
theorem dX7_rule_88 : decode cX7_rule 88 = .ok (.getfield 10, 3) := by decide +kernel
theorem dX7_rule_91 : decode cX7_rule 91 = .ok (.getfield 72, 3) := by decide +kernel
theorem dX7_rule_94 : decode cX7_rule 94 = .ok (.getfield 76, 3) := by decide +kernel
theorem dX7_rule_97 : decode cX7_rule 97 = .ok (.ireturn, 1) := by decide +kernel
set_option maxRecDepth 20000 in
theorem ggX7_drop_X1_has : GoodIn wsX7_drop wsX1_has := goodIn_r _ [9, 10, 85, 86, 87] (by decide +kernel) (by decide +kernel)
set_option maxRecDepth 20000 in
theorem gX7_drop_X1_has : GoodIn wsX7_drop (wsV RX7 90 RX1 yX1_has wsX1_has) := goodIn_app (goodIn_of _ (by decide +kernel)) ggX7_drop_X1_has
set_option maxRecDepth 20000 in
theorem ggX7_drop_X3_keep : GoodIn wsX7_drop wsX3_keep := goodIn_r _ [15, 16, 17, 18, 19, 20, 21, 22, 23, 24, 25, 26, 27, 28, 29, 30, 31, 32, 33, 34, 35, 36, 37, 38, 39, 40, 41, 8, 42, 43, 44, 45, 10, 46, 47, 48, 49, 50, 51, 52, 53, 54, 55, 56, 57, 58, 59, 60, 61, 62, 88, 89, 90, 74, 75, 76, 77, 78, 79, 80, 81, 82, 83, 84, 85, 86, 87, 91, 92, 93, 94, 95] (by decide +kernel) (by decide +kernel)
set_option maxRecDepth 20000 in
theorem gX7_drop_X3_keep : GoodIn wsX7_drop (wsV RX7 56 RX3 yX3_keep wsX3_keep) := goodIn_app (goodIn_of _ (by decide +kernel)) ggX7_drop_X3_keep
set_option maxRecDepth 20000 in
theorem ggX7_drop_X1_takeOut : GoodIn wsX7_drop wsX1_takeOut := goodIn_r _ [66, 10, 43, 45, 67, 6, 7, 8, 9, 85, 86, 87] (by decide +kernel) (by decide +kernel)
set_option maxRecDepth 20000 in
theorem gX7_drop_X1_takeOut : GoodIn wsX7_drop (wsV RX7 93 RX1 yX1_takeOut wsX1_takeOut) := goodIn_app (goodIn_of _ (by decide +kernel)) ggX7_drop_X1_takeOut
theorem dX7_drop_0 : decode cX7_drop 0 = .ok (.aload_n 0, 1) := by decide +kernel
theorem dX7_drop_1 : decode cX7_drop 1 = .ok (.getfield 10, 3) := by decide +kernel
theorem dX7_drop_4 : decode cX7_drop 4 = .ok (.getfield 72, 3) := by decide +kernel
theorem dX7_drop_7 : decode cX7_drop 7 = .ok (.iload_n 1, 1) := by decide +kernel
theorem dX7_drop_8 : decode cX7_drop 8 = .ok (.invokevirtual 90, 3) := by decide +kernel
theorem dX7_drop_11 : decode cX7_drop 11 = .ok (.ifCond .ne 5, 3) := by decide +kernel
theorem dX7_drop_14 : decode cX7_drop 14 = .ok (.iconst (-1), 1) := by decide +kernel
theorem dX7_drop_15 : decode cX7_drop 15 = .ok (.ireturn, 1) := by decide +kernel
theorem dX7_drop_16 : decode cX7_drop 16 = .ok (.aload_n 0, 1) := by decide +kernel
theorem dX7_drop_17 : decode cX7_drop 17 = .ok (.getfield 25, 3) := by decide +kernel
theorem dX7_drop_20 : decode cX7_drop 20 = .ok (.aload_n 0, 1) := by decide +kernel
theorem dX7_drop_21 : decode cX7_drop 21 = .ok (.getfield 10, 3) := by decide +kernel
theorem dX7_drop_24 : decode cX7_drop 24 = .ok (.invokevirtual 56, 3) := by decide +kernel
theorem dX7_drop_27 : decode cX7_drop 27 = .ok (.aload_n 0, 1) := by decide +kernel
theorem dX7_drop_28 : decode cX7_drop 28 = .ok (.getfield 10, 3) := by decide +kernel
theorem dX7_drop_31 : decode cX7_drop 31 = .ok (.getfield 72, 3) := by decide +kernel
theorem dX7_drop_34 : decode cX7_drop 34 = .ok (.iload_n 1, 1) := by decide +kernel
theorem dX7_drop_35 : decode cX7_drop 35 = .ok (.invokevirtual 93, 3) := by decide +kernel
theorem dX7_drop_38 : decode cX7_drop 38 = .ok (.aload_n 0, 1) := by decide +kernel
theorem dX7_drop_39 : decode cX7_drop 39 = .ok (.getfield 10, 3) := by decide +kernel
theorem dX7_drop_42 : decode cX7_drop 42 = .ok (.getfield 72, 3) := by decide +kernel
theorem dX7_drop_45 : decode cX7_drop 45 = .ok (.getfield 76, 3) := by decide +kernel
theorem dX7_drop_48 : decode cX7_drop 48 = .ok (.ireturn, 1) := by decide +kernel
set_option maxRecDepth 20000 in
theorem ggX7_water_X7_isLane : GoodIn wsX7_water wsX7_isLane := goodIn_r _ [7] (by decide +kernel) (by decide +kernel)
set_option maxRecDepth 20000 in
theorem gX7_water_X7_isLane : GoodIn wsX7_water (va_wsS RX7 82 yX7_isLane wsX7_isLane) := goodIn_app (goodIn_of _ (by decide +kernel)) ggX7_water_X7_isLane
set_option maxRecDepth 20000 in
theorem ggX7_water_X3_keep : GoodIn wsX7_water wsX3_keep := goodIn_r _ [12, 13, 14, 15, 16, 17, 18, 19, 20, 21, 22, 23, 24, 25, 26, 27, 28, 29, 30, 31, 32, 33, 34, 35, 36, 37, 38, 39, 40, 41, 42, 43, 44, 45, 46, 47, 48, 49, 50, 51, 52, 53, 54, 55, 56, 57, 58, 59, 60, 61, 79, 80, 81, 68, 69, 70, 71, 72, 73, 74, 75, 76, 77, 78, 82, 83, 84, 85, 86, 87, 88, 89] (by decide +kernel) (by decide +kernel)
set_option maxRecDepth 20000 in
theorem gX7_water_X3_keep : GoodIn wsX7_water (wsV RX7 56 RX3 yX3_keep wsX3_keep) := goodIn_app (goodIn_of _ (by decide +kernel)) ggX7_water_X3_keep
theorem dX7_water_0 : decode cX7_water 0 = .ok (.iload_n 1, 1) := by decide +kernel
theorem dX7_water_1 : decode cX7_water 1 = .ok (.invokestatic 82, 3) := by decide +kernel
theorem dX7_water_4 : decode cX7_water 4 = .ok (.ifCond .ne 5, 3) := by decide +kernel
theorem dX7_water_7 : decode cX7_water 7 = .ok (.iconst (-1), 1) := by decide +kernel
theorem dX7_water_8 : decode cX7_water 8 = .ok (.ireturn, 1) := by decide +kernel
theorem dX7_water_9 : decode cX7_water 9 = .ok (.aload_n 0, 1) := by decide +kernel
theorem dX7_water_10 : decode cX7_water 10 = .ok (.getfield 25, 3) := by decide +kernel
theorem dX7_water_13 : decode cX7_water 13 = .ok (.aload_n 0, 1) := by decide +kernel
theorem dX7_water_14 : decode cX7_water 14 = .ok (.getfield 10, 3) := by decide +kernel
theorem dX7_water_17 : decode cX7_water 17 = .ok (.invokevirtual 56, 3) := by decide +kernel
theorem dX7_water_20 : decode cX7_water 20 = .ok (.aload_n 0, 1) := by decide +kernel
theorem dX7_water_21 : decode cX7_water 21 = .ok (.getfield 10, 3) := by decide +kernel
theorem dX7_water_24 : decode cX7_water 24 = .ok (.getfield 96, 3) := by decide +kernel
theorem dX7_water_27 : decode cX7_water 27 = .ok (.iload_n 1, 1) := by decide +kernel
theorem dX7_water_28 : decode cX7_water 28 = .ok (.aload_n 0, 1) := by decide +kernel
theorem dX7_water_29 : decode cX7_water 29 = .ok (.getfield 10, 3) := by decide +kernel
theorem dX7_water_32 : decode cX7_water 32 = .ok (.getfield 96, 3) := by decide +kernel
theorem dX7_water_35 : decode cX7_water 35 = .ok (.iload_n 1, 1) := by decide +kernel
theorem dX7_water_36 : decode cX7_water 36 = .ok (.baload, 1) := by decide +kernel
theorem dX7_water_37 : decode cX7_water 37 = .ok (.ifCond .ne 7, 3) := by decide +kernel
theorem dX7_water_40 : decode cX7_water 40 = .ok (.iconst 1, 1) := by decide +kernel
theorem dX7_water_41 : decode cX7_water 41 = .ok (.goto 4, 3) := by decide +kernel
theorem dX7_water_44 : decode cX7_water 44 = .ok (.iconst 0, 1) := by decide +kernel
theorem dX7_water_45 : decode cX7_water 45 = .ok (.bastore, 1) := by decide +kernel
theorem dX7_water_46 : decode cX7_water 46 = .ok (.aload_n 0, 1) := by decide +kernel
theorem dX7_water_47 : decode cX7_water 47 = .ok (.getfield 10, 3) := by decide +kernel
theorem dX7_water_50 : decode cX7_water 50 = .ok (.getfield 96, 3) := by decide +kernel
theorem dX7_water_53 : decode cX7_water 53 = .ok (.iload_n 1, 1) := by decide +kernel
theorem dX7_water_54 : decode cX7_water 54 = .ok (.baload, 1) := by decide +kernel
theorem dX7_water_55 : decode cX7_water 55 = .ok (.ifCond .eq 7, 3) := by decide +kernel
theorem dX7_water_58 : decode cX7_water 58 = .ok (.iconst 1, 1) := by decide +kernel
theorem dX7_water_59 : decode cX7_water 59 = .ok (.goto 4, 3) := by decide +kernel
theorem dX7_water_62 : decode cX7_water 62 = .ok (.iconst 0, 1) := by decide +kernel
theorem dX7_water_63 : decode cX7_water 63 = .ok (.ireturn, 1) := by decide +kernel
set_option maxRecDepth 20000 in
theorem ggX7_empty_X7_isBox : GoodIn wsX7_empty wsX7_isBox := goodIn_r _ [6] (by decide +kernel) (by decide +kernel)
set_option maxRecDepth 20000 in
theorem gX7_empty_X7_isBox : GoodIn wsX7_empty (va_wsS RX7 100 yX7_isBox wsX7_isBox) := goodIn_app (goodIn_of _ (by decide +kernel)) ggX7_empty_X7_isBox
set_option maxRecDepth 20000 in
theorem ggX7_empty_X3_keep : GoodIn wsX7_empty wsX3_keep := goodIn_r _ [11, 12, 13, 14, 15, 16, 17, 18, 19, 20, 21, 22, 23, 24, 25, 26, 27, 28, 29, 30, 31, 32, 33, 34, 35, 36, 37, 38, 39, 40, 41, 42, 43, 44, 45, 46, 47, 48, 49, 50, 51, 52, 53, 54, 55, 56, 57, 58, 59, 60, 72, 73, 74, 75, 76, 77, 78, 79, 80, 81, 82, 83, 84, 85, 86, 87, 88, 89, 90, 91, 92, 93] (by decide +kernel) (by decide +kernel)
set_option maxRecDepth 20000 in
theorem gX7_empty_X3_keep : GoodIn wsX7_empty (wsV RX7 56 RX3 yX3_keep wsX3_keep) := goodIn_app (goodIn_of _ (by decide +kernel)) ggX7_empty_X3_keep
set_option maxRecDepth 20000 in
theorem ggX7_empty_X5_emptyBox : GoodIn wsX7_empty wsX5_emptyBox := goodIn_r _ [64, 22, 65, 34, 75, 76, 77, 78, 79, 80, 81, 82, 83, 84, 85, 92, 93] (by decide +kernel) (by decide +kernel)
set_option maxRecDepth 20000 in
theorem gX7_empty_X5_emptyBox : GoodIn wsX7_empty (wsV RX7 103 RX5 yX5_emptyBox wsX5_emptyBox) := goodIn_app (goodIn_of _ (by decide +kernel)) ggX7_empty_X5_emptyBox
theorem dX7_empty_0 : decode cX7_empty 0 = .ok (.iload_n 1, 1) := by decide +kernel
theorem dX7_empty_1 : decode cX7_empty 1 = .ok (.invokestatic 100, 3) := by decide +kernel
theorem dX7_empty_4 : decode cX7_empty 4 = .ok (.ifCond .ne 5, 3) := by decide +kernel
theorem dX7_empty_7 : decode cX7_empty 7 = .ok (.iconst (-1), 1) := by decide +kernel
theorem dX7_empty_8 : decode cX7_empty 8 = .ok (.ireturn, 1) := by decide +kernel
theorem dX7_empty_9 : decode cX7_empty 9 = .ok (.aload_n 0, 1) := by decide +kernel
theorem dX7_empty_10 : decode cX7_empty 10 = .ok (.getfield 25, 3) := by decide +kernel
theorem dX7_empty_13 : decode cX7_empty 13 = .ok (.aload_n 0, 1) := by decide +kernel
theorem dX7_empty_14 : decode cX7_empty 14 = .ok (.getfield 10, 3) := by decide +kernel
theorem dX7_empty_17 : decode cX7_empty 17 = .ok (.invokevirtual 56, 3) := by decide +kernel
theorem dX7_empty_20 : decode cX7_empty 20 = .ok (.aload_n 0, 1) := by decide +kernel
theorem dX7_empty_21 : decode cX7_empty 21 = .ok (.getfield 10, 3) := by decide +kernel
theorem dX7_empty_24 : decode cX7_empty 24 = .ok (.iload_n 1, 1) := by decide +kernel
theorem dX7_empty_25 : decode cX7_empty 25 = .ok (.invokevirtual 103, 3) := by decide +kernel
theorem dX7_empty_28 : decode cX7_empty 28 = .ok (.ireturn, 1) := by decide +kernel
set_option maxRecDepth 20000 in
theorem ggX7_set_X3_keep : GoodIn wsX7_set wsX3_keep := goodIn_r _ [10, 11, 12, 13, 14, 15, 16, 17, 18, 19, 20, 21, 22, 23, 24, 25, 26, 27, 28, 29, 30, 31, 32, 33, 34, 35, 36, 37, 38, 39, 40, 41, 42, 43, 44, 45, 46, 47, 48, 49, 50, 51, 52, 53, 54, 55, 56, 57, 58, 59, 81, 82, 83, 70, 71, 72, 73, 74, 75, 76, 77, 78, 79, 80, 84, 85, 86, 87, 88, 89, 90, 91] (by decide +kernel) (by decide +kernel)
set_option maxRecDepth 20000 in
theorem gX7_set_X3_keep : GoodIn wsX7_set (wsV RX7 56 RX3 yX3_keep wsX3_keep) := goodIn_app (goodIn_of _ (by decide +kernel)) ggX7_set_X3_keep
set_option maxRecDepth 20000 in
theorem ggX7_set_X5_settingShown : GoodIn wsX7_set wsX5_settingShown := goodIn_r _ [63, 22, 70, 71, 72, 73, 74, 75, 76, 77, 78, 79, 80] (by decide +kernel) (by decide +kernel)
set_option maxRecDepth 20000 in
theorem gX7_set_X5_settingShown : GoodIn wsX7_set (wsV RX7 113 RX5 yX5_settingShown wsX5_settingShown) := goodIn_app (goodIn_of _ (by decide +kernel)) ggX7_set_X5_settingShown
theorem dX7_set_0 : decode cX7_set 0 = .ok (.iload_n 1, 1) := by decide +kernel
theorem dX7_set_1 : decode cX7_set 1 = .ok (.ifCond .lt 26, 3) := by decide +kernel
theorem dX7_set_4 : decode cX7_set 4 = .ok (.iload_n 1, 1) := by decide +kernel
theorem dX7_set_5 : decode cX7_set 5 = .ok (.iconst 3, 1) := by decide +kernel
theorem dX7_set_6 : decode cX7_set 6 = .ok (.if_icmp .ge 21, 3) := by decide +kernel
theorem dX7_set_9 : decode cX7_set 9 = .ok (.iload_n 2, 1) := by decide +kernel
theorem dX7_set_10 : decode cX7_set 10 = .ok (.getstatic 107, 3) := by decide +kernel
theorem dX7_set_13 : decode cX7_set 13 = .ok (.iload_n 1, 1) := by decide +kernel
theorem dX7_set_14 : decode cX7_set 14 = .ok (.iaload, 1) := by decide +kernel
theorem dX7_set_15 : decode cX7_set 15 = .ok (.if_icmp .lt 12, 3) := by decide +kernel
theorem dX7_set_18 : decode cX7_set 18 = .ok (.iload_n 2, 1) := by decide +kernel
theorem dX7_set_19 : decode cX7_set 19 = .ok (.getstatic 110, 3) := by decide +kernel
theorem dX7_set_22 : decode cX7_set 22 = .ok (.iload_n 1, 1) := by decide +kernel
theorem dX7_set_23 : decode cX7_set 23 = .ok (.iaload, 1) := by decide +kernel
theorem dX7_set_24 : decode cX7_set 24 = .ok (.if_icmp .le 5, 3) := by decide +kernel
theorem dX7_set_27 : decode cX7_set 27 = .ok (.iconst (-1), 1) := by decide +kernel
theorem dX7_set_28 : decode cX7_set 28 = .ok (.ireturn, 1) := by decide +kernel
theorem dX7_set_29 : decode cX7_set 29 = .ok (.aload_n 0, 1) := by decide +kernel
theorem dX7_set_30 : decode cX7_set 30 = .ok (.getfield 25, 3) := by decide +kernel
theorem dX7_set_33 : decode cX7_set 33 = .ok (.aload_n 0, 1) := by decide +kernel
theorem dX7_set_34 : decode cX7_set 34 = .ok (.getfield 10, 3) := by decide +kernel
theorem dX7_set_37 : decode cX7_set 37 = .ok (.invokevirtual 56, 3) := by decide +kernel
theorem dX7_set_40 : decode cX7_set 40 = .ok (.aload_n 0, 1) := by decide +kernel
theorem dX7_set_41 : decode cX7_set 41 = .ok (.getfield 10, 3) := by decide +kernel
theorem dX7_set_44 : decode cX7_set 44 = .ok (.iload_n 1, 1) := by decide +kernel
theorem dX7_set_45 : decode cX7_set 45 = .ok (.invokevirtual 113, 3) := by decide +kernel
theorem dX7_set_48 : decode cX7_set 48 = .ok (.istore_n 3, 1) := by decide +kernel
theorem dX7_set_49 : decode cX7_set 49 = .ok (.aload_n 0, 1) := by decide +kernel
theorem dX7_set_50 : decode cX7_set 50 = .ok (.getfield 10, 3) := by decide +kernel
theorem dX7_set_53 : decode cX7_set 53 = .ok (.getfield 116, 3) := by decide +kernel
theorem dX7_set_56 : decode cX7_set 56 = .ok (.iload_n 1, 1) := by decide +kernel
theorem dX7_set_57 : decode cX7_set 57 = .ok (.iload_n 2, 1) := by decide +kernel
theorem dX7_set_58 : decode cX7_set 58 = .ok (.iastore, 1) := by decide +kernel
theorem dX7_set_59 : decode cX7_set 59 = .ok (.iload_n 3, 1) := by decide +kernel
theorem dX7_set_60 : decode cX7_set 60 = .ok (.ireturn, 1) := by decide +kernel
set_option maxRecDepth 20000 in
theorem ggX7_cup_X0_weightIn : GoodIn wsX7_cup wsX0_weightIn := goodIn_r _ [9, 10, 11, 12, 13, 14, 15, 90, 91, 92] (by decide +kernel) (by decide +kernel)
set_option maxRecDepth 20000 in
theorem gX7_cup_X0_weightIn : GoodIn wsX7_cup (wsV RX7 147 RX0 yX0_weightIn wsX0_weightIn) := goodIn_app (goodIn_of _ (by decide +kernel)) ggX7_cup_X0_weightIn
set_option maxRecDepth 20000 in
theorem ggX7_cup_X5_ticksToFall : GoodIn wsX7_cup wsX5_ticksToFall := goodIn_r _ [20, 21, 22, 23, 24, 25, 26, 19, 27, 28, 29, 30, 31, 8, 32, 11, 33, 34, 35, 36, 37, 38, 39, 40, 41, 42, 43, 44, 45, 46, 14, 47, 48, 49, 50, 51, 13, 15, 52, 53, 54, 55, 56, 57, 58, 59, 60, 61, 62, 63, 64, 65, 66, 67, 68, 69, 70, 71, 72, 79, 80, 81, 82, 83, 84, 85, 86, 87, 88, 89, 90, 91, 92, 93, 94, 95] (by decide +kernel) (by decide +kernel)
set_option maxRecDepth 20000 in
theorem gX7_cup_X5_ticksToFall : GoodIn wsX7_cup (wsV RX7 150 RX5 yX5_ticksToFall wsX5_ticksToFall) := goodIn_app (goodIn_of _ (by decide +kernel)) ggX7_cup_X5_ticksToFall
theorem dX7_cup_0 : decode cX7_cup 0 = .ok (.iload_n 1, 1) := by decide +kernel
theorem dX7_cup_1 : decode cX7_cup 1 = .ok (.ifCond .lt 18, 3) := by decide +kernel
theorem dX7_cup_4 : decode cX7_cup 4 = .ok (.iload_n 1, 1) := by decide +kernel
theorem dX7_cup_5 : decode cX7_cup 5 = .ok (.bipush 12, 2) := by decide +kernel
theorem dX7_cup_7 : decode cX7_cup 7 = .ok (.if_icmp .ge 12, 3) := by decide +kernel
theorem dX7_cup_10 : decode cX7_cup 10 = .ok (.iload_n 2, 1) := by decide +kernel
theorem dX7_cup_11 : decode cX7_cup 11 = .ok (.ifCond .lt 8, 3) := by decide +kernel
theorem dX7_cup_14 : decode cX7_cup 14 = .ok (.iload_n 2, 1) := by decide +kernel
theorem dX7_cup_15 : decode cX7_cup 15 = .ok (.iconst 3, 1) := by decide +kernel
theorem dX7_cup_16 : decode cX7_cup 16 = .ok (.if_icmp .le 5, 3) := by decide +kernel
theorem dX7_cup_19 : decode cX7_cup 19 = .ok (.iconst (-1), 1) := by decide +kernel
theorem dX7_cup_20 : decode cX7_cup 20 = .ok (.ireturn, 1) := by decide +kernel
theorem dX7_cup_21 : decode cX7_cup 21 = .ok (.iload_n 2, 1) := by decide +kernel
theorem dX7_cup_22 : decode cX7_cup 22 = .ok (.tableswitch 85 0 2 #[26, 39, 73], 26) := by decide +kernel
theorem dX7_cup_48 : decode cX7_cup 48 = .ok (.aload_n 0, 1) := by decide +kernel
theorem dX7_cup_49 : decode cX7_cup 49 = .ok (.getfield 10, 3) := by decide +kernel
theorem dX7_cup_52 : decode cX7_cup 52 = .ok (.getfield 46, 3) := by decide +kernel
theorem dX7_cup_55 : decode cX7_cup 55 = .ok (.getfield 50, 3) := by decide +kernel
theorem dX7_cup_58 : decode cX7_cup 58 = .ok (.iload_n 1, 1) := by decide +kernel
theorem dX7_cup_59 : decode cX7_cup 59 = .ok (.iaload, 1) := by decide +kernel
theorem dX7_cup_60 : decode cX7_cup 60 = .ok (.ireturn, 1) := by decide +kernel
theorem dX7_cup_61 : decode cX7_cup 61 = .ok (.aload_n 0, 1) := by decide +kernel
theorem dX7_cup_62 : decode cX7_cup 62 = .ok (.getfield 10, 3) := by decide +kernel
theorem dX7_cup_65 : decode cX7_cup 65 = .ok (.getfield 46, 3) := by decide +kernel
theorem dX7_cup_68 : decode cX7_cup 68 = .ok (.getfield 144, 3) := by decide +kernel
theorem dX7_cup_71 : decode cX7_cup 71 = .ok (.iload_n 1, 1) := by decide +kernel
theorem dX7_cup_72 : decode cX7_cup 72 = .ok (.iaload, 1) := by decide +kernel
theorem dX7_cup_73 : decode cX7_cup 73 = .ok (.iconst (-1), 1) := by decide +kernel
theorem dX7_cup_74 : decode cX7_cup 74 = .ok (.if_icmp .ne 8, 3) := by decide +kernel
theorem dX7_cup_77 : decode cX7_cup 77 = .ok (.bipush (-4), 2) := by decide +kernel
theorem dX7_cup_79 : decode cX7_cup 79 = .ok (.goto 15, 3) := by decide +kernel
theorem dX7_cup_82 : decode cX7_cup 82 = .ok (.aload_n 0, 1) := by decide +kernel
theorem dX7_cup_83 : decode cX7_cup 83 = .ok (.getfield 10, 3) := by decide +kernel
theorem dX7_cup_86 : decode cX7_cup 86 = .ok (.getfield 46, 3) := by decide +kernel
theorem dX7_cup_89 : decode cX7_cup 89 = .ok (.getfield 144, 3) := by decide +kernel
theorem dX7_cup_92 : decode cX7_cup 92 = .ok (.iload_n 1, 1) := by decide +kernel
theorem dX7_cup_93 : decode cX7_cup 93 = .ok (.iaload, 1) := by decide +kernel
theorem dX7_cup_94 : decode cX7_cup 94 = .ok (.ireturn, 1) := by decide +kernel
theorem dX7_cup_95 : decode cX7_cup 95 = .ok (.aload_n 0, 1) := by decide +kernel
theorem dX7_cup_96 : decode cX7_cup 96 = .ok (.getfield 10, 3) := by decide +kernel
theorem dX7_cup_99 : decode cX7_cup 99 = .ok (.getfield 46, 3) := by decide +kernel
theorem dX7_cup_102 : decode cX7_cup 102 = .ok (.iload_n 1, 1) := by decide +kernel
theorem dX7_cup_103 : decode cX7_cup 103 = .ok (.invokevirtual 147, 3) := by decide +kernel
theorem dX7_cup_106 : decode cX7_cup 106 = .ok (.ireturn, 1) := by decide +kernel
theorem dX7_cup_107 : decode cX7_cup 107 = .ok (.aload_n 0, 1) := by decide +kernel
theorem dX7_cup_108 : decode cX7_cup 108 = .ok (.getfield 10, 3) := by decide +kernel
theorem dX7_cup_111 : decode cX7_cup 111 = .ok (.iload_n 1, 1) := by decide +kernel
theorem dX7_cup_112 : decode cX7_cup 112 = .ok (.invokevirtual 150, 3) := by decide +kernel
theorem dX7_cup_115 : decode cX7_cup 115 = .ok (.ireturn, 1) := by decide +kernel
set_option maxRecDepth 20000 in
theorem ggX7_apple_X7_isBox : GoodIn wsX7_apple wsX7_isBox := goodIn_r _ [7] (by decide +kernel) (by decide +kernel)
set_option maxRecDepth 20000 in
theorem gX7_apple_X7_isBox : GoodIn wsX7_apple (va_wsS RX7 100 yX7_isBox wsX7_isBox) := goodIn_app (goodIn_of _ (by decide +kernel)) ggX7_apple_X7_isBox
set_option maxRecDepth 20000 in
theorem ggX7_apple_X2_appleAt : GoodIn wsX7_apple wsX2_appleAt := goodIn_r _ [12, 13, 61, 62] (by decide +kernel) (by decide +kernel)
set_option maxRecDepth 20000 in
theorem gX7_apple_X2_appleAt : GoodIn wsX7_apple (wsV RX7 160 RX2 yX2_appleAt wsX2_appleAt) := goodIn_app (goodIn_of _ (by decide +kernel)) ggX7_apple_X2_appleAt
set_option maxRecDepth 20000 in
theorem ggX7_apple_X6_weight : GoodIn wsX7_apple wsX6_weight := goodIn_r _ [17] (by decide +kernel) (by decide +kernel)
set_option maxRecDepth 20000 in
theorem gX7_apple_X6_weight : GoodIn wsX7_apple (va_wsS RX7 164 yX6_weight wsX6_weight) := goodIn_app (goodIn_of _ (by decide +kernel)) ggX7_apple_X6_weight
set_option maxRecDepth 20000 in
theorem ggX7_apple_X6_red : GoodIn wsX7_apple wsX6_red := goodIn_r _ [20] (by decide +kernel) (by decide +kernel)
set_option maxRecDepth 20000 in
theorem gX7_apple_X6_red : GoodIn wsX7_apple (va_wsS RX7 167 yX6_red wsX6_red) := goodIn_app (goodIn_of _ (by decide +kernel)) ggX7_apple_X6_red
set_option maxRecDepth 20000 in
theorem ggX7_apple_X6_bruise : GoodIn wsX7_apple wsX6_bruise := goodIn_r _ [23] (by decide +kernel) (by decide +kernel)
set_option maxRecDepth 20000 in
theorem gX7_apple_X6_bruise : GoodIn wsX7_apple (va_wsS RX7 170 yX6_bruise wsX6_bruise) := goodIn_app (goodIn_of _ (by decide +kernel)) ggX7_apple_X6_bruise
set_option maxRecDepth 20000 in
theorem ggX7_apple_X5_isWrong : GoodIn wsX7_apple wsX5_isWrong := goodIn_r _ [28, 29, 30, 31, 32, 33, 34, 35, 36, 37, 38, 39, 16, 40, 41, 15, 17, 42, 19, 20, 43, 22, 23, 50, 51, 52, 53, 54, 55, 56, 57, 58, 59, 60, 63, 64, 65] (by decide +kernel) (by decide +kernel)
set_option maxRecDepth 20000 in
theorem gX7_apple_X5_isWrong : GoodIn wsX7_apple (wsV RX7 173 RX5 yX5_isWrong wsX5_isWrong) := goodIn_app (goodIn_of _ (by decide +kernel)) ggX7_apple_X5_isWrong
theorem dX7_apple_0 : decode cX7_apple 0 = .ok (.iload_n 1, 1) := by decide +kernel
theorem dX7_apple_1 : decode cX7_apple 1 = .ok (.invokestatic 100, 3) := by decide +kernel
theorem dX7_apple_4 : decode cX7_apple 4 = .ok (.ifCond .eq 16, 3) := by decide +kernel
theorem dX7_apple_7 : decode cX7_apple 7 = .ok (.iload_n 2, 1) := by decide +kernel
theorem dX7_apple_8 : decode cX7_apple 8 = .ok (.ifCond .lt 12, 3) := by decide +kernel
theorem dX7_apple_11 : decode cX7_apple 11 = .ok (.iload_n 3, 1) := by decide +kernel
theorem dX7_apple_12 : decode cX7_apple 12 = .ok (.ifCond .lt 8, 3) := by decide +kernel
theorem dX7_apple_15 : decode cX7_apple 15 = .ok (.iload_n 3, 1) := by decide +kernel
theorem dX7_apple_16 : decode cX7_apple 16 = .ok (.iconst 3, 1) := by decide +kernel
theorem dX7_apple_17 : decode cX7_apple 17 = .ok (.if_icmp .le 5, 3) := by decide +kernel
theorem dX7_apple_20 : decode cX7_apple 20 = .ok (.iconst (-1), 1) := by decide +kernel
theorem dX7_apple_21 : decode cX7_apple 21 = .ok (.ireturn, 1) := by decide +kernel
theorem dX7_apple_22 : decode cX7_apple 22 = .ok (.iload_n 2, 1) := by decide +kernel
theorem dX7_apple_23 : decode cX7_apple 23 = .ok (.aload_n 0, 1) := by decide +kernel
theorem dX7_apple_24 : decode cX7_apple 24 = .ok (.getfield 10, 3) := by decide +kernel
theorem dX7_apple_27 : decode cX7_apple 27 = .ok (.getfield 153, 3) := by decide +kernel
theorem dX7_apple_30 : decode cX7_apple 30 = .ok (.getfield 157, 3) := by decide +kernel
theorem dX7_apple_33 : decode cX7_apple 33 = .ok (.iload_n 1, 1) := by decide +kernel
theorem dX7_apple_34 : decode cX7_apple 34 = .ok (.iaload, 1) := by decide +kernel
theorem dX7_apple_35 : decode cX7_apple 35 = .ok (.if_icmp .lt 6, 3) := by decide +kernel
theorem dX7_apple_38 : decode cX7_apple 38 = .ok (.bipush (-4), 2) := by decide +kernel
theorem dX7_apple_40 : decode cX7_apple 40 = .ok (.ireturn, 1) := by decide +kernel
theorem dX7_apple_41 : decode cX7_apple 41 = .ok (.aload_n 0, 1) := by decide +kernel
theorem dX7_apple_42 : decode cX7_apple 42 = .ok (.getfield 10, 3) := by decide +kernel
theorem dX7_apple_45 : decode cX7_apple 45 = .ok (.getfield 153, 3) := by decide +kernel
theorem dX7_apple_48 : decode cX7_apple 48 = .ok (.iload_n 1, 1) := by decide +kernel
theorem dX7_apple_49 : decode cX7_apple 49 = .ok (.iload_n 2, 1) := by decide +kernel
theorem dX7_apple_50 : decode cX7_apple 50 = .ok (.invokevirtual 160, 3) := by decide +kernel
theorem dX7_apple_53 : decode cX7_apple 53 = .ok (.istore 4, 2) := by decide +kernel
theorem dX7_apple_55 : decode cX7_apple 55 = .ok (.iload_n 3, 1) := by decide +kernel
theorem dX7_apple_56 : decode cX7_apple 56 = .ok (.tableswitch 46 0 2 #[28, 34, 40], 28) := by decide +kernel
theorem dX7_apple_84 : decode cX7_apple 84 = .ok (.iload 4, 2) := by decide +kernel
theorem dX7_apple_86 : decode cX7_apple 86 = .ok (.invokestatic 164, 3) := by decide +kernel
theorem dX7_apple_89 : decode cX7_apple 89 = .ok (.ireturn, 1) := by decide +kernel
theorem dX7_apple_90 : decode cX7_apple 90 = .ok (.iload 4, 2) := by decide +kernel
theorem dX7_apple_92 : decode cX7_apple 92 = .ok (.invokestatic 167, 3) := by decide +kernel
theorem dX7_apple_95 : decode cX7_apple 95 = .ok (.ireturn, 1) := by decide +kernel
theorem dX7_apple_96 : decode cX7_apple 96 = .ok (.iload 4, 2) := by decide +kernel
theorem dX7_apple_98 : decode cX7_apple 98 = .ok (.invokestatic 170, 3) := by decide +kernel
theorem dX7_apple_101 : decode cX7_apple 101 = .ok (.ireturn, 1) := by decide +kernel
theorem dX7_apple_102 : decode cX7_apple 102 = .ok (.aload_n 0, 1) := by decide +kernel
theorem dX7_apple_103 : decode cX7_apple 103 = .ok (.getfield 10, 3) := by decide +kernel
theorem dX7_apple_106 : decode cX7_apple 106 = .ok (.iload_n 1, 1) := by decide +kernel
theorem dX7_apple_107 : decode cX7_apple 107 = .ok (.iload 4, 2) := by decide +kernel
theorem dX7_apple_109 : decode cX7_apple 109 = .ok (.invokevirtual 173, 3) := by decide +kernel
theorem dX7_apple_112 : decode cX7_apple 112 = .ok (.ifCond .eq 7, 3) := by decide +kernel
theorem dX7_apple_115 : decode cX7_apple 115 = .ok (.iconst 1, 1) := by decide +kernel
theorem dX7_apple_116 : decode cX7_apple 116 = .ok (.goto 4, 3) := by decide +kernel
theorem dX7_apple_119 : decode cX7_apple 119 = .ok (.iconst 0, 1) := by decide +kernel
theorem dX7_apple_120 : decode cX7_apple 120 = .ok (.ireturn, 1) := by decide +kernel
set_option maxRecDepth 20000 in
theorem ggX7_box_X7_isBox : GoodIn wsX7_box wsX7_isBox := goodIn_r _ [8] (by decide +kernel) (by decide +kernel)
set_option maxRecDepth 20000 in
theorem gX7_box_X7_isBox : GoodIn wsX7_box (va_wsS RX7 100 yX7_isBox wsX7_isBox) := goodIn_app (goodIn_of _ (by decide +kernel)) ggX7_box_X7_isBox
set_option maxRecDepth 20000 in
theorem ggX7_box_X2_weightIn : GoodIn wsX7_box wsX2_weightIn := goodIn_r _ [13, 14, 15, 16, 17, 12, 18, 19, 20, 21, 22, 23, 86, 87] (by decide +kernel) (by decide +kernel)
set_option maxRecDepth 20000 in
theorem gX7_box_X2_weightIn : GoodIn wsX7_box (wsV RX7 177 RX2 yX2_weightIn wsX2_weightIn) := goodIn_app (goodIn_of _ (by decide +kernel)) ggX7_box_X2_weightIn
set_option maxRecDepth 20000 in
theorem ggX7_box_X5_wrongIn : GoodIn wsX7_box wsX5_wrongIn := goodIn_r _ [28, 29, 30, 31, 16, 17, 12, 18, 19, 32, 33, 34, 27, 35, 36, 37, 38, 39, 40, 41, 42, 43, 44, 45, 46, 22, 47, 48, 21, 23, 49, 50, 51, 52, 53, 54, 75, 76, 77, 78, 79, 80, 81, 82, 83, 84, 85, 86, 87, 88, 89, 90] (by decide +kernel) (by decide +kernel)
set_option maxRecDepth 20000 in
theorem gX7_box_X5_wrongIn : GoodIn wsX7_box (wsV RX7 178 RX5 yX5_wrongIn wsX5_wrongIn) := goodIn_app (goodIn_of _ (by decide +kernel)) ggX7_box_X5_wrongIn
set_option maxRecDepth 20000 in
theorem ggX7_box_X2_leastRed : GoodIn wsX7_box wsX2_leastRed := goodIn_r _ [58, 14, 15, 16, 17, 12, 18, 19, 59, 50, 22, 51, 86, 87] (by decide +kernel) (by decide +kernel)
set_option maxRecDepth 20000 in
theorem gX7_box_X2_leastRed : GoodIn wsX7_box (wsV RX7 181 RX2 yX2_leastRed wsX2_leastRed) := goodIn_app (goodIn_of _ (by decide +kernel)) ggX7_box_X2_leastRed
set_option maxRecDepth 20000 in
theorem ggX7_box_X2_greatestBruise : GoodIn wsX7_box wsX2_greatestBruise := goodIn_r _ [63, 14, 64, 65, 66, 67, 15, 16, 17, 12, 18, 19, 68, 53, 22, 54, 86, 87] (by decide +kernel) (by decide +kernel)
set_option maxRecDepth 20000 in
theorem gX7_box_X2_greatestBruise : GoodIn wsX7_box (wsV RX7 184 RX2 yX2_greatestBruise wsX2_greatestBruise) := goodIn_app (goodIn_of _ (by decide +kernel)) ggX7_box_X2_greatestBruise
theorem dX7_box_0 : decode cX7_box 0 = .ok (.iload_n 1, 1) := by decide +kernel
theorem dX7_box_1 : decode cX7_box 1 = .ok (.invokestatic 100, 3) := by decide +kernel
theorem dX7_box_4 : decode cX7_box 4 = .ok (.ifCond .eq 12, 3) := by decide +kernel
theorem dX7_box_7 : decode cX7_box 7 = .ok (.iload_n 2, 1) := by decide +kernel
theorem dX7_box_8 : decode cX7_box 8 = .ok (.ifCond .lt 8, 3) := by decide +kernel
theorem dX7_box_11 : decode cX7_box 11 = .ok (.iload_n 2, 1) := by decide +kernel
theorem dX7_box_12 : decode cX7_box 12 = .ok (.iconst 5, 1) := by decide +kernel
theorem dX7_box_13 : decode cX7_box 13 = .ok (.if_icmp .le 5, 3) := by decide +kernel
theorem dX7_box_16 : decode cX7_box 16 = .ok (.iconst (-1), 1) := by decide +kernel
theorem dX7_box_17 : decode cX7_box 17 = .ok (.ireturn, 1) := by decide +kernel
theorem dX7_box_18 : decode cX7_box 18 = .ok (.iload_n 2, 1) := by decide +kernel
theorem dX7_box_19 : decode cX7_box 19 = .ok (.tableswitch 91 0 4 #[33, 46, 58, 67, 79], 33) := by decide +kernel
theorem dX7_box_52 : decode cX7_box 52 = .ok (.aload_n 0, 1) := by decide +kernel
theorem dX7_box_53 : decode cX7_box 53 = .ok (.getfield 10, 3) := by decide +kernel
theorem dX7_box_56 : decode cX7_box 56 = .ok (.getfield 153, 3) := by decide +kernel
theorem dX7_box_59 : decode cX7_box 59 = .ok (.getfield 157, 3) := by decide +kernel
theorem dX7_box_62 : decode cX7_box 62 = .ok (.iload_n 1, 1) := by decide +kernel
theorem dX7_box_63 : decode cX7_box 63 = .ok (.iaload, 1) := by decide +kernel
theorem dX7_box_64 : decode cX7_box 64 = .ok (.ireturn, 1) := by decide +kernel
theorem dX7_box_65 : decode cX7_box 65 = .ok (.aload_n 0, 1) := by decide +kernel
theorem dX7_box_66 : decode cX7_box 66 = .ok (.getfield 10, 3) := by decide +kernel
theorem dX7_box_69 : decode cX7_box 69 = .ok (.getfield 153, 3) := by decide +kernel
theorem dX7_box_72 : decode cX7_box 72 = .ok (.iload_n 1, 1) := by decide +kernel
theorem dX7_box_73 : decode cX7_box 73 = .ok (.invokevirtual 177, 3) := by decide +kernel
theorem dX7_box_76 : decode cX7_box 76 = .ok (.ireturn, 1) := by decide +kernel
theorem dX7_box_77 : decode cX7_box 77 = .ok (.aload_n 0, 1) := by decide +kernel
theorem dX7_box_78 : decode cX7_box 78 = .ok (.getfield 10, 3) := by decide +kernel
theorem dX7_box_81 : decode cX7_box 81 = .ok (.iload_n 1, 1) := by decide +kernel
theorem dX7_box_82 : decode cX7_box 82 = .ok (.invokevirtual 178, 3) := by decide +kernel
theorem dX7_box_85 : decode cX7_box 85 = .ok (.ireturn, 1) := by decide +kernel
theorem dX7_box_86 : decode cX7_box 86 = .ok (.aload_n 0, 1) := by decide +kernel
theorem dX7_box_87 : decode cX7_box 87 = .ok (.getfield 10, 3) := by decide +kernel
theorem dX7_box_90 : decode cX7_box 90 = .ok (.getfield 153, 3) := by decide +kernel
theorem dX7_box_93 : decode cX7_box 93 = .ok (.iload_n 1, 1) := by decide +kernel
theorem dX7_box_94 : decode cX7_box 94 = .ok (.invokevirtual 181, 3) := by decide +kernel
theorem dX7_box_97 : decode cX7_box 97 = .ok (.ireturn, 1) := by decide +kernel
theorem dX7_box_98 : decode cX7_box 98 = .ok (.aload_n 0, 1) := by decide +kernel
theorem dX7_box_99 : decode cX7_box 99 = .ok (.getfield 10, 3) := by decide +kernel
theorem dX7_box_102 : decode cX7_box 102 = .ok (.getfield 153, 3) := by decide +kernel
theorem dX7_box_105 : decode cX7_box 105 = .ok (.iload_n 1, 1) := by decide +kernel
theorem dX7_box_106 : decode cX7_box 106 = .ok (.invokevirtual 184, 3) := by decide +kernel
theorem dX7_box_109 : decode cX7_box 109 = .ok (.ireturn, 1) := by decide +kernel
theorem dX7_box_110 : decode cX7_box 110 = .ok (.iload_n 1, 1) := by decide +kernel
theorem dX7_box_111 : decode cX7_box 111 = .ok (.iconst 4, 1) := by decide +kernel
theorem dX7_box_112 : decode cX7_box 112 = .ok (.if_icmp .eq 15, 3) := by decide +kernel
theorem dX7_box_115 : decode cX7_box 115 = .ok (.aload_n 0, 1) := by decide +kernel
theorem dX7_box_116 : decode cX7_box 116 = .ok (.getfield 10, 3) := by decide +kernel
theorem dX7_box_119 : decode cX7_box 119 = .ok (.getfield 96, 3) := by decide +kernel
theorem dX7_box_122 : decode cX7_box 122 = .ok (.iload_n 1, 1) := by decide +kernel
theorem dX7_box_123 : decode cX7_box 123 = .ok (.baload, 1) := by decide +kernel
theorem dX7_box_124 : decode cX7_box 124 = .ok (.ifCond .eq 7, 3) := by decide +kernel
theorem dX7_box_127 : decode cX7_box 127 = .ok (.iconst 1, 1) := by decide +kernel
theorem dX7_box_128 : decode cX7_box 128 = .ok (.goto 4, 3) := by decide +kernel
theorem dX7_box_131 : decode cX7_box 131 = .ok (.iconst 0, 1) := by decide +kernel
theorem dX7_box_132 : decode cX7_box 132 = .ok (.ireturn, 1) := by decide +kernel
set_option maxRecDepth 20000 in
theorem ggX7_ruleOf_X1_has : GoodIn wsX7_ruleOf wsX1_has := goodIn_r _ [9, 10, 50, 51, 52] (by decide +kernel) (by decide +kernel)
set_option maxRecDepth 20000 in
theorem gX7_ruleOf_X1_has : GoodIn wsX7_ruleOf (wsV RX7 90 RX1 yX1_has wsX1_has) := goodIn_app (goodIn_of _ (by decide +kernel)) ggX7_ruleOf_X1_has
set_option maxRecDepth 20000 in
theorem ggX7_ruleOf_X6_weight : GoodIn wsX7_ruleOf wsX6_weight := goodIn_r _ [14] (by decide +kernel) (by decide +kernel)
set_option maxRecDepth 20000 in
theorem gX7_ruleOf_X6_weight : GoodIn wsX7_ruleOf (va_wsS RX7 164 yX6_weight wsX6_weight) := goodIn_app (goodIn_of _ (by decide +kernel)) ggX7_ruleOf_X6_weight
set_option maxRecDepth 20000 in
theorem ggX7_ruleOf_X6_red : GoodIn wsX7_ruleOf wsX6_red := goodIn_r _ [17] (by decide +kernel) (by decide +kernel)
set_option maxRecDepth 20000 in
theorem gX7_ruleOf_X6_red : GoodIn wsX7_ruleOf (va_wsS RX7 167 yX6_red wsX6_red) := goodIn_app (goodIn_of _ (by decide +kernel)) ggX7_ruleOf_X6_red
set_option maxRecDepth 20000 in
theorem ggX7_ruleOf_X6_bruise : GoodIn wsX7_ruleOf wsX6_bruise := goodIn_r _ [20] (by decide +kernel) (by decide +kernel)
set_option maxRecDepth 20000 in
theorem gX7_ruleOf_X6_bruise : GoodIn wsX7_ruleOf (va_wsS RX7 170 yX6_bruise wsX6_bruise) := goodIn_app (goodIn_of _ (by decide +kernel)) ggX7_ruleOf_X6_bruise
set_option maxRecDepth 20000 in
theorem ggX7_ruleOf_X1_isHidden : GoodIn wsX7_ruleOf wsX1_isHidden := goodIn_r _ [24, 25, 26, 6, 7, 8, 9, 10, 27, 28, 13, 29, 30, 12, 14, 31, 16, 17, 32, 19, 20, 50, 51, 52] (by decide +kernel) (by decide +kernel)
set_option maxRecDepth 20000 in
theorem gX7_ruleOf_X1_isHidden : GoodIn wsX7_ruleOf (wsV RX7 193 RX1 yX1_isHidden wsX1_isHidden) := goodIn_app (goodIn_of _ (by decide +kernel)) ggX7_ruleOf_X1_isHidden
theorem dX7_ruleOf_0 : decode cX7_ruleOf 0 = .ok (.aload_n 0, 1) := by decide +kernel
theorem dX7_ruleOf_1 : decode cX7_ruleOf 1 = .ok (.getfield 10, 3) := by decide +kernel
theorem dX7_ruleOf_4 : decode cX7_ruleOf 4 = .ok (.getfield 72, 3) := by decide +kernel
theorem dX7_ruleOf_7 : decode cX7_ruleOf 7 = .ok (.iload_n 1, 1) := by decide +kernel
theorem dX7_ruleOf_8 : decode cX7_ruleOf 8 = .ok (.invokevirtual 90, 3) := by decide +kernel
theorem dX7_ruleOf_11 : decode cX7_ruleOf 11 = .ok (.ifCond .eq 12, 3) := by decide +kernel
theorem dX7_ruleOf_14 : decode cX7_ruleOf 14 = .ok (.iload_n 2, 1) := by decide +kernel
theorem dX7_ruleOf_15 : decode cX7_ruleOf 15 = .ok (.ifCond .lt 8, 3) := by decide +kernel
theorem dX7_ruleOf_18 : decode cX7_ruleOf 18 = .ok (.iload_n 2, 1) := by decide +kernel
theorem dX7_ruleOf_19 : decode cX7_ruleOf 19 = .ok (.iconst 4, 1) := by decide +kernel
theorem dX7_ruleOf_20 : decode cX7_ruleOf 20 = .ok (.if_icmp .le 5, 3) := by decide +kernel
theorem dX7_ruleOf_23 : decode cX7_ruleOf 23 = .ok (.iconst (-1), 1) := by decide +kernel
theorem dX7_ruleOf_24 : decode cX7_ruleOf 24 = .ok (.ireturn, 1) := by decide +kernel
theorem dX7_ruleOf_25 : decode cX7_ruleOf 25 = .ok (.aload_n 0, 1) := by decide +kernel
theorem dX7_ruleOf_26 : decode cX7_ruleOf 26 = .ok (.getfield 10, 3) := by decide +kernel
theorem dX7_ruleOf_29 : decode cX7_ruleOf 29 = .ok (.getfield 72, 3) := by decide +kernel
theorem dX7_ruleOf_32 : decode cX7_ruleOf 32 = .ok (.getfield 187, 3) := by decide +kernel
theorem dX7_ruleOf_35 : decode cX7_ruleOf 35 = .ok (.iload_n 1, 1) := by decide +kernel
theorem dX7_ruleOf_36 : decode cX7_ruleOf 36 = .ok (.iaload, 1) := by decide +kernel
theorem dX7_ruleOf_37 : decode cX7_ruleOf 37 = .ok (.istore_n 3, 1) := by decide +kernel
theorem dX7_ruleOf_38 : decode cX7_ruleOf 38 = .ok (.iload_n 2, 1) := by decide +kernel
theorem dX7_ruleOf_39 : decode cX7_ruleOf 39 = .ok (.tableswitch 57 0 3 #[29, 34, 39, 44], 29) := by decide +kernel
theorem dX7_ruleOf_68 : decode cX7_ruleOf 68 = .ok (.iload_n 3, 1) := by decide +kernel
theorem dX7_ruleOf_69 : decode cX7_ruleOf 69 = .ok (.invokestatic 164, 3) := by decide +kernel
theorem dX7_ruleOf_72 : decode cX7_ruleOf 72 = .ok (.ireturn, 1) := by decide +kernel
theorem dX7_ruleOf_73 : decode cX7_ruleOf 73 = .ok (.iload_n 3, 1) := by decide +kernel
theorem dX7_ruleOf_74 : decode cX7_ruleOf 74 = .ok (.invokestatic 167, 3) := by decide +kernel
theorem dX7_ruleOf_77 : decode cX7_ruleOf 77 = .ok (.ireturn, 1) := by decide +kernel
theorem dX7_ruleOf_78 : decode cX7_ruleOf 78 = .ok (.iload_n 3, 1) := by decide +kernel
theorem dX7_ruleOf_79 : decode cX7_ruleOf 79 = .ok (.invokestatic 170, 3) := by decide +kernel
theorem dX7_ruleOf_82 : decode cX7_ruleOf 82 = .ok (.ireturn, 1) := by decide +kernel
theorem dX7_ruleOf_83 : decode cX7_ruleOf 83 = .ok (.aload_n 0, 1) := by decide +kernel
theorem dX7_ruleOf_84 : decode cX7_ruleOf 84 = .ok (.getfield 10, 3) := by decide +kernel
theorem dX7_ruleOf_87 : decode cX7_ruleOf 87 = .ok (.getfield 72, 3) := by decide +kernel
theorem dX7_ruleOf_90 : decode cX7_ruleOf 90 = .ok (.getfield 190, 3) := by decide +kernel
theorem dX7_ruleOf_93 : decode cX7_ruleOf 93 = .ok (.iload_n 1, 1) := by decide +kernel
theorem dX7_ruleOf_94 : decode cX7_ruleOf 94 = .ok (.iaload, 1) := by decide +kernel
theorem dX7_ruleOf_95 : decode cX7_ruleOf 95 = .ok (.ireturn, 1) := by decide +kernel
theorem dX7_ruleOf_96 : decode cX7_ruleOf 96 = .ok (.aload_n 0, 1) := by decide +kernel
theorem dX7_ruleOf_97 : decode cX7_ruleOf 97 = .ok (.getfield 10, 3) := by decide +kernel
theorem dX7_ruleOf_100 : decode cX7_ruleOf 100 = .ok (.getfield 72, 3) := by decide +kernel
theorem dX7_ruleOf_103 : decode cX7_ruleOf 103 = .ok (.iload_n 1, 1) := by decide +kernel
theorem dX7_ruleOf_104 : decode cX7_ruleOf 104 = .ok (.invokevirtual 193, 3) := by decide +kernel
theorem dX7_ruleOf_107 : decode cX7_ruleOf 107 = .ok (.ifCond .eq 7, 3) := by decide +kernel
theorem dX7_ruleOf_110 : decode cX7_ruleOf 110 = .ok (.iconst 1, 1) := by decide +kernel
theorem dX7_ruleOf_111 : decode cX7_ruleOf 111 = .ok (.goto 4, 3) := by decide +kernel
theorem dX7_ruleOf_114 : decode cX7_ruleOf 114 = .ok (.iconst 0, 1) := by decide +kernel
theorem dX7_ruleOf_115 : decode cX7_ruleOf 115 = .ok (.ireturn, 1) := by decide +kernel
set_option maxRecDepth 20000 in
theorem ggX7_lane_X6_inRange : GoodIn wsX7_lane wsX6_inRange := goodIn_r _ [6] (by decide +kernel) (by decide +kernel)
set_option maxRecDepth 20000 in
theorem gX7_lane_X6_inRange : GoodIn wsX7_lane (va_wsS RX7 40 yX6_inRange wsX6_inRange) := goodIn_app (goodIn_of _ (by decide +kernel)) ggX7_lane_X6_inRange
set_option maxRecDepth 20000 in
theorem ggX7_lane_X6_of : GoodIn wsX7_lane wsX6_of := goodIn_r _ [9] (by decide +kernel) (by decide +kernel)
set_option maxRecDepth 20000 in
theorem gX7_lane_X6_of : GoodIn wsX7_lane (va_wsS RX7 60 yX6_of wsX6_of) := goodIn_app (goodIn_of _ (by decide +kernel)) ggX7_lane_X6_of
set_option maxRecDepth 20000 in
theorem ggX7_lane_X5_seen : GoodIn wsX7_lane wsX5_seen := goodIn_r _ [14, 15, 16, 17, 18, 19, 20, 21, 22, 23, 24, 5, 25, 26, 27, 28, 29, 30, 31, 32, 8, 9, 57, 58, 59, 60, 61, 62, 63, 64, 65, 66, 67] (by decide +kernel) (by decide +kernel)
set_option maxRecDepth 20000 in
theorem gX7_lane_X5_seen : GoodIn wsX7_lane (wsV RX7 196 RX5 yX5_seen wsX5_seen) := goodIn_app (goodIn_of _ (by decide +kernel)) ggX7_lane_X5_seen
set_option maxRecDepth 20000 in
theorem ggX7_lane_X1_laneFromFirst : GoodIn wsX7_lane wsX1_laneFromFirst := goodIn_r _ [37, 38, 39, 40, 41, 42, 5, 43, 44, 30, 31, 45, 24, 25, 46, 27, 28, 68, 69, 70] (by decide +kernel) (by decide +kernel)
set_option maxRecDepth 20000 in
theorem gX7_lane_X1_laneFromFirst : GoodIn wsX7_lane (wsV RX7 199 RX1 yX1_laneFromFirst wsX1_laneFromFirst) := goodIn_app (goodIn_of _ (by decide +kernel)) ggX7_lane_X1_laneFromFirst
set_option maxRecDepth 20000 in
theorem ggX7_lane_X1_laneFromLast : GoodIn wsX7_lane wsX1_laneFromLast := goodIn_r _ [50, 38, 39, 40, 41, 42, 5, 43, 44, 30, 31, 45, 24, 25, 46, 27, 28, 68, 69, 70] (by decide +kernel) (by decide +kernel)
set_option maxRecDepth 20000 in
theorem gX7_lane_X1_laneFromLast : GoodIn wsX7_lane (wsV RX7 202 RX1 yX1_laneFromLast wsX1_laneFromLast) := goodIn_app (goodIn_of _ (by decide +kernel)) ggX7_lane_X1_laneFromLast
theorem dX7_lane_0 : decode cX7_lane 0 = .ok (.iload_n 1, 1) := by decide +kernel
theorem dX7_lane_1 : decode cX7_lane 1 = .ok (.iload_n 2, 1) := by decide +kernel
theorem dX7_lane_2 : decode cX7_lane 2 = .ok (.iload_n 3, 1) := by decide +kernel
theorem dX7_lane_3 : decode cX7_lane 3 = .ok (.invokestatic 40, 3) := by decide +kernel
theorem dX7_lane_6 : decode cX7_lane 6 = .ok (.ifCond .eq 14, 3) := by decide +kernel
theorem dX7_lane_9 : decode cX7_lane 9 = .ok (.iload 4, 2) := by decide +kernel
theorem dX7_lane_11 : decode cX7_lane 11 = .ok (.ifCond .eq 11, 3) := by decide +kernel
theorem dX7_lane_14 : decode cX7_lane 14 = .ok (.iload 4, 2) := by decide +kernel
theorem dX7_lane_16 : decode cX7_lane 16 = .ok (.iconst 1, 1) := by decide +kernel
theorem dX7_lane_17 : decode cX7_lane 17 = .ok (.if_icmp .eq 5, 3) := by decide +kernel
theorem dX7_lane_20 : decode cX7_lane 20 = .ok (.iconst (-1), 1) := by decide +kernel
theorem dX7_lane_21 : decode cX7_lane 21 = .ok (.ireturn, 1) := by decide +kernel
theorem dX7_lane_22 : decode cX7_lane 22 = .ok (.aload_n 0, 1) := by decide +kernel
theorem dX7_lane_23 : decode cX7_lane 23 = .ok (.getfield 10, 3) := by decide +kernel
theorem dX7_lane_26 : decode cX7_lane 26 = .ok (.iload_n 1, 1) := by decide +kernel
theorem dX7_lane_27 : decode cX7_lane 27 = .ok (.iload_n 2, 1) := by decide +kernel
theorem dX7_lane_28 : decode cX7_lane 28 = .ok (.iload_n 3, 1) := by decide +kernel
theorem dX7_lane_29 : decode cX7_lane 29 = .ok (.invokestatic 60, 3) := by decide +kernel
theorem dX7_lane_32 : decode cX7_lane 32 = .ok (.invokevirtual 196, 3) := by decide +kernel
theorem dX7_lane_35 : decode cX7_lane 35 = .ok (.istore 5, 2) := by decide +kernel
theorem dX7_lane_37 : decode cX7_lane 37 = .ok (.iload 4, 2) := by decide +kernel
theorem dX7_lane_39 : decode cX7_lane 39 = .ok (.ifCond .ne 18, 3) := by decide +kernel
theorem dX7_lane_42 : decode cX7_lane 42 = .ok (.aload_n 0, 1) := by decide +kernel
theorem dX7_lane_43 : decode cX7_lane 43 = .ok (.getfield 10, 3) := by decide +kernel
theorem dX7_lane_46 : decode cX7_lane 46 = .ok (.getfield 72, 3) := by decide +kernel
theorem dX7_lane_49 : decode cX7_lane 49 = .ok (.iload 5, 2) := by decide +kernel
theorem dX7_lane_51 : decode cX7_lane 51 = .ok (.invokevirtual 199, 3) := by decide +kernel
theorem dX7_lane_54 : decode cX7_lane 54 = .ok (.goto 15, 3) := by decide +kernel
theorem dX7_lane_57 : decode cX7_lane 57 = .ok (.aload_n 0, 1) := by decide +kernel
theorem dX7_lane_58 : decode cX7_lane 58 = .ok (.getfield 10, 3) := by decide +kernel
theorem dX7_lane_61 : decode cX7_lane 61 = .ok (.getfield 72, 3) := by decide +kernel
theorem dX7_lane_64 : decode cX7_lane 64 = .ok (.iload 5, 2) := by decide +kernel
theorem dX7_lane_66 : decode cX7_lane 66 = .ok (.invokevirtual 202, 3) := by decide +kernel
theorem dX7_lane_69 : decode cX7_lane 69 = .ok (.ireturn, 1) := by decide +kernel
set_option maxRecDepth 20000 in
theorem ggX7_misses_X1_has : GoodIn wsX7_misses wsX1_has := goodIn_r _ [8, 9, 63, 64, 65] (by decide +kernel) (by decide +kernel)
set_option maxRecDepth 20000 in
theorem gX7_misses_X1_has : GoodIn wsX7_misses (wsV RX7 90 RX1 yX1_has wsX1_has) := goodIn_app (goodIn_of _ (by decide +kernel)) ggX7_misses_X1_has
set_option maxRecDepth 20000 in
theorem ggX7_misses_X6_inRange : GoodIn wsX7_misses wsX6_inRange := goodIn_r _ [13] (by decide +kernel) (by decide +kernel)
set_option maxRecDepth 20000 in
theorem gX7_misses_X6_inRange : GoodIn wsX7_misses (va_wsS RX7 40 yX6_inRange wsX6_inRange) := goodIn_app (goodIn_of _ (by decide +kernel)) ggX7_misses_X6_inRange
set_option maxRecDepth 20000 in
theorem ggX7_misses_X6_of : GoodIn wsX7_misses wsX6_of := goodIn_r _ [16] (by decide +kernel) (by decide +kernel)
set_option maxRecDepth 20000 in
theorem gX7_misses_X6_of : GoodIn wsX7_misses (va_wsS RX7 60 yX6_of wsX6_of) := goodIn_app (goodIn_of _ (by decide +kernel)) ggX7_misses_X6_of
set_option maxRecDepth 20000 in
theorem ggX7_misses_X5_seen : GoodIn wsX7_misses wsX5_seen := goodIn_r _ [21, 22, 23, 24, 25, 26, 27, 28, 29, 30, 31, 12, 32, 33, 34, 35, 36, 37, 38, 39, 15, 16, 52, 53, 54, 55, 56, 57, 58, 59, 60, 61, 62] (by decide +kernel) (by decide +kernel)
set_option maxRecDepth 20000 in
theorem gX7_misses_X5_seen : GoodIn wsX7_misses (wsV RX7 196 RX5 yX5_seen wsX5_seen) := goodIn_app (goodIn_of _ (by decide +kernel)) ggX7_misses_X5_seen
set_option maxRecDepth 20000 in
theorem ggX7_misses_X6_shortOf : GoodIn wsX7_misses wsX6_shortOf := goodIn_r _ [42, 43, 37, 12, 38, 44, 31, 32, 45, 34, 35] (by decide +kernel) (by decide +kernel)
set_option maxRecDepth 20000 in
theorem gX7_misses_X6_shortOf : GoodIn wsX7_misses (va_wsS RX7 205 yX6_shortOf wsX6_shortOf) := goodIn_app (goodIn_of _ (by decide +kernel)) ggX7_misses_X6_shortOf
theorem dX7_misses_0 : decode cX7_misses 0 = .ok (.aload_n 0, 1) := by decide +kernel
theorem dX7_misses_1 : decode cX7_misses 1 = .ok (.getfield 10, 3) := by decide +kernel
theorem dX7_misses_4 : decode cX7_misses 4 = .ok (.getfield 72, 3) := by decide +kernel
theorem dX7_misses_7 : decode cX7_misses 7 = .ok (.iload_n 1, 1) := by decide +kernel
theorem dX7_misses_8 : decode cX7_misses 8 = .ok (.invokevirtual 90, 3) := by decide +kernel
theorem dX7_misses_11 : decode cX7_misses 11 = .ok (.ifCond .eq 13, 3) := by decide +kernel
theorem dX7_misses_14 : decode cX7_misses 14 = .ok (.iload_n 2, 1) := by decide +kernel
theorem dX7_misses_15 : decode cX7_misses 15 = .ok (.iload_n 3, 1) := by decide +kernel
theorem dX7_misses_16 : decode cX7_misses 16 = .ok (.iload 4, 2) := by decide +kernel
theorem dX7_misses_18 : decode cX7_misses 18 = .ok (.invokestatic 40, 3) := by decide +kernel
theorem dX7_misses_21 : decode cX7_misses 21 = .ok (.ifCond .ne 5, 3) := by decide +kernel
theorem dX7_misses_24 : decode cX7_misses 24 = .ok (.iconst (-1), 1) := by decide +kernel
theorem dX7_misses_25 : decode cX7_misses 25 = .ok (.ireturn, 1) := by decide +kernel
theorem dX7_misses_26 : decode cX7_misses 26 = .ok (.aload_n 0, 1) := by decide +kernel
theorem dX7_misses_27 : decode cX7_misses 27 = .ok (.getfield 10, 3) := by decide +kernel
theorem dX7_misses_30 : decode cX7_misses 30 = .ok (.getfield 72, 3) := by decide +kernel
theorem dX7_misses_33 : decode cX7_misses 33 = .ok (.getfield 187, 3) := by decide +kernel
theorem dX7_misses_36 : decode cX7_misses 36 = .ok (.iload_n 1, 1) := by decide +kernel
theorem dX7_misses_37 : decode cX7_misses 37 = .ok (.iaload, 1) := by decide +kernel
theorem dX7_misses_38 : decode cX7_misses 38 = .ok (.aload_n 0, 1) := by decide +kernel
theorem dX7_misses_39 : decode cX7_misses 39 = .ok (.getfield 10, 3) := by decide +kernel
theorem dX7_misses_42 : decode cX7_misses 42 = .ok (.iload_n 2, 1) := by decide +kernel
theorem dX7_misses_43 : decode cX7_misses 43 = .ok (.iload_n 3, 1) := by decide +kernel
theorem dX7_misses_44 : decode cX7_misses 44 = .ok (.iload 4, 2) := by decide +kernel
theorem dX7_misses_46 : decode cX7_misses 46 = .ok (.invokestatic 60, 3) := by decide +kernel
theorem dX7_misses_49 : decode cX7_misses 49 = .ok (.invokevirtual 196, 3) := by decide +kernel
theorem dX7_misses_52 : decode cX7_misses 52 = .ok (.invokestatic 205, 3) := by decide +kernel
theorem dX7_misses_55 : decode cX7_misses 55 = .ok (.ireturn, 1) := by decide +kernel
set_option maxRecDepth 20000 in
theorem ggX7_count_X0_apples : GoodIn wsX7_count wsX0_apples := goodIn_r _ [18, 19, 108, 109, 110] (by decide +kernel) (by decide +kernel)
set_option maxRecDepth 20000 in
theorem gX7_count_X0_apples : GoodIn wsX7_count (wsV RX7 211 RX0 yX0_apples wsX0_apples) := goodIn_app (goodIn_of _ (by decide +kernel)) ggX7_count_X0_apples
set_option maxRecDepth 20000 in
theorem ggX7_count_X0_doubles : GoodIn wsX7_count wsX0_doubles := goodIn_r _ [23, 19, 108, 109, 110] (by decide +kernel) (by decide +kernel)
set_option maxRecDepth 20000 in
theorem gX7_count_X0_doubles : GoodIn wsX7_count (wsV RX7 214 RX0 yX0_doubles wsX0_doubles) := goodIn_app (goodIn_of _ (by decide +kernel)) ggX7_count_X0_doubles
set_option maxRecDepth 20000 in
theorem ggX7_count_X2_applesBelow : GoodIn wsX7_count wsX2_applesBelow := goodIn_r _ [28, 29, 111, 112] (by decide +kernel) (by decide +kernel)
set_option maxRecDepth 20000 in
theorem gX7_count_X2_applesBelow : GoodIn wsX7_count (wsV RX7 217 RX2 yX2_applesBelow wsX2_applesBelow) := goodIn_app (goodIn_of _ (by decide +kernel)) ggX7_count_X2_applesBelow
set_option maxRecDepth 20000 in
theorem ggX7_count_X5_wrongInAll : GoodIn wsX7_count wsX5_wrongInAll := goodIn_r _ [34, 35, 36, 37, 33, 38, 39, 40, 41, 42, 43, 27, 44, 45, 46, 47, 48, 49, 50, 51, 52, 53, 54, 55, 56, 57, 58, 59, 60, 61, 62, 63, 64, 65, 66, 67, 68, 69, 70, 71, 83, 84, 85, 86, 87, 88, 89, 90, 91, 92, 93, 111, 112, 94, 95, 96] (by decide +kernel) (by decide +kernel)
set_option maxRecDepth 20000 in
theorem gX7_count_X5_wrongInAll : GoodIn wsX7_count (wsV RX7 220 RX5 yX5_wrongInAll wsX5_wrongInAll) := goodIn_app (goodIn_of _ (by decide +kernel)) ggX7_count_X5_wrongInAll
set_option maxRecDepth 20000 in
theorem ggX7_count_X5_settingShown : GoodIn wsX7_count wsX5_settingShown := goodIn_r _ [75, 76, 83, 84, 85, 86, 87, 88, 89, 90, 91, 92, 93] (by decide +kernel) (by decide +kernel)
set_option maxRecDepth 20000 in
theorem gX7_count_X5_settingShown : GoodIn wsX7_count (wsV RX7 113 RX5 yX5_settingShown wsX5_settingShown) := goodIn_app (goodIn_of _ (by decide +kernel)) ggX7_count_X5_settingShown
theorem dX7_count_0 : decode cX7_count 0 = .ok (.iload_n 1, 1) := by decide +kernel
theorem dX7_count_1 : decode cX7_count 1 = .ok (.tableswitch 223 0 15 #[79, 90, 98, 109, 120, 132, 140, 148, 156, 164, 172, 180, 189, 198, 207, 215], 79) := by decide +kernel
theorem dX7_count_80 : decode cX7_count 80 = .ok (.aload_n 0, 1) := by decide +kernel
theorem dX7_count_81 : decode cX7_count 81 = .ok (.getfield 10, 3) := by decide +kernel
theorem dX7_count_84 : decode cX7_count 84 = .ok (.getfield 72, 3) := by decide +kernel
theorem dX7_count_87 : decode cX7_count 87 = .ok (.getfield 76, 3) := by decide +kernel
theorem dX7_count_90 : decode cX7_count 90 = .ok (.ireturn, 1) := by decide +kernel
theorem dX7_count_91 : decode cX7_count 91 = .ok (.aload_n 0, 1) := by decide +kernel
theorem dX7_count_92 : decode cX7_count 92 = .ok (.getfield 10, 3) := by decide +kernel
theorem dX7_count_95 : decode cX7_count 95 = .ok (.getfield 208, 3) := by decide +kernel
theorem dX7_count_98 : decode cX7_count 98 = .ok (.ireturn, 1) := by decide +kernel
theorem dX7_count_99 : decode cX7_count 99 = .ok (.aload_n 0, 1) := by decide +kernel
theorem dX7_count_100 : decode cX7_count 100 = .ok (.getfield 10, 3) := by decide +kernel
theorem dX7_count_103 : decode cX7_count 103 = .ok (.getfield 46, 3) := by decide +kernel
theorem dX7_count_106 : decode cX7_count 106 = .ok (.invokevirtual 211, 3) := by decide +kernel
theorem dX7_count_109 : decode cX7_count 109 = .ok (.ireturn, 1) := by decide +kernel
theorem dX7_count_110 : decode cX7_count 110 = .ok (.aload_n 0, 1) := by decide +kernel
theorem dX7_count_111 : decode cX7_count 111 = .ok (.getfield 10, 3) := by decide +kernel
theorem dX7_count_114 : decode cX7_count 114 = .ok (.getfield 46, 3) := by decide +kernel
theorem dX7_count_117 : decode cX7_count 117 = .ok (.invokevirtual 214, 3) := by decide +kernel
theorem dX7_count_120 : decode cX7_count 120 = .ok (.ireturn, 1) := by decide +kernel
theorem dX7_count_121 : decode cX7_count 121 = .ok (.aload_n 0, 1) := by decide +kernel
theorem dX7_count_122 : decode cX7_count 122 = .ok (.getfield 10, 3) := by decide +kernel
theorem dX7_count_125 : decode cX7_count 125 = .ok (.getfield 153, 3) := by decide +kernel
theorem dX7_count_128 : decode cX7_count 128 = .ok (.iconst 5, 1) := by decide +kernel
theorem dX7_count_129 : decode cX7_count 129 = .ok (.invokevirtual 217, 3) := by decide +kernel
theorem dX7_count_132 : decode cX7_count 132 = .ok (.ireturn, 1) := by decide +kernel
theorem dX7_count_133 : decode cX7_count 133 = .ok (.aload_n 0, 1) := by decide +kernel
theorem dX7_count_134 : decode cX7_count 134 = .ok (.getfield 10, 3) := by decide +kernel
theorem dX7_count_137 : decode cX7_count 137 = .ok (.invokevirtual 220, 3) := by decide +kernel
theorem dX7_count_140 : decode cX7_count 140 = .ok (.ireturn, 1) := by decide +kernel
theorem dX7_count_141 : decode cX7_count 141 = .ok (.aload_n 0, 1) := by decide +kernel
theorem dX7_count_142 : decode cX7_count 142 = .ok (.getfield 10, 3) := by decide +kernel
theorem dX7_count_145 : decode cX7_count 145 = .ok (.getfield 223, 3) := by decide +kernel
theorem dX7_count_148 : decode cX7_count 148 = .ok (.ireturn, 1) := by decide +kernel
theorem dX7_count_149 : decode cX7_count 149 = .ok (.aload_n 0, 1) := by decide +kernel
theorem dX7_count_150 : decode cX7_count 150 = .ok (.getfield 10, 3) := by decide +kernel
theorem dX7_count_153 : decode cX7_count 153 = .ok (.getfield 226, 3) := by decide +kernel
theorem dX7_count_156 : decode cX7_count 156 = .ok (.ireturn, 1) := by decide +kernel
theorem dX7_count_157 : decode cX7_count 157 = .ok (.aload_n 0, 1) := by decide +kernel
theorem dX7_count_158 : decode cX7_count 158 = .ok (.getfield 10, 3) := by decide +kernel
theorem dX7_count_161 : decode cX7_count 161 = .ok (.getfield 229, 3) := by decide +kernel
theorem dX7_count_164 : decode cX7_count 164 = .ok (.ireturn, 1) := by decide +kernel
theorem dX7_count_165 : decode cX7_count 165 = .ok (.aload_n 0, 1) := by decide +kernel
theorem dX7_count_166 : decode cX7_count 166 = .ok (.getfield 10, 3) := by decide +kernel
theorem dX7_count_169 : decode cX7_count 169 = .ok (.getfield 232, 3) := by decide +kernel
theorem dX7_count_172 : decode cX7_count 172 = .ok (.ireturn, 1) := by decide +kernel
theorem dX7_count_173 : decode cX7_count 173 = .ok (.aload_n 0, 1) := by decide +kernel
theorem dX7_count_174 : decode cX7_count 174 = .ok (.getfield 10, 3) := by decide +kernel
theorem dX7_count_177 : decode cX7_count 177 = .ok (.getfield 235, 3) := by decide +kernel
theorem dX7_count_180 : decode cX7_count 180 = .ok (.ireturn, 1) := by decide +kernel
theorem dX7_count_181 : decode cX7_count 181 = .ok (.aload_n 0, 1) := by decide +kernel
theorem dX7_count_182 : decode cX7_count 182 = .ok (.getfield 10, 3) := by decide +kernel
theorem dX7_count_185 : decode cX7_count 185 = .ok (.iconst 0, 1) := by decide +kernel
theorem dX7_count_186 : decode cX7_count 186 = .ok (.invokevirtual 113, 3) := by decide +kernel
theorem dX7_count_189 : decode cX7_count 189 = .ok (.ireturn, 1) := by decide +kernel
theorem dX7_count_190 : decode cX7_count 190 = .ok (.aload_n 0, 1) := by decide +kernel
theorem dX7_count_191 : decode cX7_count 191 = .ok (.getfield 10, 3) := by decide +kernel
theorem dX7_count_194 : decode cX7_count 194 = .ok (.iconst 1, 1) := by decide +kernel
theorem dX7_count_195 : decode cX7_count 195 = .ok (.invokevirtual 113, 3) := by decide +kernel
theorem dX7_count_198 : decode cX7_count 198 = .ok (.ireturn, 1) := by decide +kernel
theorem dX7_count_199 : decode cX7_count 199 = .ok (.aload_n 0, 1) := by decide +kernel
theorem dX7_count_200 : decode cX7_count 200 = .ok (.getfield 10, 3) := by decide +kernel
theorem dX7_count_203 : decode cX7_count 203 = .ok (.iconst 2, 1) := by decide +kernel
theorem dX7_count_204 : decode cX7_count 204 = .ok (.invokevirtual 113, 3) := by decide +kernel
theorem dX7_count_207 : decode cX7_count 207 = .ok (.ireturn, 1) := by decide +kernel
theorem dX7_count_208 : decode cX7_count 208 = .ok (.aload_n 0, 1) := by decide +kernel
theorem dX7_count_209 : decode cX7_count 209 = .ok (.getfield 32, 3) := by decide +kernel
theorem dX7_count_212 : decode cX7_count 212 = .ok (.getfield 119, 3) := by decide +kernel
theorem dX7_count_215 : decode cX7_count 215 = .ok (.ireturn, 1) := by decide +kernel
theorem dX7_count_216 : decode cX7_count 216 = .ok (.aload_n 0, 1) := by decide +kernel
theorem dX7_count_217 : decode cX7_count 217 = .ok (.getfield 25, 3) := by decide +kernel
theorem dX7_count_220 : decode cX7_count 220 = .ok (.getfield 238, 3) := by decide +kernel
theorem dX7_count_223 : decode cX7_count 223 = .ok (.ireturn, 1) := by decide +kernel
theorem dX7_count_224 : decode cX7_count 224 = .ok (.iconst (-1), 1) := by decide +kernel
theorem dX7_count_225 : decode cX7_count 225 = .ok (.ireturn, 1) := by decide +kernel
set_option maxRecDepth 20000 in
theorem ggX7_right_X2_applesBelow : GoodIn wsX7_right wsX2_applesBelow := goodIn_r _ [7, 8, 68, 69] (by decide +kernel) (by decide +kernel)
set_option maxRecDepth 20000 in
theorem gX7_right_X2_applesBelow : GoodIn wsX7_right (wsV RX7 217 RX2 yX2_applesBelow wsX2_applesBelow) := goodIn_app (goodIn_of _ (by decide +kernel)) ggX7_right_X2_applesBelow
set_option maxRecDepth 20000 in
theorem ggX7_right_X5_wrongInAll : GoodIn wsX7_right wsX5_wrongInAll := goodIn_r _ [13, 14, 15, 16, 12, 17, 18, 19, 20, 21, 22, 6, 23, 24, 25, 26, 27, 28, 29, 30, 31, 32, 33, 34, 35, 36, 37, 38, 39, 40, 41, 42, 43, 44, 45, 46, 47, 48, 49, 50, 57, 58, 59, 60, 61, 62, 63, 64, 65, 66, 67, 68, 69, 70, 71, 72] (by decide +kernel) (by decide +kernel)
set_option maxRecDepth 20000 in
theorem gX7_right_X5_wrongInAll : GoodIn wsX7_right (wsV RX7 220 RX5 yX5_wrongInAll wsX5_wrongInAll) := goodIn_app (goodIn_of _ (by decide +kernel)) ggX7_right_X5_wrongInAll
theorem dX7_right_0 : decode cX7_right 0 = .ok (.aload_n 0, 1) := by decide +kernel
theorem dX7_right_1 : decode cX7_right 1 = .ok (.getfield 10, 3) := by decide +kernel
theorem dX7_right_4 : decode cX7_right 4 = .ok (.getfield 153, 3) := by decide +kernel
theorem dX7_right_7 : decode cX7_right 7 = .ok (.iconst 4, 1) := by decide +kernel
theorem dX7_right_8 : decode cX7_right 8 = .ok (.invokevirtual 217, 3) := by decide +kernel
theorem dX7_right_11 : decode cX7_right 11 = .ok (.istore_n 1, 1) := by decide +kernel
theorem dX7_right_12 : decode cX7_right 12 = .ok (.iload_n 1, 1) := by decide +kernel
theorem dX7_right_13 : decode cX7_right 13 = .ok (.ifCond .gt 5, 3) := by decide +kernel
theorem dX7_right_16 : decode cX7_right 16 = .ok (.dconst 1, 1) := by decide +kernel
theorem dX7_right_17 : decode cX7_right 17 = .ok (.dreturn, 1) := by decide +kernel
theorem dX7_right_18 : decode cX7_right 18 = .ok (.iload_n 1, 1) := by decide +kernel
theorem dX7_right_19 : decode cX7_right 19 = .ok (.aload_n 0, 1) := by decide +kernel
theorem dX7_right_20 : decode cX7_right 20 = .ok (.getfield 10, 3) := by decide +kernel
theorem dX7_right_23 : decode cX7_right 23 = .ok (.invokevirtual 220, 3) := by decide +kernel
theorem dX7_right_26 : decode cX7_right 26 = .ok (.isub, 1) := by decide +kernel
theorem dX7_right_27 : decode cX7_right 27 = .ok (.i2d, 1) := by decide +kernel
theorem dX7_right_28 : decode cX7_right 28 = .ok (.iload_n 1, 1) := by decide +kernel
theorem dX7_right_29 : decode cX7_right 29 = .ok (.i2d, 1) := by decide +kernel
theorem dX7_right_30 : decode cX7_right 30 = .ok (.ddiv, 1) := by decide +kernel
theorem dX7_right_31 : decode cX7_right 31 = .ok (.dreturn, 1) := by decide +kernel
theorem dX7_isLane_0 : decode cX7_isLane 0 = .ok (.iload_n 0, 1) := by decide +kernel
theorem dX7_isLane_1 : decode cX7_isLane 1 = .ok (.ifCond .lt 12, 3) := by decide +kernel
theorem dX7_isLane_4 : decode cX7_isLane 4 = .ok (.iload_n 0, 1) := by decide +kernel
theorem dX7_isLane_5 : decode cX7_isLane 5 = .ok (.iconst 4, 1) := by decide +kernel
theorem dX7_isLane_6 : decode cX7_isLane 6 = .ok (.if_icmp .ge 7, 3) := by decide +kernel
theorem dX7_isLane_9 : decode cX7_isLane 9 = .ok (.iconst 1, 1) := by decide +kernel
theorem dX7_isLane_10 : decode cX7_isLane 10 = .ok (.goto 4, 3) := by decide +kernel
theorem dX7_isLane_13 : decode cX7_isLane 13 = .ok (.iconst 0, 1) := by decide +kernel
theorem dX7_isLane_14 : decode cX7_isLane 14 = .ok (.ireturn, 1) := by decide +kernel
theorem dX7_isBox_0 : decode cX7_isBox 0 = .ok (.iload_n 0, 1) := by decide +kernel
theorem dX7_isBox_1 : decode cX7_isBox 1 = .ok (.ifCond .lt 12, 3) := by decide +kernel
theorem dX7_isBox_4 : decode cX7_isBox 4 = .ok (.iload_n 0, 1) := by decide +kernel
theorem dX7_isBox_5 : decode cX7_isBox 5 = .ok (.iconst 4, 1) := by decide +kernel
theorem dX7_isBox_6 : decode cX7_isBox 6 = .ok (.if_icmp .gt 7, 3) := by decide +kernel
theorem dX7_isBox_9 : decode cX7_isBox 9 = .ok (.iconst 1, 1) := by decide +kernel
theorem dX7_isBox_10 : decode cX7_isBox 10 = .ok (.goto 4, 3) := by decide +kernel
theorem dX7_isBox_13 : decode cX7_isBox 13 = .ok (.iconst 0, 1) := by decide +kernel
theorem dX7_isBox_14 : decode cX7_isBox 14 = .ok (.ireturn, 1) := by decide +kernel
