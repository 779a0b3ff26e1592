theorem dX0_init_0 : decode cX0_init 0 = .ok (.aload_n 0, 1) := by decide +kernel
theorem dX0_init_1 : decode cX0_init 1 = .ok (.invokespecial 3, 3) := by decide +kernel
theorem dX0_init_4 : decode cX0_init 4 = .ok (.aload_n 0, 1) := by decide +kernel
theorem dX0_init_5 : decode cX0_init 5 = .ok (.bipush 12, 2) := by decide +kernel
theorem dX0_init_7 : decode cX0_init 7 = .ok (.newarray .int, 2) := by decide +kernel
theorem dX0_init_9 : decode cX0_init 9 = .ok (.putfield 9, 3) := by decide +kernel
theorem dX0_init_12 : decode cX0_init 12 = .ok (.aload_n 0, 1) := by decide +kernel
theorem dX0_init_13 : decode cX0_init 13 = .ok (.bipush 12, 2) := by decide +kernel
theorem dX0_init_15 : decode cX0_init 15 = .ok (.newarray .int, 2) := by decide +kernel
theorem dX0_init_17 : decode cX0_init 17 = .ok (.putfield 15, 3) := by decide +kernel
theorem dX0_init_20 : decode cX0_init 20 = .ok (.aload_n 0, 1) := by decide +kernel
theorem dX0_init_21 : decode cX0_init 21 = .ok (.bipush 24, 2) := by decide +kernel
theorem dX0_init_23 : decode cX0_init 23 = .ok (.newarray .int, 2) := by decide +kernel
theorem dX0_init_25 : decode cX0_init 25 = .ok (.putfield 18, 3) := by decide +kernel
theorem dX0_init_28 : decode cX0_init 28 = .ok (.iconst 0, 1) := by decide +kernel
theorem dX0_init_29 : decode cX0_init 29 = .ok (.istore_n 1, 1) := by decide +kernel
theorem dX0_init_30 : decode cX0_init 30 = .ok (.iload_n 1, 1) := by decide +kernel
theorem dX0_init_31 : decode cX0_init 31 = .ok (.bipush 12, 2) := by decide +kernel
theorem dX0_init_33 : decode cX0_init 33 = .ok (.if_icmp .ge 16, 3) := by decide +kernel
theorem dX0_init_36 : decode cX0_init 36 = .ok (.aload_n 0, 1) := by decide +kernel
theorem dX0_init_37 : decode cX0_init 37 = .ok (.getfield 15, 3) := by decide +kernel
theorem dX0_init_40 : decode cX0_init 40 = .ok (.iload_n 1, 1) := by decide +kernel
theorem dX0_init_41 : decode cX0_init 41 = .ok (.iconst (-1), 1) := by decide +kernel
theorem dX0_init_42 : decode cX0_init 42 = .ok (.iastore, 1) := by decide +kernel
theorem dX0_init_43 : decode cX0_init 43 = .ok (.iinc 1 1, 3) := by decide +kernel
theorem dX0_init_46 : decode cX0_init 46 = .ok (.goto (-16), 3) := by decide +kernel
theorem dX0_init_49 : decode cX0_init 49 = .ok (.return_, 1) := by decide +kernel
theorem dX0_firstIn_0 : decode cX0_firstIn 0 = .ok (.aload_n 0, 1) := by decide +kernel
theorem dX0_firstIn_1 : decode cX0_firstIn 1 = .ok (.getfield 18, 3) := by decide +kernel
theorem dX0_firstIn_4 : decode cX0_firstIn 4 = .ok (.iconst 2, 1) := by decide +kernel
theorem dX0_firstIn_5 : decode cX0_firstIn 5 = .ok (.iload_n 1, 1) := by decide +kernel
theorem dX0_firstIn_6 : decode cX0_firstIn 6 = .ok (.imul, 1) := by decide +kernel
theorem dX0_firstIn_7 : decode cX0_firstIn 7 = .ok (.iaload, 1) := by decide +kernel
theorem dX0_firstIn_8 : decode cX0_firstIn 8 = .ok (.ireturn, 1) := by decide +kernel
set_option maxRecDepth 20000 in
theorem ggX0_weightIn_X6_weight : GoodIn wsX0_weightIn wsX6_weight := goodIn_r _ [6] (by decide +kernel) (by decide +kernel)
set_option maxRecDepth 20000 in
theorem gX0_weightIn_X6_weight : GoodIn wsX0_weightIn (va_wsS RX0 21 yX6_weight wsX6_weight) := goodIn_app (goodIn_of _ (by decide +kernel)) ggX0_weightIn_X6_weight
theorem dX0_weightIn_0 : decode cX0_weightIn 0 = .ok (.iconst 0, 1) := by decide +kernel
theorem dX0_weightIn_1 : decode cX0_weightIn 1 = .ok (.istore_n 2, 1) := by decide +kernel
theorem dX0_weightIn_2 : decode cX0_weightIn 2 = .ok (.iconst 0, 1) := by decide +kernel
theorem dX0_weightIn_3 : decode cX0_weightIn 3 = .ok (.istore_n 3, 1) := by decide +kernel
theorem dX0_weightIn_4 : decode cX0_weightIn 4 = .ok (.iload_n 3, 1) := by decide +kernel
theorem dX0_weightIn_5 : decode cX0_weightIn 5 = .ok (.aload_n 0, 1) := by decide +kernel
theorem dX0_weightIn_6 : decode cX0_weightIn 6 = .ok (.getfield 9, 3) := by decide +kernel
theorem dX0_weightIn_9 : decode cX0_weightIn 9 = .ok (.iload_n 1, 1) := by decide +kernel
theorem dX0_weightIn_10 : decode cX0_weightIn 10 = .ok (.iaload, 1) := by decide +kernel
theorem dX0_weightIn_11 : decode cX0_weightIn 11 = .ok (.if_icmp .ge 25, 3) := by decide +kernel
theorem dX0_weightIn_14 : decode cX0_weightIn 14 = .ok (.iload_n 2, 1) := by decide +kernel
theorem dX0_weightIn_15 : decode cX0_weightIn 15 = .ok (.aload_n 0, 1) := by decide +kernel
theorem dX0_weightIn_16 : decode cX0_weightIn 16 = .ok (.getfield 18, 3) := by decide +kernel
theorem dX0_weightIn_19 : decode cX0_weightIn 19 = .ok (.iconst 2, 1) := by decide +kernel
theorem dX0_weightIn_20 : decode cX0_weightIn 20 = .ok (.iload_n 1, 1) := by decide +kernel
theorem dX0_weightIn_21 : decode cX0_weightIn 21 = .ok (.imul, 1) := by decide +kernel
theorem dX0_weightIn_22 : decode cX0_weightIn 22 = .ok (.iload_n 3, 1) := by decide +kernel
theorem dX0_weightIn_23 : decode cX0_weightIn 23 = .ok (.iadd, 1) := by decide +kernel
theorem dX0_weightIn_24 : decode cX0_weightIn 24 = .ok (.iaload, 1) := by decide +kernel
theorem dX0_weightIn_25 : decode cX0_weightIn 25 = .ok (.invokestatic 21, 3) := by decide +kernel
theorem dX0_weightIn_28 : decode cX0_weightIn 28 = .ok (.iadd, 1) := by decide +kernel
theorem dX0_weightIn_29 : decode cX0_weightIn 29 = .ok (.istore_n 2, 1) := by decide +kernel
theorem dX0_weightIn_30 : decode cX0_weightIn 30 = .ok (.iinc 3 1, 3) := by decide +kernel
theorem dX0_weightIn_33 : decode cX0_weightIn 33 = .ok (.goto (-29), 3) := by decide +kernel
theorem dX0_weightIn_36 : decode cX0_weightIn 36 = .ok (.iload_n 2, 1) := by decide +kernel
theorem dX0_weightIn_37 : decode cX0_weightIn 37 = .ok (.ireturn, 1) := by decide +kernel
theorem dX0_layBelowEye_0 : decode cX0_layBelowEye 0 = .ok (.aload_n 0, 1) := by decide +kernel
theorem dX0_layBelowEye_1 : decode cX0_layBelowEye 1 = .ok (.getfield 9, 3) := by decide +kernel
theorem dX0_layBelowEye_4 : decode cX0_layBelowEye 4 = .ok (.iconst 0, 1) := by decide +kernel
theorem dX0_layBelowEye_5 : decode cX0_layBelowEye 5 = .ok (.iaload, 1) := by decide +kernel
theorem dX0_layBelowEye_6 : decode cX0_layBelowEye 6 = .ok (.iconst 2, 1) := by decide +kernel
theorem dX0_layBelowEye_7 : decode cX0_layBelowEye 7 = .ok (.if_icmp .ge 25, 3) := by decide +kernel
theorem dX0_layBelowEye_10 : decode cX0_layBelowEye 10 = .ok (.aload_n 0, 1) := by decide +kernel
theorem dX0_layBelowEye_11 : decode cX0_layBelowEye 11 = .ok (.getfield 18, 3) := by decide +kernel
theorem dX0_layBelowEye_14 : decode cX0_layBelowEye 14 = .ok (.aload_n 0, 1) := by decide +kernel
theorem dX0_layBelowEye_15 : decode cX0_layBelowEye 15 = .ok (.getfield 9, 3) := by decide +kernel
theorem dX0_layBelowEye_18 : decode cX0_layBelowEye 18 = .ok (.iconst 0, 1) := by decide +kernel
theorem dX0_layBelowEye_19 : decode cX0_layBelowEye 19 = .ok (.iaload, 1) := by decide +kernel
theorem dX0_layBelowEye_20 : decode cX0_layBelowEye 20 = .ok (.iload_n 1, 1) := by decide +kernel
theorem dX0_layBelowEye_21 : decode cX0_layBelowEye 21 = .ok (.iastore, 1) := by decide +kernel
theorem dX0_layBelowEye_22 : decode cX0_layBelowEye 22 = .ok (.aload_n 0, 1) := by decide +kernel
theorem dX0_layBelowEye_23 : decode cX0_layBelowEye 23 = .ok (.getfield 9, 3) := by decide +kernel
theorem dX0_layBelowEye_26 : decode cX0_layBelowEye 26 = .ok (.iconst 0, 1) := by decide +kernel
theorem dX0_layBelowEye_27 : decode cX0_layBelowEye 27 = .ok (.dup2, 1) := by decide +kernel
theorem dX0_layBelowEye_28 : decode cX0_layBelowEye 28 = .ok (.iaload, 1) := by decide +kernel
theorem dX0_layBelowEye_29 : decode cX0_layBelowEye 29 = .ok (.iconst 1, 1) := by decide +kernel
theorem dX0_layBelowEye_30 : decode cX0_layBelowEye 30 = .ok (.iadd, 1) := by decide +kernel
theorem dX0_layBelowEye_31 : decode cX0_layBelowEye 31 = .ok (.iastore, 1) := by decide +kernel
theorem dX0_layBelowEye_32 : decode cX0_layBelowEye 32 = .ok (.return_, 1) := by decide +kernel
theorem dX0_clearCup_0 : decode cX0_clearCup 0 = .ok (.aload_n 0, 1) := by decide +kernel
theorem dX0_clearCup_1 : decode cX0_clearCup 1 = .ok (.getfield 9, 3) := by decide +kernel
theorem dX0_clearCup_4 : decode cX0_clearCup 4 = .ok (.iload_n 1, 1) := by decide +kernel
theorem dX0_clearCup_5 : decode cX0_clearCup 5 = .ok (.iconst 0, 1) := by decide +kernel
theorem dX0_clearCup_6 : decode cX0_clearCup 6 = .ok (.iastore, 1) := by decide +kernel
theorem dX0_clearCup_7 : decode cX0_clearCup 7 = .ok (.aload_n 0, 1) := by decide +kernel
theorem dX0_clearCup_8 : decode cX0_clearCup 8 = .ok (.getfield 15, 3) := by decide +kernel
theorem dX0_clearCup_11 : decode cX0_clearCup 11 = .ok (.iload_n 1, 1) := by decide +kernel
theorem dX0_clearCup_12 : decode cX0_clearCup 12 = .ok (.iconst (-1), 1) := by decide +kernel
theorem dX0_clearCup_13 : decode cX0_clearCup 13 = .ok (.iastore, 1) := by decide +kernel
theorem dX0_clearCup_14 : decode cX0_clearCup 14 = .ok (.return_, 1) := by decide +kernel
set_option maxRecDepth 20000 in
theorem ggX0_move_X0_clearCup : GoodIn wsX0_move wsX0_clearCup := goodIn_r _ [8, 1, 2, 9, 10, 11] (by decide +kernel) (by decide +kernel)
set_option maxRecDepth 20000 in
theorem gX0_move_X0_clearCup : GoodIn wsX0_move (wsV RX0 27 RX0 yX0_clearCup wsX0_clearCup) := goodIn_app (goodIn_of _ (by decide +kernel)) ggX0_move_X0_clearCup
theorem dX0_move_0 : decode cX0_move 0 = .ok (.bipush 11, 2) := by decide +kernel
theorem dX0_move_2 : decode cX0_move 2 = .ok (.istore_n 1, 1) := by decide +kernel
theorem dX0_move_3 : decode cX0_move 3 = .ok (.iload_n 1, 1) := by decide +kernel
theorem dX0_move_4 : decode cX0_move 4 = .ok (.ifCond .le 37, 3) := by decide +kernel
theorem dX0_move_7 : decode cX0_move 7 = .ok (.aload_n 0, 1) := by decide +kernel
theorem dX0_move_8 : decode cX0_move 8 = .ok (.getfield 9, 3) := by decide +kernel
theorem dX0_move_11 : decode cX0_move 11 = .ok (.iload_n 1, 1) := by decide +kernel
theorem dX0_move_12 : decode cX0_move 12 = .ok (.aload_n 0, 1) := by decide +kernel
theorem dX0_move_13 : decode cX0_move 13 = .ok (.getfield 9, 3) := by decide +kernel
theorem dX0_move_16 : decode cX0_move 16 = .ok (.iload_n 1, 1) := by decide +kernel
theorem dX0_move_17 : decode cX0_move 17 = .ok (.iconst 1, 1) := by decide +kernel
theorem dX0_move_18 : decode cX0_move 18 = .ok (.isub, 1) := by decide +kernel
theorem dX0_move_19 : decode cX0_move 19 = .ok (.iaload, 1) := by decide +kernel
theorem dX0_move_20 : decode cX0_move 20 = .ok (.iastore, 1) := by decide +kernel
theorem dX0_move_21 : decode cX0_move 21 = .ok (.aload_n 0, 1) := by decide +kernel
theorem dX0_move_22 : decode cX0_move 22 = .ok (.getfield 15, 3) := by decide +kernel
theorem dX0_move_25 : decode cX0_move 25 = .ok (.iload_n 1, 1) := by decide +kernel
theorem dX0_move_26 : decode cX0_move 26 = .ok (.aload_n 0, 1) := by decide +kernel
theorem dX0_move_27 : decode cX0_move 27 = .ok (.getfield 15, 3) := by decide +kernel
theorem dX0_move_30 : decode cX0_move 30 = .ok (.iload_n 1, 1) := by decide +kernel
theorem dX0_move_31 : decode cX0_move 31 = .ok (.iconst 1, 1) := by decide +kernel
theorem dX0_move_32 : decode cX0_move 32 = .ok (.isub, 1) := by decide +kernel
theorem dX0_move_33 : decode cX0_move 33 = .ok (.iaload, 1) := by decide +kernel
theorem dX0_move_34 : decode cX0_move 34 = .ok (.iastore, 1) := by decide +kernel
theorem dX0_move_35 : decode cX0_move 35 = .ok (.iinc 1 (-1), 3) := by decide +kernel
theorem dX0_move_38 : decode cX0_move 38 = .ok (.goto (-35), 3) := by decide +kernel
theorem dX0_move_41 : decode cX0_move 41 = .ok (.bipush 23, 2) := by decide +kernel
theorem dX0_move_43 : decode cX0_move 43 = .ok (.istore_n 1, 1) := by decide +kernel
theorem dX0_move_44 : decode cX0_move 44 = .ok (.iload_n 1, 1) := by decide +kernel
theorem dX0_move_45 : decode cX0_move 45 = .ok (.iconst 2, 1) := by decide +kernel
theorem dX0_move_46 : decode cX0_move 46 = .ok (.if_icmp .lt 23, 3) := by decide +kernel
theorem dX0_move_49 : decode cX0_move 49 = .ok (.aload_n 0, 1) := by decide +kernel
theorem dX0_move_50 : decode cX0_move 50 = .ok (.getfield 18, 3) := by decide +kernel
theorem dX0_move_53 : decode cX0_move 53 = .ok (.iload_n 1, 1) := by decide +kernel
theorem dX0_move_54 : decode cX0_move 54 = .ok (.aload_n 0, 1) := by decide +kernel
theorem dX0_move_55 : decode cX0_move 55 = .ok (.getfield 18, 3) := by decide +kernel
theorem dX0_move_58 : decode cX0_move 58 = .ok (.iload_n 1, 1) := by decide +kernel
theorem dX0_move_59 : decode cX0_move 59 = .ok (.iconst 2, 1) := by decide +kernel
theorem dX0_move_60 : decode cX0_move 60 = .ok (.isub, 1) := by decide +kernel
theorem dX0_move_61 : decode cX0_move 61 = .ok (.iaload, 1) := by decide +kernel
theorem dX0_move_62 : decode cX0_move 62 = .ok (.iastore, 1) := by decide +kernel
theorem dX0_move_63 : decode cX0_move 63 = .ok (.iinc 1 (-1), 3) := by decide +kernel
theorem dX0_move_66 : decode cX0_move 66 = .ok (.goto (-22), 3) := by decide +kernel
theorem dX0_move_69 : decode cX0_move 69 = .ok (.aload_n 0, 1) := by decide +kernel
theorem dX0_move_70 : decode cX0_move 70 = .ok (.iconst 0, 1) := by decide +kernel
theorem dX0_move_71 : decode cX0_move 71 = .ok (.invokevirtual 27, 3) := by decide +kernel
theorem dX0_move_74 : decode cX0_move 74 = .ok (.return_, 1) := by decide +kernel
theorem dX0_apples_0 : decode cX0_apples 0 = .ok (.iconst 0, 1) := by decide +kernel
theorem dX0_apples_1 : decode cX0_apples 1 = .ok (.istore_n 1, 1) := by decide +kernel
theorem dX0_apples_2 : decode cX0_apples 2 = .ok (.iconst 0, 1) := by decide +kernel
theorem dX0_apples_3 : decode cX0_apples 3 = .ok (.istore_n 2, 1) := by decide +kernel
theorem dX0_apples_4 : decode cX0_apples 4 = .ok (.iload_n 2, 1) := by decide +kernel
theorem dX0_apples_5 : decode cX0_apples 5 = .ok (.bipush 12, 2) := by decide +kernel
theorem dX0_apples_7 : decode cX0_apples 7 = .ok (.if_icmp .ge 18, 3) := by decide +kernel
theorem dX0_apples_10 : decode cX0_apples 10 = .ok (.iload_n 1, 1) := by decide +kernel
theorem dX0_apples_11 : decode cX0_apples 11 = .ok (.aload_n 0, 1) := by decide +kernel
theorem dX0_apples_12 : decode cX0_apples 12 = .ok (.getfield 9, 3) := by decide +kernel
theorem dX0_apples_15 : decode cX0_apples 15 = .ok (.iload_n 2, 1) := by decide +kernel
theorem dX0_apples_16 : decode cX0_apples 16 = .ok (.iaload, 1) := by decide +kernel
theorem dX0_apples_17 : decode cX0_apples 17 = .ok (.iadd, 1) := by decide +kernel
theorem dX0_apples_18 : decode cX0_apples 18 = .ok (.istore_n 1, 1) := by decide +kernel
theorem dX0_apples_19 : decode cX0_apples 19 = .ok (.iinc 2 1, 3) := by decide +kernel
theorem dX0_apples_22 : decode cX0_apples 22 = .ok (.goto (-18), 3) := by decide +kernel
theorem dX0_apples_25 : decode cX0_apples 25 = .ok (.iload_n 1, 1) := by decide +kernel
theorem dX0_apples_26 : decode cX0_apples 26 = .ok (.ireturn, 1) := by decide +kernel
theorem dX0_doubles_0 : decode cX0_doubles 0 = .ok (.iconst 0, 1) := by decide +kernel
theorem dX0_doubles_1 : decode cX0_doubles 1 = .ok (.istore_n 1, 1) := by decide +kernel
theorem dX0_doubles_2 : decode cX0_doubles 2 = .ok (.iconst 0, 1) := by decide +kernel
theorem dX0_doubles_3 : decode cX0_doubles 3 = .ok (.istore_n 2, 1) := by decide +kernel
theorem dX0_doubles_4 : decode cX0_doubles 4 = .ok (.iload_n 2, 1) := by decide +kernel
theorem dX0_doubles_5 : decode cX0_doubles 5 = .ok (.bipush 12, 2) := by decide +kernel
theorem dX0_doubles_7 : decode cX0_doubles 7 = .ok (.if_icmp .ge 22, 3) := by decide +kernel
theorem dX0_doubles_10 : decode cX0_doubles 10 = .ok (.aload_n 0, 1) := by decide +kernel
theorem dX0_doubles_11 : decode cX0_doubles 11 = .ok (.getfield 9, 3) := by decide +kernel
theorem dX0_doubles_14 : decode cX0_doubles 14 = .ok (.iload_n 2, 1) := by decide +kernel
theorem dX0_doubles_15 : decode cX0_doubles 15 = .ok (.iaload, 1) := by decide +kernel
theorem dX0_doubles_16 : decode cX0_doubles 16 = .ok (.iconst 2, 1) := by decide +kernel
theorem dX0_doubles_17 : decode cX0_doubles 17 = .ok (.if_icmp .ne 6, 3) := by decide +kernel
theorem dX0_doubles_20 : decode cX0_doubles 20 = .ok (.iinc 1 1, 3) := by decide +kernel
theorem dX0_doubles_23 : decode cX0_doubles 23 = .ok (.iinc 2 1, 3) := by decide +kernel
theorem dX0_doubles_26 : decode cX0_doubles 26 = .ok (.goto (-22), 3) := by decide +kernel
theorem dX0_doubles_29 : decode cX0_doubles 29 = .ok (.iload_n 1, 1) := by decide +kernel
theorem dX0_doubles_30 : decode cX0_doubles 30 = .ok (.ireturn, 1) := by decide +kernel
theorem dX0_copyFrom_0 : decode cX0_copyFrom 0 = .ok (.aload_n 1, 1) := by decide +kernel
theorem dX0_copyFrom_1 : decode cX0_copyFrom 1 = .ok (.getfield 9, 3) := by decide +kernel
theorem dX0_copyFrom_4 : decode cX0_copyFrom 4 = .ok (.iconst 0, 1) := by decide +kernel
theorem dX0_copyFrom_5 : decode cX0_copyFrom 5 = .ok (.aload_n 0, 1) := by decide +kernel
theorem dX0_copyFrom_6 : decode cX0_copyFrom 6 = .ok (.getfield 9, 3) := by decide +kernel
theorem dX0_copyFrom_9 : decode cX0_copyFrom 9 = .ok (.iconst 0, 1) := by decide +kernel
theorem dX0_copyFrom_10 : decode cX0_copyFrom 10 = .ok (.bipush 12, 2) := by decide +kernel
theorem dX0_copyFrom_12 : decode cX0_copyFrom 12 = .ok (.invokestatic 31, 3) := by decide +kernel
theorem dX0_copyFrom_15 : decode cX0_copyFrom 15 = .ok (.aload_n 1, 1) := by decide +kernel
theorem dX0_copyFrom_16 : decode cX0_copyFrom 16 = .ok (.getfield 15, 3) := by decide +kernel
theorem dX0_copyFrom_19 : decode cX0_copyFrom 19 = .ok (.iconst 0, 1) := by decide +kernel
theorem dX0_copyFrom_20 : decode cX0_copyFrom 20 = .ok (.aload_n 0, 1) := by decide +kernel
theorem dX0_copyFrom_21 : decode cX0_copyFrom 21 = .ok (.getfield 15, 3) := by decide +kernel
theorem dX0_copyFrom_24 : decode cX0_copyFrom 24 = .ok (.iconst 0, 1) := by decide +kernel
theorem dX0_copyFrom_25 : decode cX0_copyFrom 25 = .ok (.bipush 12, 2) := by decide +kernel
theorem dX0_copyFrom_27 : decode cX0_copyFrom 27 = .ok (.invokestatic 31, 3) := by decide +kernel
theorem dX0_copyFrom_30 : decode cX0_copyFrom 30 = .ok (.aload_n 1, 1) := by decide +kernel
theorem dX0_copyFrom_31 : decode cX0_copyFrom 31 = .ok (.getfield 18, 3) := by decide +kernel
theorem dX0_copyFrom_34 : decode cX0_copyFrom 34 = .ok (.iconst 0, 1) := by decide +kernel
theorem dX0_copyFrom_35 : decode cX0_copyFrom 35 = .ok (.aload_n 0, 1) := by decide +kernel
theorem dX0_copyFrom_36 : decode cX0_copyFrom 36 = .ok (.getfield 18, 3) := by decide +kernel
theorem dX0_copyFrom_39 : decode cX0_copyFrom 39 = .ok (.iconst 0, 1) := by decide +kernel
theorem dX0_copyFrom_40 : decode cX0_copyFrom 40 = .ok (.bipush 24, 2) := by decide +kernel
theorem dX0_copyFrom_42 : decode cX0_copyFrom 42 = .ok (.invokestatic 31, 3) := by decide +kernel
theorem dX0_copyFrom_45 : decode cX0_copyFrom 45 = .ok (.return_, 1) := by decide +kernel
theorem dX1_init_0 : decode cX1_init 0 = .ok (.aload_n 0, 1) := by decide +kernel
theorem dX1_init_1 : decode cX1_init 1 = .ok (.invokespecial 3, 3) := by decide +kernel
theorem dX1_init_4 : decode cX1_init 4 = .ok (.aload_n 0, 1) := by decide +kernel
theorem dX1_init_5 : decode cX1_init 5 = .ok (.bipush 8, 2) := by decide +kernel
theorem dX1_init_7 : decode cX1_init 7 = .ok (.newarray .int, 2) := by decide +kernel
theorem dX1_init_9 : decode cX1_init 9 = .ok (.putfield 9, 3) := by decide +kernel
theorem dX1_init_12 : decode cX1_init 12 = .ok (.aload_n 0, 1) := by decide +kernel
theorem dX1_init_13 : decode cX1_init 13 = .ok (.bipush 8, 2) := by decide +kernel
theorem dX1_init_15 : decode cX1_init 15 = .ok (.newarray .int, 2) := by decide +kernel
theorem dX1_init_17 : decode cX1_init 17 = .ok (.putfield 15, 3) := by decide +kernel
theorem dX1_init_20 : decode cX1_init 20 = .ok (.aload_n 0, 1) := by decide +kernel
theorem dX1_init_21 : decode cX1_init 21 = .ok (.iconst 0, 1) := by decide +kernel
theorem dX1_init_22 : decode cX1_init 22 = .ok (.putfield 18, 3) := by decide +kernel
theorem dX1_init_25 : decode cX1_init 25 = .ok (.return_, 1) := by decide +kernel
theorem dX1_has_0 : decode cX1_has 0 = .ok (.iload_n 1, 1) := by decide +kernel
theorem dX1_has_1 : decode cX1_has 1 = .ok (.ifCond .lt 15, 3) := by decide +kernel
theorem dX1_has_4 : decode cX1_has 4 = .ok (.iload_n 1, 1) := by decide +kernel
theorem dX1_has_5 : decode cX1_has 5 = .ok (.aload_n 0, 1) := by decide +kernel
theorem dX1_has_6 : decode cX1_has 6 = .ok (.getfield 18, 3) := by decide +kernel
theorem dX1_has_9 : decode cX1_has 9 = .ok (.if_icmp .ge 7, 3) := by decide +kernel
theorem dX1_has_12 : decode cX1_has 12 = .ok (.iconst 1, 1) := by decide +kernel
theorem dX1_has_13 : decode cX1_has 13 = .ok (.goto 4, 3) := by decide +kernel
theorem dX1_has_16 : decode cX1_has 16 = .ok (.iconst 0, 1) := by decide +kernel
theorem dX1_has_17 : decode cX1_has 17 = .ok (.ireturn, 1) := by decide +kernel
theorem dX1_insert_0 : decode cX1_insert 0 = .ok (.iload_n 1, 1) := by decide +kernel
theorem dX1_insert_1 : decode cX1_insert 1 = .ok (.ifCond .lt 20, 3) := by decide +kernel
theorem dX1_insert_4 : decode cX1_insert 4 = .ok (.iload_n 1, 1) := by decide +kernel
theorem dX1_insert_5 : decode cX1_insert 5 = .ok (.aload_n 0, 1) := by decide +kernel
theorem dX1_insert_6 : decode cX1_insert 6 = .ok (.getfield 18, 3) := by decide +kernel
theorem dX1_insert_9 : decode cX1_insert 9 = .ok (.if_icmp .gt 12, 3) := by decide +kernel
theorem dX1_insert_12 : decode cX1_insert 12 = .ok (.aload_n 0, 1) := by decide +kernel
theorem dX1_insert_13 : decode cX1_insert 13 = .ok (.getfield 18, 3) := by decide +kernel
theorem dX1_insert_16 : decode cX1_insert 16 = .ok (.bipush 8, 2) := by decide +kernel
theorem dX1_insert_18 : decode cX1_insert 18 = .ok (.if_icmp .lt 4, 3) := by decide +kernel
theorem dX1_insert_21 : decode cX1_insert 21 = .ok (.return_, 1) := by decide +kernel
theorem dX1_insert_22 : decode cX1_insert 22 = .ok (.aload_n 0, 1) := by decide +kernel
theorem dX1_insert_23 : decode cX1_insert 23 = .ok (.getfield 18, 3) := by decide +kernel
theorem dX1_insert_26 : decode cX1_insert 26 = .ok (.istore 4, 2) := by decide +kernel
theorem dX1_insert_28 : decode cX1_insert 28 = .ok (.iload 4, 2) := by decide +kernel
theorem dX1_insert_30 : decode cX1_insert 30 = .ok (.iload_n 1, 1) := by decide +kernel
theorem dX1_insert_31 : decode cX1_insert 31 = .ok (.if_icmp .le 41, 3) := by decide +kernel
theorem dX1_insert_34 : decode cX1_insert 34 = .ok (.aload_n 0, 1) := by decide +kernel
theorem dX1_insert_35 : decode cX1_insert 35 = .ok (.getfield 9, 3) := by decide +kernel
theorem dX1_insert_38 : decode cX1_insert 38 = .ok (.iload 4, 2) := by decide +kernel
theorem dX1_insert_40 : decode cX1_insert 40 = .ok (.aload_n 0, 1) := by decide +kernel
theorem dX1_insert_41 : decode cX1_insert 41 = .ok (.getfield 9, 3) := by decide +kernel
theorem dX1_insert_44 : decode cX1_insert 44 = .ok (.iload 4, 2) := by decide +kernel
theorem dX1_insert_46 : decode cX1_insert 46 = .ok (.iconst 1, 1) := by decide +kernel
theorem dX1_insert_47 : decode cX1_insert 47 = .ok (.isub, 1) := by decide +kernel
theorem dX1_insert_48 : decode cX1_insert 48 = .ok (.iaload, 1) := by decide +kernel
theorem dX1_insert_49 : decode cX1_insert 49 = .ok (.iastore, 1) := by decide +kernel
theorem dX1_insert_50 : decode cX1_insert 50 = .ok (.aload_n 0, 1) := by decide +kernel
theorem dX1_insert_51 : decode cX1_insert 51 = .ok (.getfield 15, 3) := by decide +kernel
theorem dX1_insert_54 : decode cX1_insert 54 = .ok (.iload 4, 2) := by decide +kernel
theorem dX1_insert_56 : decode cX1_insert 56 = .ok (.aload_n 0, 1) := by decide +kernel
theorem dX1_insert_57 : decode cX1_insert 57 = .ok (.getfield 15, 3) := by decide +kernel
theorem dX1_insert_60 : decode cX1_insert 60 = .ok (.iload 4, 2) := by decide +kernel
theorem dX1_insert_62 : decode cX1_insert 62 = .ok (.iconst 1, 1) := by decide +kernel
theorem dX1_insert_63 : decode cX1_insert 63 = .ok (.isub, 1) := by decide +kernel
theorem dX1_insert_64 : decode cX1_insert 64 = .ok (.iaload, 1) := by decide +kernel
theorem dX1_insert_65 : decode cX1_insert 65 = .ok (.iastore, 1) := by decide +kernel
theorem dX1_insert_66 : decode cX1_insert 66 = .ok (.iinc 4 (-1), 3) := by decide +kernel
theorem dX1_insert_69 : decode cX1_insert 69 = .ok (.goto (-41), 3) := by decide +kernel
theorem dX1_insert_72 : decode cX1_insert 72 = .ok (.aload_n 0, 1) := by decide +kernel
theorem dX1_insert_73 : decode cX1_insert 73 = .ok (.getfield 9, 3) := by decide +kernel
theorem dX1_insert_76 : decode cX1_insert 76 = .ok (.iload_n 1, 1) := by decide +kernel
theorem dX1_insert_77 : decode cX1_insert 77 = .ok (.iload_n 2, 1) := by decide +kernel
theorem dX1_insert_78 : decode cX1_insert 78 = .ok (.iastore, 1) := by decide +kernel
theorem dX1_insert_79 : decode cX1_insert 79 = .ok (.aload_n 0, 1) := by decide +kernel
theorem dX1_insert_80 : decode cX1_insert 80 = .ok (.getfield 15, 3) := by decide +kernel
theorem dX1_insert_83 : decode cX1_insert 83 = .ok (.iload_n 1, 1) := by decide +kernel
theorem dX1_insert_84 : decode cX1_insert 84 = .ok (.iload_n 3, 1) := by decide +kernel
theorem dX1_insert_85 : decode cX1_insert 85 = .ok (.iastore, 1) := by decide +kernel
theorem dX1_insert_86 : decode cX1_insert 86 = .ok (.aload_n 0, 1) := by decide +kernel
theorem dX1_insert_87 : decode cX1_insert 87 = .ok (.dup, 1) := by decide +kernel
theorem dX1_insert_88 : decode cX1_insert 88 = .ok (.getfield 18, 3) := by decide +kernel
theorem dX1_insert_91 : decode cX1_insert 91 = .ok (.iconst 1, 1) := by decide +kernel
theorem dX1_insert_92 : decode cX1_insert 92 = .ok (.iadd, 1) := by decide +kernel
theorem dX1_insert_93 : decode cX1_insert 93 = .ok (.putfield 18, 3) := by decide +kernel
theorem dX1_insert_96 : decode cX1_insert 96 = .ok (.return_, 1) := by decide +kernel
set_option maxRecDepth 20000 in
theorem ggX1_takeOut_X1_has : GoodIn wsX1_takeOut wsX1_has := goodIn_r _ [8, 1, 9, 10, 11] (by decide +kernel) (by decide +kernel)
set_option maxRecDepth 20000 in
theorem gX1_takeOut_X1_has : GoodIn wsX1_takeOut (wsV RX1 22 RX1 yX1_has wsX1_has) := goodIn_app (goodIn_of _ (by decide +kernel)) ggX1_takeOut_X1_has
theorem dX1_takeOut_0 : decode cX1_takeOut 0 = .ok (.aload_n 0, 1) := by decide +kernel
theorem dX1_takeOut_1 : decode cX1_takeOut 1 = .ok (.iload_n 1, 1) := by decide +kernel
theorem dX1_takeOut_2 : decode cX1_takeOut 2 = .ok (.invokevirtual 22, 3) := by decide +kernel
theorem dX1_takeOut_5 : decode cX1_takeOut 5 = .ok (.ifCond .ne 4, 3) := by decide +kernel
theorem dX1_takeOut_8 : decode cX1_takeOut 8 = .ok (.return_, 1) := by decide +kernel
theorem dX1_takeOut_9 : decode cX1_takeOut 9 = .ok (.iload_n 1, 1) := by decide +kernel
theorem dX1_takeOut_10 : decode cX1_takeOut 10 = .ok (.istore_n 2, 1) := by decide +kernel
theorem dX1_takeOut_11 : decode cX1_takeOut 11 = .ok (.iload_n 2, 1) := by decide +kernel
theorem dX1_takeOut_12 : decode cX1_takeOut 12 = .ok (.iconst 1, 1) := by decide +kernel
theorem dX1_takeOut_13 : decode cX1_takeOut 13 = .ok (.iadd, 1) := by decide +kernel
theorem dX1_takeOut_14 : decode cX1_takeOut 14 = .ok (.aload_n 0, 1) := by decide +kernel
theorem dX1_takeOut_15 : decode cX1_takeOut 15 = .ok (.getfield 18, 3) := by decide +kernel
theorem dX1_takeOut_18 : decode cX1_takeOut 18 = .ok (.if_icmp .ge 37, 3) := by decide +kernel
theorem dX1_takeOut_21 : decode cX1_takeOut 21 = .ok (.aload_n 0, 1) := by decide +kernel
theorem dX1_takeOut_22 : decode cX1_takeOut 22 = .ok (.getfield 9, 3) := by decide +kernel
theorem dX1_takeOut_25 : decode cX1_takeOut 25 = .ok (.iload_n 2, 1) := by decide +kernel
theorem dX1_takeOut_26 : decode cX1_takeOut 26 = .ok (.aload_n 0, 1) := by decide +kernel
theorem dX1_takeOut_27 : decode cX1_takeOut 27 = .ok (.getfield 9, 3) := by decide +kernel
theorem dX1_takeOut_30 : decode cX1_takeOut 30 = .ok (.iload_n 2, 1) := by decide +kernel
theorem dX1_takeOut_31 : decode cX1_takeOut 31 = .ok (.iconst 1, 1) := by decide +kernel
theorem dX1_takeOut_32 : decode cX1_takeOut 32 = .ok (.iadd, 1) := by decide +kernel
theorem dX1_takeOut_33 : decode cX1_takeOut 33 = .ok (.iaload, 1) := by decide +kernel
theorem dX1_takeOut_34 : decode cX1_takeOut 34 = .ok (.iastore, 1) := by decide +kernel
theorem dX1_takeOut_35 : decode cX1_takeOut 35 = .ok (.aload_n 0, 1) := by decide +kernel
theorem dX1_takeOut_36 : decode cX1_takeOut 36 = .ok (.getfield 15, 3) := by decide +kernel
theorem dX1_takeOut_39 : decode cX1_takeOut 39 = .ok (.iload_n 2, 1) := by decide +kernel
theorem dX1_takeOut_40 : decode cX1_takeOut 40 = .ok (.aload_n 0, 1) := by decide +kernel
theorem dX1_takeOut_41 : decode cX1_takeOut 41 = .ok (.getfield 15, 3) := by decide +kernel
theorem dX1_takeOut_44 : decode cX1_takeOut 44 = .ok (.iload_n 2, 1) := by decide +kernel
theorem dX1_takeOut_45 : decode cX1_takeOut 45 = .ok (.iconst 1, 1) := by decide +kernel
theorem dX1_takeOut_46 : decode cX1_takeOut 46 = .ok (.iadd, 1) := by decide +kernel
theorem dX1_takeOut_47 : decode cX1_takeOut 47 = .ok (.iaload, 1) := by decide +kernel
theorem dX1_takeOut_48 : decode cX1_takeOut 48 = .ok (.iastore, 1) := by decide +kernel
theorem dX1_takeOut_49 : decode cX1_takeOut 49 = .ok (.iinc 2 1, 3) := by decide +kernel
theorem dX1_takeOut_52 : decode cX1_takeOut 52 = .ok (.goto (-41), 3) := by decide +kernel
theorem dX1_takeOut_55 : decode cX1_takeOut 55 = .ok (.aload_n 0, 1) := by decide +kernel
theorem dX1_takeOut_56 : decode cX1_takeOut 56 = .ok (.dup, 1) := by decide +kernel
theorem dX1_takeOut_57 : decode cX1_takeOut 57 = .ok (.getfield 18, 3) := by decide +kernel
theorem dX1_takeOut_60 : decode cX1_takeOut 60 = .ok (.iconst 1, 1) := by decide +kernel
theorem dX1_takeOut_61 : decode cX1_takeOut 61 = .ok (.isub, 1) := by decide +kernel
theorem dX1_takeOut_62 : decode cX1_takeOut 62 = .ok (.putfield 18, 3) := by decide +kernel
theorem dX1_takeOut_65 : decode cX1_takeOut 65 = .ok (.return_, 1) := by decide +kernel
set_option maxRecDepth 20000 in
theorem ggX1_laneFromFirst_X6_shortOf : GoodIn wsX1_laneFromFirst wsX6_shortOf := goodIn_r _ [7, 8, 9, 6, 10, 11, 12, 13, 14, 15, 16] (by decide +kernel) (by decide +kernel)
set_option maxRecDepth 20000 in
theorem gX1_laneFromFirst_X6_shortOf : GoodIn wsX1_laneFromFirst (va_wsS RX1 26 yX6_shortOf wsX6_shortOf) := goodIn_app (goodIn_of _ (by decide +kernel)) ggX1_laneFromFirst_X6_shortOf
theorem dX1_laneFromFirst_0 : decode cX1_laneFromFirst 0 = .ok (.iconst 0, 1) := by decide +kernel
theorem dX1_laneFromFirst_1 : decode cX1_laneFromFirst 1 = .ok (.istore_n 2, 1) := by decide +kernel
theorem dX1_laneFromFirst_2 : decode cX1_laneFromFirst 2 = .ok (.iload_n 2, 1) := by decide +kernel
theorem dX1_laneFromFirst_3 : decode cX1_laneFromFirst 3 = .ok (.aload_n 0, 1) := by decide +kernel
theorem dX1_laneFromFirst_4 : decode cX1_laneFromFirst 4 = .ok (.getfield 18, 3) := by decide +kernel
theorem dX1_laneFromFirst_7 : decode cX1_laneFromFirst 7 = .ok (.if_icmp .ge 29, 3) := by decide +kernel
theorem dX1_laneFromFirst_10 : decode cX1_laneFromFirst 10 = .ok (.aload_n 0, 1) := by decide +kernel
theorem dX1_laneFromFirst_11 : decode cX1_laneFromFirst 11 = .ok (.getfield 9, 3) := by decide +kernel
theorem dX1_laneFromFirst_14 : decode cX1_laneFromFirst 14 = .ok (.iload_n 2, 1) := by decide +kernel
theorem dX1_laneFromFirst_15 : decode cX1_laneFromFirst 15 = .ok (.iaload, 1) := by decide +kernel
theorem dX1_laneFromFirst_16 : decode cX1_laneFromFirst 16 = .ok (.iload_n 1, 1) := by decide +kernel
theorem dX1_laneFromFirst_17 : decode cX1_laneFromFirst 17 = .ok (.invokestatic 26, 3) := by decide +kernel
theorem dX1_laneFromFirst_20 : decode cX1_laneFromFirst 20 = .ok (.ifCond .ne 10, 3) := by decide +kernel
theorem dX1_laneFromFirst_23 : decode cX1_laneFromFirst 23 = .ok (.aload_n 0, 1) := by decide +kernel
theorem dX1_laneFromFirst_24 : decode cX1_laneFromFirst 24 = .ok (.getfield 15, 3) := by decide +kernel
theorem dX1_laneFromFirst_27 : decode cX1_laneFromFirst 27 = .ok (.iload_n 2, 1) := by decide +kernel
theorem dX1_laneFromFirst_28 : decode cX1_laneFromFirst 28 = .ok (.iaload, 1) := by decide +kernel
theorem dX1_laneFromFirst_29 : decode cX1_laneFromFirst 29 = .ok (.ireturn, 1) := by decide +kernel
theorem dX1_laneFromFirst_30 : decode cX1_laneFromFirst 30 = .ok (.iinc 2 1, 3) := by decide +kernel
theorem dX1_laneFromFirst_33 : decode cX1_laneFromFirst 33 = .ok (.goto (-31), 3) := by decide +kernel
theorem dX1_laneFromFirst_36 : decode cX1_laneFromFirst 36 = .ok (.iconst 4, 1) := by decide +kernel
theorem dX1_laneFromFirst_37 : decode cX1_laneFromFirst 37 = .ok (.ireturn, 1) := by decide +kernel
set_option maxRecDepth 20000 in
theorem ggX1_laneFromLast_X6_shortOf : GoodIn wsX1_laneFromLast wsX6_shortOf := goodIn_r _ [7, 8, 9, 6, 10, 11, 12, 13, 14, 15, 16] (by decide +kernel) (by decide +kernel)
set_option maxRecDepth 20000 in
theorem gX1_laneFromLast_X6_shortOf : GoodIn wsX1_laneFromLast (va_wsS RX1 26 yX6_shortOf wsX6_shortOf) := goodIn_app (goodIn_of _ (by decide +kernel)) ggX1_laneFromLast_X6_shortOf
theorem dX1_laneFromLast_0 : decode cX1_laneFromLast 0 = .ok (.iconst 4, 1) := by decide +kernel
theorem dX1_laneFromLast_1 : decode cX1_laneFromLast 1 = .ok (.istore_n 2, 1) := by decide +kernel
theorem dX1_laneFromLast_2 : decode cX1_laneFromLast 2 = .ok (.aload_n 0, 1) := by decide +kernel
theorem dX1_laneFromLast_3 : decode cX1_laneFromLast 3 = .ok (.getfield 18, 3) := by decide +kernel
theorem dX1_laneFromLast_6 : decode cX1_laneFromLast 6 = .ok (.iconst 1, 1) := by decide +kernel
theorem dX1_laneFromLast_7 : decode cX1_laneFromLast 7 = .ok (.isub, 1) := by decide +kernel
theorem dX1_laneFromLast_8 : decode cX1_laneFromLast 8 = .ok (.istore_n 3, 1) := by decide +kernel
theorem dX1_laneFromLast_9 : decode cX1_laneFromLast 9 = .ok (.iload_n 3, 1) := by decide +kernel
theorem dX1_laneFromLast_10 : decode cX1_laneFromLast 10 = .ok (.ifCond .lt 29, 3) := by decide +kernel
theorem dX1_laneFromLast_13 : decode cX1_laneFromLast 13 = .ok (.aload_n 0, 1) := by decide +kernel
theorem dX1_laneFromLast_14 : decode cX1_laneFromLast 14 = .ok (.getfield 9, 3) := by decide +kernel
theorem dX1_laneFromLast_17 : decode cX1_laneFromLast 17 = .ok (.iload_n 3, 1) := by decide +kernel
theorem dX1_laneFromLast_18 : decode cX1_laneFromLast 18 = .ok (.iaload, 1) := by decide +kernel
theorem dX1_laneFromLast_19 : decode cX1_laneFromLast 19 = .ok (.iload_n 1, 1) := by decide +kernel
theorem dX1_laneFromLast_20 : decode cX1_laneFromLast 20 = .ok (.invokestatic 26, 3) := by decide +kernel
theorem dX1_laneFromLast_23 : decode cX1_laneFromLast 23 = .ok (.ifCond .ne 10, 3) := by decide +kernel
theorem dX1_laneFromLast_26 : decode cX1_laneFromLast 26 = .ok (.aload_n 0, 1) := by decide +kernel
theorem dX1_laneFromLast_27 : decode cX1_laneFromLast 27 = .ok (.getfield 15, 3) := by decide +kernel
theorem dX1_laneFromLast_30 : decode cX1_laneFromLast 30 = .ok (.iload_n 3, 1) := by decide +kernel
theorem dX1_laneFromLast_31 : decode cX1_laneFromLast 31 = .ok (.iaload, 1) := by decide +kernel
theorem dX1_laneFromLast_32 : decode cX1_laneFromLast 32 = .ok (.istore_n 2, 1) := by decide +kernel
theorem dX1_laneFromLast_33 : decode cX1_laneFromLast 33 = .ok (.iinc 3 (-1), 3) := by decide +kernel
theorem dX1_laneFromLast_36 : decode cX1_laneFromLast 36 = .ok (.goto (-27), 3) := by decide +kernel
theorem dX1_laneFromLast_39 : decode cX1_laneFromLast 39 = .ok (.iload_n 2, 1) := by decide +kernel
theorem dX1_laneFromLast_40 : decode cX1_laneFromLast 40 = .ok (.ireturn, 1) := by decide +kernel
set_option maxRecDepth 20000 in
theorem ggX1_isHidden_X1_has : GoodIn wsX1_isHidden wsX1_has := goodIn_r _ [6, 7, 21, 22, 23] (by decide +kernel) (by decide +kernel)
set_option maxRecDepth 20000 in
theorem gX1_isHidden_X1_has : GoodIn wsX1_isHidden (wsV RX1 22 RX1 yX1_has wsX1_has) := goodIn_app (goodIn_of _ (by decide +kernel)) ggX1_isHidden_X1_has
set_option maxRecDepth 20000 in
theorem ggX1_isHidden_X6_shortOf : GoodIn wsX1_isHidden wsX6_shortOf := goodIn_r _ [11, 12, 13, 10, 14, 15, 16, 17, 18, 19, 20] (by decide +kernel) (by decide +kernel)
set_option maxRecDepth 20000 in
theorem gX1_isHidden_X6_shortOf : GoodIn wsX1_isHidden (va_wsS RX1 26 yX6_shortOf wsX6_shortOf) := goodIn_app (goodIn_of _ (by decide +kernel)) ggX1_isHidden_X6_shortOf
theorem dX1_isHidden_0 : decode cX1_isHidden 0 = .ok (.aload_n 0, 1) := by decide +kernel
theorem dX1_isHidden_1 : decode cX1_isHidden 1 = .ok (.iload_n 1, 1) := by decide +kernel
theorem dX1_isHidden_2 : decode cX1_isHidden 2 = .ok (.invokevirtual 22, 3) := by decide +kernel
theorem dX1_isHidden_5 : decode cX1_isHidden 5 = .ok (.ifCond .ne 5, 3) := by decide +kernel
theorem dX1_isHidden_8 : decode cX1_isHidden 8 = .ok (.iconst 0, 1) := by decide +kernel
theorem dX1_isHidden_9 : decode cX1_isHidden 9 = .ok (.ireturn, 1) := by decide +kernel
theorem dX1_isHidden_10 : decode cX1_isHidden 10 = .ok (.iconst 0, 1) := by decide +kernel
theorem dX1_isHidden_11 : decode cX1_isHidden 11 = .ok (.istore_n 2, 1) := by decide +kernel
theorem dX1_isHidden_12 : decode cX1_isHidden 12 = .ok (.iload_n 2, 1) := by decide +kernel
theorem dX1_isHidden_13 : decode cX1_isHidden 13 = .ok (.iload_n 1, 1) := by decide +kernel
theorem dX1_isHidden_14 : decode cX1_isHidden 14 = .ok (.if_icmp .ge 29, 3) := by decide +kernel
theorem dX1_isHidden_17 : decode cX1_isHidden 17 = .ok (.aload_n 0, 1) := by decide +kernel
theorem dX1_isHidden_18 : decode cX1_isHidden 18 = .ok (.getfield 9, 3) := by decide +kernel
theorem dX1_isHidden_21 : decode cX1_isHidden 21 = .ok (.iload_n 2, 1) := by decide +kernel
theorem dX1_isHidden_22 : decode cX1_isHidden 22 = .ok (.iaload, 1) := by decide +kernel
theorem dX1_isHidden_23 : decode cX1_isHidden 23 = .ok (.aload_n 0, 1) := by decide +kernel
theorem dX1_isHidden_24 : decode cX1_isHidden 24 = .ok (.getfield 9, 3) := by decide +kernel
theorem dX1_isHidden_27 : decode cX1_isHidden 27 = .ok (.iload_n 1, 1) := by decide +kernel
theorem dX1_isHidden_28 : decode cX1_isHidden 28 = .ok (.iaload, 1) := by decide +kernel
theorem dX1_isHidden_29 : decode cX1_isHidden 29 = .ok (.invokestatic 26, 3) := by decide +kernel
theorem dX1_isHidden_32 : decode cX1_isHidden 32 = .ok (.ifCond .ne 5, 3) := by decide +kernel
theorem dX1_isHidden_35 : decode cX1_isHidden 35 = .ok (.iconst 1, 1) := by decide +kernel
theorem dX1_isHidden_36 : decode cX1_isHidden 36 = .ok (.ireturn, 1) := by decide +kernel
theorem dX1_isHidden_37 : decode cX1_isHidden 37 = .ok (.iinc 2 1, 3) := by decide +kernel
theorem dX1_isHidden_40 : decode cX1_isHidden 40 = .ok (.goto (-28), 3) := by decide +kernel
theorem dX1_isHidden_43 : decode cX1_isHidden 43 = .ok (.iconst 0, 1) := by decide +kernel
theorem dX1_isHidden_44 : decode cX1_isHidden 44 = .ok (.ireturn, 1) := by decide +kernel
theorem dX1_copyFrom_0 : decode cX1_copyFrom 0 = .ok (.aload_n 1, 1) := by decide +kernel
theorem dX1_copyFrom_1 : decode cX1_copyFrom 1 = .ok (.getfield 9, 3) := by decide +kernel
theorem dX1_copyFrom_4 : decode cX1_copyFrom 4 = .ok (.iconst 0, 1) := by decide +kernel
theorem dX1_copyFrom_5 : decode cX1_copyFrom 5 = .ok (.aload_n 0, 1) := by decide +kernel
theorem dX1_copyFrom_6 : decode cX1_copyFrom 6 = .ok (.getfield 9, 3) := by decide +kernel
theorem dX1_copyFrom_9 : decode cX1_copyFrom 9 = .ok (.iconst 0, 1) := by decide +kernel
theorem dX1_copyFrom_10 : decode cX1_copyFrom 10 = .ok (.bipush 8, 2) := by decide +kernel
theorem dX1_copyFrom_12 : decode cX1_copyFrom 12 = .ok (.invokestatic 32, 3) := by decide +kernel
theorem dX1_copyFrom_15 : decode cX1_copyFrom 15 = .ok (.aload_n 1, 1) := by decide +kernel
theorem dX1_copyFrom_16 : decode cX1_copyFrom 16 = .ok (.getfield 15, 3) := by decide +kernel
theorem dX1_copyFrom_19 : decode cX1_copyFrom 19 = .ok (.iconst 0, 1) := by decide +kernel
theorem dX1_copyFrom_20 : decode cX1_copyFrom 20 = .ok (.aload_n 0, 1) := by decide +kernel
theorem dX1_copyFrom_21 : decode cX1_copyFrom 21 = .ok (.getfield 15, 3) := by decide +kernel
theorem dX1_copyFrom_24 : decode cX1_copyFrom 24 = .ok (.iconst 0, 1) := by decide +kernel
theorem dX1_copyFrom_25 : decode cX1_copyFrom 25 = .ok (.bipush 8, 2) := by decide +kernel
theorem dX1_copyFrom_27 : decode cX1_copyFrom 27 = .ok (.invokestatic 32, 3) := by decide +kernel
theorem dX1_copyFrom_30 : decode cX1_copyFrom 30 = .ok (.aload_n 0, 1) := by decide +kernel
theorem dX1_copyFrom_31 : decode cX1_copyFrom 31 = .ok (.aload_n 1, 1) := by decide +kernel
theorem dX1_copyFrom_32 : decode cX1_copyFrom 32 = .ok (.getfield 18, 3) := by decide +kernel
theorem dX1_copyFrom_35 : decode cX1_copyFrom 35 = .ok (.putfield 18, 3) := by decide +kernel
theorem dX1_copyFrom_38 : decode cX1_copyFrom 38 = .ok (.return_, 1) := by decide +kernel
theorem dX2_init_0 : decode cX2_init 0 = .ok (.aload_n 0, 1) := by decide +kernel
theorem dX2_init_1 : decode cX2_init 1 = .ok (.invokespecial 3, 3) := by decide +kernel
theorem dX2_init_4 : decode cX2_init 4 = .ok (.aload_n 0, 1) := by decide +kernel
theorem dX2_init_5 : decode cX2_init 5 = .ok (.iconst 5, 1) := by decide +kernel
theorem dX2_init_6 : decode cX2_init 6 = .ok (.newarray .int, 2) := by decide +kernel
theorem dX2_init_8 : decode cX2_init 8 = .ok (.putfield 9, 3) := by decide +kernel
theorem dX2_init_11 : decode cX2_init 11 = .ok (.aload_n 0, 1) := by decide +kernel
theorem dX2_init_12 : decode cX2_init 12 = .ok (.sipush 592, 3) := by decide +kernel
theorem dX2_init_15 : decode cX2_init 15 = .ok (.newarray .int, 2) := by decide +kernel
theorem dX2_init_17 : decode cX2_init 17 = .ok (.putfield 15, 3) := by decide +kernel
theorem dX2_init_20 : decode cX2_init 20 = .ok (.return_, 1) := by decide +kernel
theorem dX2_appleAt_0 : decode cX2_appleAt 0 = .ok (.aload_n 0, 1) := by decide +kernel
theorem dX2_appleAt_1 : decode cX2_appleAt 1 = .ok (.getfield 15, 3) := by decide +kernel
theorem dX2_appleAt_4 : decode cX2_appleAt 4 = .ok (.iload_n 1, 1) := by decide +kernel
theorem dX2_appleAt_5 : decode cX2_appleAt 5 = .ok (.bipush 20, 2) := by decide +kernel
theorem dX2_appleAt_7 : decode cX2_appleAt 7 = .ok (.imul, 1) := by decide +kernel
theorem dX2_appleAt_8 : decode cX2_appleAt 8 = .ok (.iload_n 2, 1) := by decide +kernel
theorem dX2_appleAt_9 : decode cX2_appleAt 9 = .ok (.iadd, 1) := by decide +kernel
theorem dX2_appleAt_10 : decode cX2_appleAt 10 = .ok (.iaload, 1) := by decide +kernel
theorem dX2_appleAt_11 : decode cX2_appleAt 11 = .ok (.ireturn, 1) := by decide +kernel
theorem dX2_put_0 : decode cX2_put 0 = .ok (.iload_n 1, 1) := by decide +kernel
theorem dX2_put_1 : decode cX2_put 1 = .ok (.iconst 4, 1) := by decide +kernel
theorem dX2_put_2 : decode cX2_put 2 = .ok (.if_icmp .ne 9, 3) := by decide +kernel
theorem dX2_put_5 : decode cX2_put 5 = .ok (.sipush 512, 3) := by decide +kernel
theorem dX2_put_8 : decode cX2_put 8 = .ok (.goto 5, 3) := by decide +kernel
theorem dX2_put_11 : decode cX2_put 11 = .ok (.bipush 20, 2) := by decide +kernel
theorem dX2_put_13 : decode cX2_put 13 = .ok (.istore_n 3, 1) := by decide +kernel
theorem dX2_put_14 : decode cX2_put 14 = .ok (.aload_n 0, 1) := by decide +kernel
theorem dX2_put_15 : decode cX2_put 15 = .ok (.getfield 9, 3) := by decide +kernel
theorem dX2_put_18 : decode cX2_put 18 = .ok (.iload_n 1, 1) := by decide +kernel
theorem dX2_put_19 : decode cX2_put 19 = .ok (.iaload, 1) := by decide +kernel
theorem dX2_put_20 : decode cX2_put 20 = .ok (.iload_n 3, 1) := by decide +kernel
theorem dX2_put_21 : decode cX2_put 21 = .ok (.if_icmp .ge 30, 3) := by decide +kernel
theorem dX2_put_24 : decode cX2_put 24 = .ok (.aload_n 0, 1) := by decide +kernel
theorem dX2_put_25 : decode cX2_put 25 = .ok (.getfield 15, 3) := by decide +kernel
theorem dX2_put_28 : decode cX2_put 28 = .ok (.iload_n 1, 1) := by decide +kernel
theorem dX2_put_29 : decode cX2_put 29 = .ok (.bipush 20, 2) := by decide +kernel
theorem dX2_put_31 : decode cX2_put 31 = .ok (.imul, 1) := by decide +kernel
theorem dX2_put_32 : decode cX2_put 32 = .ok (.aload_n 0, 1) := by decide +kernel
theorem dX2_put_33 : decode cX2_put 33 = .ok (.getfield 9, 3) := by decide +kernel
theorem dX2_put_36 : decode cX2_put 36 = .ok (.iload_n 1, 1) := by decide +kernel
theorem dX2_put_37 : decode cX2_put 37 = .ok (.iaload, 1) := by decide +kernel
theorem dX2_put_38 : decode cX2_put 38 = .ok (.iadd, 1) := by decide +kernel
theorem dX2_put_39 : decode cX2_put 39 = .ok (.iload_n 2, 1) := by decide +kernel
theorem dX2_put_40 : decode cX2_put 40 = .ok (.iastore, 1) := by decide +kernel
theorem dX2_put_41 : decode cX2_put 41 = .ok (.aload_n 0, 1) := by decide +kernel
theorem dX2_put_42 : decode cX2_put 42 = .ok (.getfield 9, 3) := by decide +kernel
theorem dX2_put_45 : decode cX2_put 45 = .ok (.iload_n 1, 1) := by decide +kernel
theorem dX2_put_46 : decode cX2_put 46 = .ok (.dup2, 1) := by decide +kernel
theorem dX2_put_47 : decode cX2_put 47 = .ok (.iaload, 1) := by decide +kernel
theorem dX2_put_48 : decode cX2_put 48 = .ok (.iconst 1, 1) := by decide +kernel
theorem dX2_put_49 : decode cX2_put 49 = .ok (.iadd, 1) := by decide +kernel
theorem dX2_put_50 : decode cX2_put 50 = .ok (.iastore, 1) := by decide +kernel
theorem dX2_put_51 : decode cX2_put 51 = .ok (.return_, 1) := by decide +kernel
theorem dX2_applesBelow_0 : decode cX2_applesBelow 0 = .ok (.iconst 0, 1) := by decide +kernel
theorem dX2_applesBelow_1 : decode cX2_applesBelow 1 = .ok (.istore_n 2, 1) := by decide +kernel
theorem dX2_applesBelow_2 : decode cX2_applesBelow 2 = .ok (.iconst 0, 1) := by decide +kernel
theorem dX2_applesBelow_3 : decode cX2_applesBelow 3 = .ok (.istore_n 3, 1) := by decide +kernel
theorem dX2_applesBelow_4 : decode cX2_applesBelow 4 = .ok (.iload_n 3, 1) := by decide +kernel
theorem dX2_applesBelow_5 : decode cX2_applesBelow 5 = .ok (.iload_n 1, 1) := by decide +kernel
theorem dX2_applesBelow_6 : decode cX2_applesBelow 6 = .ok (.if_icmp .ge 23, 3) := by decide +kernel
theorem dX2_applesBelow_9 : decode cX2_applesBelow 9 = .ok (.iload_n 3, 1) := by decide +kernel
theorem dX2_applesBelow_10 : decode cX2_applesBelow 10 = .ok (.iconst 4, 1) := by decide +kernel
theorem dX2_applesBelow_11 : decode cX2_applesBelow 11 = .ok (.if_icmp .gt 18, 3) := by decide +kernel
theorem dX2_applesBelow_14 : decode cX2_applesBelow 14 = .ok (.iload_n 2, 1) := by decide +kernel
theorem dX2_applesBelow_15 : decode cX2_applesBelow 15 = .ok (.aload_n 0, 1) := by decide +kernel
theorem dX2_applesBelow_16 : decode cX2_applesBelow 16 = .ok (.getfield 9, 3) := by decide +kernel
theorem dX2_applesBelow_19 : decode cX2_applesBelow 19 = .ok (.iload_n 3, 1) := by decide +kernel
theorem dX2_applesBelow_20 : decode cX2_applesBelow 20 = .ok (.iaload, 1) := by decide +kernel
theorem dX2_applesBelow_21 : decode cX2_applesBelow 21 = .ok (.iadd, 1) := by decide +kernel
theorem dX2_applesBelow_22 : decode cX2_applesBelow 22 = .ok (.istore_n 2, 1) := by decide +kernel
theorem dX2_applesBelow_23 : decode cX2_applesBelow 23 = .ok (.iinc 3 1, 3) := by decide +kernel
theorem dX2_applesBelow_26 : decode cX2_applesBelow 26 = .ok (.goto (-22), 3) := by decide +kernel
theorem dX2_applesBelow_29 : decode cX2_applesBelow 29 = .ok (.iload_n 2, 1) := by decide +kernel
theorem dX2_applesBelow_30 : decode cX2_applesBelow 30 = .ok (.ireturn, 1) := by decide +kernel
set_option maxRecDepth 20000 in
theorem ggX2_weightIn_X2_appleAt : GoodIn wsX2_weightIn wsX2_appleAt := goodIn_r _ [6, 7, 12, 13] (by decide +kernel) (by decide +kernel)
set_option maxRecDepth 20000 in
theorem gX2_weightIn_X2_appleAt : GoodIn wsX2_weightIn (wsV RX2 18 RX2 yX2_appleAt wsX2_appleAt) := goodIn_app (goodIn_of _ (by decide +kernel)) ggX2_weightIn_X2_appleAt
set_option maxRecDepth 20000 in
theorem ggX2_weightIn_X6_weight : GoodIn wsX2_weightIn wsX6_weight := goodIn_r _ [11] (by decide +kernel) (by decide +kernel)
set_option maxRecDepth 20000 in
theorem gX2_weightIn_X6_weight : GoodIn wsX2_weightIn (va_wsS RX2 22 yX6_weight wsX6_weight) := goodIn_app (goodIn_of _ (by decide +kernel)) ggX2_weightIn_X6_weight
theorem dX2_weightIn_0 : decode cX2_weightIn 0 = .ok (.iconst 0, 1) := by decide +kernel
theorem dX2_weightIn_1 : decode cX2_weightIn 1 = .ok (.istore_n 2, 1) := by decide +kernel
theorem dX2_weightIn_2 : decode cX2_weightIn 2 = .ok (.iconst 0, 1) := by decide +kernel
theorem dX2_weightIn_3 : decode cX2_weightIn 3 = .ok (.istore_n 3, 1) := by decide +kernel
theorem dX2_weightIn_4 : decode cX2_weightIn 4 = .ok (.iload_n 3, 1) := by decide +kernel
theorem dX2_weightIn_5 : decode cX2_weightIn 5 = .ok (.aload_n 0, 1) := by decide +kernel
theorem dX2_weightIn_6 : decode cX2_weightIn 6 = .ok (.getfield 9, 3) := by decide +kernel
theorem dX2_weightIn_9 : decode cX2_weightIn 9 = .ok (.iload_n 1, 1) := by decide +kernel
theorem dX2_weightIn_10 : decode cX2_weightIn 10 = .ok (.iaload, 1) := by decide +kernel
theorem dX2_weightIn_11 : decode cX2_weightIn 11 = .ok (.if_icmp .ge 21, 3) := by decide +kernel
theorem dX2_weightIn_14 : decode cX2_weightIn 14 = .ok (.iload_n 2, 1) := by decide +kernel
theorem dX2_weightIn_15 : decode cX2_weightIn 15 = .ok (.aload_n 0, 1) := by decide +kernel
theorem dX2_weightIn_16 : decode cX2_weightIn 16 = .ok (.iload_n 1, 1) := by decide +kernel
theorem dX2_weightIn_17 : decode cX2_weightIn 17 = .ok (.iload_n 3, 1) := by decide +kernel
theorem dX2_weightIn_18 : decode cX2_weightIn 18 = .ok (.invokevirtual 18, 3) := by decide +kernel
theorem dX2_weightIn_21 : decode cX2_weightIn 21 = .ok (.invokestatic 22, 3) := by decide +kernel
theorem dX2_weightIn_24 : decode cX2_weightIn 24 = .ok (.iadd, 1) := by decide +kernel
theorem dX2_weightIn_25 : decode cX2_weightIn 25 = .ok (.istore_n 2, 1) := by decide +kernel
theorem dX2_weightIn_26 : decode cX2_weightIn 26 = .ok (.iinc 3 1, 3) := by decide +kernel
theorem dX2_weightIn_29 : decode cX2_weightIn 29 = .ok (.goto (-25), 3) := by decide +kernel
theorem dX2_weightIn_32 : decode cX2_weightIn 32 = .ok (.iload_n 2, 1) := by decide +kernel
theorem dX2_weightIn_33 : decode cX2_weightIn 33 = .ok (.ireturn, 1) := by decide +kernel
set_option maxRecDepth 20000 in
theorem ggX2_leastRed_X2_appleAt : GoodIn wsX2_leastRed wsX2_appleAt := goodIn_r _ [6, 7, 12, 13] (by decide +kernel) (by decide +kernel)
set_option maxRecDepth 20000 in
theorem gX2_leastRed_X2_appleAt : GoodIn wsX2_leastRed (wsV RX2 18 RX2 yX2_appleAt wsX2_appleAt) := goodIn_app (goodIn_of _ (by decide +kernel)) ggX2_leastRed_X2_appleAt
set_option maxRecDepth 20000 in
theorem ggX2_leastRed_X6_red : GoodIn wsX2_leastRed wsX6_red := goodIn_r _ [11] (by decide +kernel) (by decide +kernel)
set_option maxRecDepth 20000 in
theorem gX2_leastRed_X6_red : GoodIn wsX2_leastRed (va_wsS RX2 28 yX6_red wsX6_red) := goodIn_app (goodIn_of _ (by decide +kernel)) ggX2_leastRed_X6_red
theorem dX2_leastRed_0 : decode cX2_leastRed 0 = .ok (.bipush (-4), 2) := by decide +kernel
theorem dX2_leastRed_2 : decode cX2_leastRed 2 = .ok (.istore_n 2, 1) := by decide +kernel
theorem dX2_leastRed_3 : decode cX2_leastRed 3 = .ok (.iconst 0, 1) := by decide +kernel
theorem dX2_leastRed_4 : decode cX2_leastRed 4 = .ok (.istore_n 3, 1) := by decide +kernel
theorem dX2_leastRed_5 : decode cX2_leastRed 5 = .ok (.iload_n 3, 1) := by decide +kernel
theorem dX2_leastRed_6 : decode cX2_leastRed 6 = .ok (.aload_n 0, 1) := by decide +kernel
theorem dX2_leastRed_7 : decode cX2_leastRed 7 = .ok (.getfield 9, 3) := by decide +kernel
theorem dX2_leastRed_10 : decode cX2_leastRed 10 = .ok (.iload_n 1, 1) := by decide +kernel
theorem dX2_leastRed_11 : decode cX2_leastRed 11 = .ok (.iaload, 1) := by decide +kernel
theorem dX2_leastRed_12 : decode cX2_leastRed 12 = .ok (.if_icmp .ge 35, 3) := by decide +kernel
theorem dX2_leastRed_15 : decode cX2_leastRed 15 = .ok (.aload_n 0, 1) := by decide +kernel
theorem dX2_leastRed_16 : decode cX2_leastRed 16 = .ok (.iload_n 1, 1) := by decide +kernel
theorem dX2_leastRed_17 : decode cX2_leastRed 17 = .ok (.iload_n 3, 1) := by decide +kernel
theorem dX2_leastRed_18 : decode cX2_leastRed 18 = .ok (.invokevirtual 18, 3) := by decide +kernel
theorem dX2_leastRed_21 : decode cX2_leastRed 21 = .ok (.invokestatic 28, 3) := by decide +kernel
theorem dX2_leastRed_24 : decode cX2_leastRed 24 = .ok (.istore 4, 2) := by decide +kernel
theorem dX2_leastRed_26 : decode cX2_leastRed 26 = .ok (.iload_n 2, 1) := by decide +kernel
theorem dX2_leastRed_27 : decode cX2_leastRed 27 = .ok (.bipush (-4), 2) := by decide +kernel
theorem dX2_leastRed_29 : decode cX2_leastRed 29 = .ok (.if_icmp .eq 9, 3) := by decide +kernel
theorem dX2_leastRed_32 : decode cX2_leastRed 32 = .ok (.iload 4, 2) := by decide +kernel
theorem dX2_leastRed_34 : decode cX2_leastRed 34 = .ok (.iload_n 2, 1) := by decide +kernel
theorem dX2_leastRed_35 : decode cX2_leastRed 35 = .ok (.if_icmp .ge 6, 3) := by decide +kernel
theorem dX2_leastRed_38 : decode cX2_leastRed 38 = .ok (.iload 4, 2) := by decide +kernel
theorem dX2_leastRed_40 : decode cX2_leastRed 40 = .ok (.istore_n 2, 1) := by decide +kernel
theorem dX2_leastRed_41 : decode cX2_leastRed 41 = .ok (.iinc 3 1, 3) := by decide +kernel
theorem dX2_leastRed_44 : decode cX2_leastRed 44 = .ok (.goto (-39), 3) := by decide +kernel
theorem dX2_leastRed_47 : decode cX2_leastRed 47 = .ok (.iload_n 2, 1) := by decide +kernel
theorem dX2_leastRed_48 : decode cX2_leastRed 48 = .ok (.ireturn, 1) := by decide +kernel
set_option maxRecDepth 20000 in
theorem ggX2_greatestBruise_X2_appleAt : GoodIn wsX2_greatestBruise wsX2_appleAt := goodIn_r _ [10, 11, 16, 17] (by decide +kernel) (by decide +kernel)
set_option maxRecDepth 20000 in
theorem gX2_greatestBruise_X2_appleAt : GoodIn wsX2_greatestBruise (wsV RX2 18 RX2 yX2_appleAt wsX2_appleAt) := goodIn_app (goodIn_of _ (by decide +kernel)) ggX2_greatestBruise_X2_appleAt
set_option maxRecDepth 20000 in
theorem ggX2_greatestBruise_X6_bruise : GoodIn wsX2_greatestBruise wsX6_bruise := goodIn_r _ [15] (by decide +kernel) (by decide +kernel)
set_option maxRecDepth 20000 in
theorem gX2_greatestBruise_X6_bruise : GoodIn wsX2_greatestBruise (va_wsS RX2 31 yX6_bruise wsX6_bruise) := goodIn_app (goodIn_of _ (by decide +kernel)) ggX2_greatestBruise_X6_bruise
theorem dX2_greatestBruise_0 : decode cX2_greatestBruise 0 = .ok (.bipush (-4), 2) := by decide +kernel
theorem dX2_greatestBruise_2 : decode cX2_greatestBruise 2 = .ok (.istore_n 2, 1) := by decide +kernel
theorem dX2_greatestBruise_3 : decode cX2_greatestBruise 3 = .ok (.iconst 0, 1) := by decide +kernel
theorem dX2_greatestBruise_4 : decode cX2_greatestBruise 4 = .ok (.istore_n 3, 1) := by decide +kernel
theorem dX2_greatestBruise_5 : decode cX2_greatestBruise 5 = .ok (.iload_n 3, 1) := by decide +kernel
theorem dX2_greatestBruise_6 : decode cX2_greatestBruise 6 = .ok (.aload_n 0, 1) := by decide +kernel
theorem dX2_greatestBruise_7 : decode cX2_greatestBruise 7 = .ok (.getfield 9, 3) := by decide +kernel
theorem dX2_greatestBruise_10 : decode cX2_greatestBruise 10 = .ok (.iload_n 1, 1) := by decide +kernel
theorem dX2_greatestBruise_11 : decode cX2_greatestBruise 11 = .ok (.iaload, 1) := by decide +kernel
theorem dX2_greatestBruise_12 : decode cX2_greatestBruise 12 = .ok (.if_icmp .ge 23, 3) := by decide +kernel
theorem dX2_greatestBruise_15 : decode cX2_greatestBruise 15 = .ok (.iload_n 2, 1) := by decide +kernel
theorem dX2_greatestBruise_16 : decode cX2_greatestBruise 16 = .ok (.aload_n 0, 1) := by decide +kernel
theorem dX2_greatestBruise_17 : decode cX2_greatestBruise 17 = .ok (.iload_n 1, 1) := by decide +kernel
theorem dX2_greatestBruise_18 : decode cX2_greatestBruise 18 = .ok (.iload_n 3, 1) := by decide +kernel
theorem dX2_greatestBruise_19 : decode cX2_greatestBruise 19 = .ok (.invokevirtual 18, 3) := by decide +kernel
theorem dX2_greatestBruise_22 : decode cX2_greatestBruise 22 = .ok (.invokestatic 31, 3) := by decide +kernel
theorem dX2_greatestBruise_25 : decode cX2_greatestBruise 25 = .ok (.invokestatic 34, 3) := by decide +kernel
theorem dX2_greatestBruise_28 : decode cX2_greatestBruise 28 = .ok (.istore_n 2, 1) := by decide +kernel
theorem dX2_greatestBruise_29 : decode cX2_greatestBruise 29 = .ok (.iinc 3 1, 3) := by decide +kernel
theorem dX2_greatestBruise_32 : decode cX2_greatestBruise 32 = .ok (.goto (-27), 3) := by decide +kernel
theorem dX2_greatestBruise_35 : decode cX2_greatestBruise 35 = .ok (.iload_n 2, 1) := by decide +kernel
theorem dX2_greatestBruise_36 : decode cX2_greatestBruise 36 = .ok (.ireturn, 1) := by decide +kernel
theorem dX2_copyFrom_0 : decode cX2_copyFrom 0 = .ok (.aload_n 1, 1) := by decide +kernel
theorem dX2_copyFrom_1 : decode cX2_copyFrom 1 = .ok (.getfield 9, 3) := by decide +kernel
theorem dX2_copyFrom_4 : decode cX2_copyFrom 4 = .ok (.iconst 0, 1) := by decide +kernel
theorem dX2_copyFrom_5 : decode cX2_copyFrom 5 = .ok (.aload_n 0, 1) := by decide +kernel
theorem dX2_copyFrom_6 : decode cX2_copyFrom 6 = .ok (.getfield 9, 3) := by decide +kernel
theorem dX2_copyFrom_9 : decode cX2_copyFrom 9 = .ok (.iconst 0, 1) := by decide +kernel
theorem dX2_copyFrom_10 : decode cX2_copyFrom 10 = .ok (.iconst 5, 1) := by decide +kernel
theorem dX2_copyFrom_11 : decode cX2_copyFrom 11 = .ok (.invokestatic 39, 3) := by decide +kernel
theorem dX2_copyFrom_14 : decode cX2_copyFrom 14 = .ok (.aload_n 1, 1) := by decide +kernel
theorem dX2_copyFrom_15 : decode cX2_copyFrom 15 = .ok (.getfield 15, 3) := by decide +kernel
theorem dX2_copyFrom_18 : decode cX2_copyFrom 18 = .ok (.iconst 0, 1) := by decide +kernel
theorem dX2_copyFrom_19 : decode cX2_copyFrom 19 = .ok (.aload_n 0, 1) := by decide +kernel
theorem dX2_copyFrom_20 : decode cX2_copyFrom 20 = .ok (.getfield 15, 3) := by decide +kernel
theorem dX2_copyFrom_23 : decode cX2_copyFrom 23 = .ok (.iconst 0, 1) := by decide +kernel
theorem dX2_copyFrom_24 : decode cX2_copyFrom 24 = .ok (.bipush 80, 2) := by decide +kernel
theorem dX2_copyFrom_26 : decode cX2_copyFrom 26 = .ok (.aload_n 1, 1) := by decide +kernel
theorem dX2_copyFrom_27 : decode cX2_copyFrom 27 = .ok (.getfield 9, 3) := by decide +kernel
theorem dX2_copyFrom_30 : decode cX2_copyFrom 30 = .ok (.iconst 4, 1) := by decide +kernel
theorem dX2_copyFrom_31 : decode cX2_copyFrom 31 = .ok (.iaload, 1) := by decide +kernel
theorem dX2_copyFrom_32 : decode cX2_copyFrom 32 = .ok (.iadd, 1) := by decide +kernel
theorem dX2_copyFrom_33 : decode cX2_copyFrom 33 = .ok (.invokestatic 39, 3) := by decide +kernel
theorem dX2_copyFrom_36 : decode cX2_copyFrom 36 = .ok (.return_, 1) := by decide +kernel
set_option maxRecDepth 20000 in
theorem ggX3_init_X5_init : GoodIn wsX3_init wsX5_init := goodIn_r _ [11, 12, 2, 3, 13, 14, 15, 16, 17, 18, 19, 20, 21, 22, 23, 24, 25, 26, 27, 28, 29, 30, 31, 32, 33, 34, 35, 36, 37, 38, 39, 40, 41, 42, 43, 44, 45, 46, 47, 48, 49, 50, 51, 52, 67, 68, 69, 56, 57, 58, 59, 60, 61, 62, 63, 64, 65, 66, 70, 71, 72, 73, 74] (by decide +kernel) (by decide +kernel)
set_option maxRecDepth 20000 in
theorem gX3_init_X5_init_n24 : GoodIn wsX3_init (wsX5_init) := ggX3_init_X5_init
theorem dX3_init_0 : decode cX3_init 0 = .ok (.aload_n 0, 1) := by decide +kernel
theorem dX3_init_1 : decode cX3_init 1 = .ok (.invokespecial 3, 3) := by decide +kernel
theorem dX3_init_4 : decode cX3_init 4 = .ok (.aload_n 0, 1) := by decide +kernel
theorem dX3_init_5 : decode cX3_init 5 = .ok (.iconst 4, 1) := by decide +kernel
theorem dX3_init_6 : decode cX3_init 6 = .ok (.anewarray 9, 3) := by decide +kernel
theorem dX3_init_9 : decode cX3_init 9 = .ok (.putfield 11, 3) := by decide +kernel
theorem dX3_init_12 : decode cX3_init 12 = .ok (.aload_n 0, 1) := by decide +kernel
theorem dX3_init_13 : decode cX3_init 13 = .ok (.iconst 0, 1) := by decide +kernel
theorem dX3_init_14 : decode cX3_init 14 = .ok (.putfield 17, 3) := by decide +kernel
theorem dX3_init_17 : decode cX3_init 17 = .ok (.aload_n 0, 1) := by decide +kernel
theorem dX3_init_18 : decode cX3_init 18 = .ok (.iconst 0, 1) := by decide +kernel
theorem dX3_init_19 : decode cX3_init 19 = .ok (.putfield 21, 3) := by decide +kernel
theorem dX3_init_22 : decode cX3_init 22 = .ok (.iconst 0, 1) := by decide +kernel
theorem dX3_init_23 : decode cX3_init 23 = .ok (.istore_n 1, 1) := by decide +kernel
theorem dX3_init_24 : decode cX3_init 24 = .ok (.iload_n 1, 1) := by decide +kernel
theorem dX3_init_25 : decode cX3_init 25 = .ok (.iconst 4, 1) := by decide +kernel
theorem dX3_init_26 : decode cX3_init 26 = .ok (.if_icmp .ge 22, 3) := by decide +kernel
theorem dX3_init_29 : decode cX3_init 29 = .ok (.aload_n 0, 1) := by decide +kernel
theorem dX3_init_30 : decode cX3_init 30 = .ok (.getfield 11, 3) := by decide +kernel
theorem dX3_init_33 : decode cX3_init 33 = .ok (.iload_n 1, 1) := by decide +kernel
theorem dX3_init_34 : decode cX3_init 34 = .ok (.new 9, 3) := by decide +kernel
theorem dX3_init_37 : decode cX3_init 37 = .ok (.dup, 1) := by decide +kernel
theorem dX3_init_38 : decode cX3_init 38 = .ok (.invokespecial 24, 3) := by decide +kernel
theorem dX3_init_41 : decode cX3_init 41 = .ok (.aastore, 1) := by decide +kernel
theorem dX3_init_42 : decode cX3_init 42 = .ok (.iinc 1 1, 3) := by decide +kernel
theorem dX3_init_45 : decode cX3_init 45 = .ok (.goto (-21), 3) := by decide +kernel
theorem dX3_init_48 : decode cX3_init 48 = .ok (.return_, 1) := by decide +kernel
set_option maxRecDepth 20000 in
theorem ggX3_keep_X5_copyFrom : GoodIn wsX3_keep wsX5_copyFrom := goodIn_r _ [8, 9, 10, 11, 12, 13, 14, 15, 16, 17, 18, 19, 20, 21, 22, 23, 24, 25, 26, 27, 28, 29, 30, 31, 32, 33, 34, 35, 36, 37, 38, 39, 40, 41, 42, 43, 44, 45, 46, 47, 48, 49, 53, 54, 55, 56, 57, 58, 59, 60, 61, 62, 63, 64, 65, 66, 67, 68, 69, 70, 71] (by decide +kernel) (by decide +kernel)
set_option maxRecDepth 20000 in
theorem gX3_keep_X5_copyFrom : GoodIn wsX3_keep (wsV RX3 25 RX5 yX5_copyFrom wsX5_copyFrom) := goodIn_app (goodIn_of _ (by decide +kernel)) ggX3_keep_X5_copyFrom
theorem dX3_keep_0 : decode cX3_keep 0 = .ok (.aload_n 0, 1) := by decide +kernel
theorem dX3_keep_1 : decode cX3_keep 1 = .ok (.getfield 21, 3) := by decide +kernel
theorem dX3_keep_4 : decode cX3_keep 4 = .ok (.iconst 4, 1) := by decide +kernel
theorem dX3_keep_5 : decode cX3_keep 5 = .ok (.if_icmp .ne 25, 3) := by decide +kernel
theorem dX3_keep_8 : decode cX3_keep 8 = .ok (.aload_n 0, 1) := by decide +kernel
theorem dX3_keep_9 : decode cX3_keep 9 = .ok (.aload_n 0, 1) := by decide +kernel
theorem dX3_keep_10 : decode cX3_keep 10 = .ok (.getfield 17, 3) := by decide +kernel
theorem dX3_keep_13 : decode cX3_keep 13 = .ok (.iconst 1, 1) := by decide +kernel
theorem dX3_keep_14 : decode cX3_keep 14 = .ok (.iadd, 1) := by decide +kernel
theorem dX3_keep_15 : decode cX3_keep 15 = .ok (.iconst 4, 1) := by decide +kernel
theorem dX3_keep_16 : decode cX3_keep 16 = .ok (.irem, 1) := by decide +kernel
theorem dX3_keep_17 : decode cX3_keep 17 = .ok (.putfield 17, 3) := by decide +kernel
theorem dX3_keep_20 : decode cX3_keep 20 = .ok (.aload_n 0, 1) := by decide +kernel
theorem dX3_keep_21 : decode cX3_keep 21 = .ok (.dup, 1) := by decide +kernel
theorem dX3_keep_22 : decode cX3_keep 22 = .ok (.getfield 21, 3) := by decide +kernel
theorem dX3_keep_25 : decode cX3_keep 25 = .ok (.iconst 1, 1) := by decide +kernel
theorem dX3_keep_26 : decode cX3_keep 26 = .ok (.isub, 1) := by decide +kernel
theorem dX3_keep_27 : decode cX3_keep 27 = .ok (.putfield 21, 3) := by decide +kernel
theorem dX3_keep_30 : decode cX3_keep 30 = .ok (.aload_n 0, 1) := by decide +kernel
theorem dX3_keep_31 : decode cX3_keep 31 = .ok (.getfield 11, 3) := by decide +kernel
theorem dX3_keep_34 : decode cX3_keep 34 = .ok (.aload_n 0, 1) := by decide +kernel
theorem dX3_keep_35 : decode cX3_keep 35 = .ok (.getfield 17, 3) := by decide +kernel
theorem dX3_keep_38 : decode cX3_keep 38 = .ok (.aload_n 0, 1) := by decide +kernel
theorem dX3_keep_39 : decode cX3_keep 39 = .ok (.getfield 21, 3) := by decide +kernel
theorem dX3_keep_42 : decode cX3_keep 42 = .ok (.iadd, 1) := by decide +kernel
theorem dX3_keep_43 : decode cX3_keep 43 = .ok (.iconst 4, 1) := by decide +kernel
theorem dX3_keep_44 : decode cX3_keep 44 = .ok (.irem, 1) := by decide +kernel
theorem dX3_keep_45 : decode cX3_keep 45 = .ok (.aaload, 1) := by decide +kernel
theorem dX3_keep_46 : decode cX3_keep 46 = .ok (.aload_n 1, 1) := by decide +kernel
theorem dX3_keep_47 : decode cX3_keep 47 = .ok (.invokevirtual 25, 3) := by decide +kernel
theorem dX3_keep_50 : decode cX3_keep 50 = .ok (.aload_n 0, 1) := by decide +kernel
theorem dX3_keep_51 : decode cX3_keep 51 = .ok (.dup, 1) := by decide +kernel
theorem dX3_keep_52 : decode cX3_keep 52 = .ok (.getfield 21, 3) := by decide +kernel
theorem dX3_keep_55 : decode cX3_keep 55 = .ok (.iconst 1, 1) := by decide +kernel
theorem dX3_keep_56 : decode cX3_keep 56 = .ok (.iadd, 1) := by decide +kernel
theorem dX3_keep_57 : decode cX3_keep 57 = .ok (.putfield 21, 3) := by decide +kernel
theorem dX3_keep_60 : decode cX3_keep 60 = .ok (.return_, 1) := by decide +kernel
theorem dX4_init_0 : decode cX4_init 0 = .ok (.aload_n 0, 1) := by decide +kernel
theorem dX4_init_1 : decode cX4_init 1 = .ok (.invokespecial 3, 3) := by decide +kernel
theorem dX4_init_4 : decode cX4_init 4 = .ok (.aload_n 0, 1) := by decide +kernel
theorem dX4_init_5 : decode cX4_init 5 = .ok (.bipush 60, 2) := by decide +kernel
theorem dX4_init_7 : decode cX4_init 7 = .ok (.newarray .int, 2) := by decide +kernel
theorem dX4_init_9 : decode cX4_init 9 = .ok (.putfield 9, 3) := by decide +kernel
theorem dX4_init_12 : decode cX4_init 12 = .ok (.aload_n 0, 1) := by decide +kernel
theorem dX4_init_13 : decode cX4_init 13 = .ok (.bipush 60, 2) := by decide +kernel
theorem dX4_init_15 : decode cX4_init 15 = .ok (.newarray .int, 2) := by decide +kernel
theorem dX4_init_17 : decode cX4_init 17 = .ok (.putfield 15, 3) := by decide +kernel
theorem dX4_init_20 : decode cX4_init 20 = .ok (.aload_n 0, 1) := by decide +kernel
theorem dX4_init_21 : decode cX4_init 21 = .ok (.bipush 60, 2) := by decide +kernel
theorem dX4_init_23 : decode cX4_init 23 = .ok (.newarray .int, 2) := by decide +kernel
theorem dX4_init_25 : decode cX4_init 25 = .ok (.putfield 18, 3) := by decide +kernel
theorem dX4_init_28 : decode cX4_init 28 = .ok (.aload_n 0, 1) := by decide +kernel
theorem dX4_init_29 : decode cX4_init 29 = .ok (.iconst 0, 1) := by decide +kernel
theorem dX4_init_30 : decode cX4_init 30 = .ok (.putfield 21, 3) := by decide +kernel
theorem dX4_init_33 : decode cX4_init 33 = .ok (.aload_n 0, 1) := by decide +kernel
theorem dX4_init_34 : decode cX4_init 34 = .ok (.iconst 0, 1) := by decide +kernel
theorem dX4_init_35 : decode cX4_init 35 = .ok (.putfield 25, 3) := by decide +kernel
theorem dX4_init_38 : decode cX4_init 38 = .ok (.aload_n 0, 1) := by decide +kernel
theorem dX4_init_39 : decode cX4_init 39 = .ok (.iconst 0, 1) := by decide +kernel
theorem dX4_init_40 : decode cX4_init 40 = .ok (.putfield 28, 3) := by decide +kernel
theorem dX4_init_43 : decode cX4_init 43 = .ok (.aload_n 0, 1) := by decide +kernel
theorem dX4_init_44 : decode cX4_init 44 = .ok (.iconst 0, 1) := by decide +kernel
theorem dX4_init_45 : decode cX4_init 45 = .ok (.putfield 31, 3) := by decide +kernel
theorem dX4_init_48 : decode cX4_init 48 = .ok (.aload_n 0, 1) := by decide +kernel
theorem dX4_init_49 : decode cX4_init 49 = .ok (.iconst 0, 1) := by decide +kernel
theorem dX4_init_50 : decode cX4_init 50 = .ok (.putfield 34, 3) := by decide +kernel
theorem dX4_init_53 : decode cX4_init 53 = .ok (.return_, 1) := by decide +kernel
set_option maxRecDepth 20000 in
theorem ggX5_init_X1_init : GoodIn wsX5_init wsX1_init := goodIn_r _ [27, 28, 2, 3, 16, 29, 30, 31, 44, 45, 46] (by decide +kernel) (by decide +kernel)
set_option maxRecDepth 20000 in
theorem gX5_init_X1_init_n11 : GoodIn wsX5_init (wsX1_init) := ggX5_init_X1_init
set_option maxRecDepth 20000 in
theorem ggX5_init_X0_init : GoodIn wsX5_init wsX0_init := goodIn_r _ [34, 35, 2, 3, 16, 36, 37, 38, 58, 59, 60] (by decide +kernel) (by decide +kernel)
set_option maxRecDepth 20000 in
theorem gX5_init_X0_init : GoodIn wsX5_init (wsX0_init) := ggX5_init_X0_init
set_option maxRecDepth 20000 in
theorem ggX5_init_X2_init : GoodIn wsX5_init wsX2_init := goodIn_r _ [40, 41, 2, 3, 16, 42, 43, 61, 62] (by decide +kernel) (by decide +kernel)
set_option maxRecDepth 20000 in
theorem gX5_init_X2_init_n27 : GoodIn wsX5_init (wsX2_init) := ggX5_init_X2_init
theorem dX5_init_0 : decode cX5_init 0 = .ok (.aload_n 0, 1) := by decide +kernel
theorem dX5_init_1 : decode cX5_init 1 = .ok (.invokespecial 3, 3) := by decide +kernel
theorem dX5_init_4 : decode cX5_init 4 = .ok (.aload_n 0, 1) := by decide +kernel
theorem dX5_init_5 : decode cX5_init 5 = .ok (.new 9, 3) := by decide +kernel
theorem dX5_init_8 : decode cX5_init 8 = .ok (.dup, 1) := by decide +kernel
theorem dX5_init_9 : decode cX5_init 9 = .ok (.invokespecial 11, 3) := by decide +kernel
theorem dX5_init_12 : decode cX5_init 12 = .ok (.putfield 12, 3) := by decide +kernel
theorem dX5_init_15 : decode cX5_init 15 = .ok (.aload_n 0, 1) := by decide +kernel
theorem dX5_init_16 : decode cX5_init 16 = .ok (.new 18, 3) := by decide +kernel
theorem dX5_init_19 : decode cX5_init 19 = .ok (.dup, 1) := by decide +kernel
theorem dX5_init_20 : decode cX5_init 20 = .ok (.invokespecial 20, 3) := by decide +kernel
theorem dX5_init_23 : decode cX5_init 23 = .ok (.putfield 21, 3) := by decide +kernel
theorem dX5_init_26 : decode cX5_init 26 = .ok (.aload_n 0, 1) := by decide +kernel
theorem dX5_init_27 : decode cX5_init 27 = .ok (.new 25, 3) := by decide +kernel
theorem dX5_init_30 : decode cX5_init 30 = .ok (.dup, 1) := by decide +kernel
theorem dX5_init_31 : decode cX5_init 31 = .ok (.invokespecial 27, 3) := by decide +kernel
theorem dX5_init_34 : decode cX5_init 34 = .ok (.putfield 28, 3) := by decide +kernel
theorem dX5_init_37 : decode cX5_init 37 = .ok (.aload_n 0, 1) := by decide +kernel
theorem dX5_init_38 : decode cX5_init 38 = .ok (.iconst 3, 1) := by decide +kernel
theorem dX5_init_39 : decode cX5_init 39 = .ok (.newarray .int, 2) := by decide +kernel
theorem dX5_init_41 : decode cX5_init 41 = .ok (.dup, 1) := by decide +kernel
theorem dX5_init_42 : decode cX5_init 42 = .ok (.iconst 0, 1) := by decide +kernel
theorem dX5_init_43 : decode cX5_init 43 = .ok (.iconst 0, 1) := by decide +kernel
theorem dX5_init_44 : decode cX5_init 44 = .ok (.iastore, 1) := by decide +kernel
theorem dX5_init_45 : decode cX5_init 45 = .ok (.dup, 1) := by decide +kernel
theorem dX5_init_46 : decode cX5_init 46 = .ok (.iconst 1, 1) := by decide +kernel
theorem dX5_init_47 : decode cX5_init 47 = .ok (.iconst 1, 1) := by decide +kernel
theorem dX5_init_48 : decode cX5_init 48 = .ok (.iastore, 1) := by decide +kernel
theorem dX5_init_49 : decode cX5_init 49 = .ok (.dup, 1) := by decide +kernel
theorem dX5_init_50 : decode cX5_init 50 = .ok (.iconst 2, 1) := by decide +kernel
theorem dX5_init_51 : decode cX5_init 51 = .ok (.bipush 10, 2) := by decide +kernel
theorem dX5_init_53 : decode cX5_init 53 = .ok (.iastore, 1) := by decide +kernel
theorem dX5_init_54 : decode cX5_init 54 = .ok (.putfield 32, 3) := by decide +kernel
theorem dX5_init_57 : decode cX5_init 57 = .ok (.aload_n 0, 1) := by decide +kernel
theorem dX5_init_58 : decode cX5_init 58 = .ok (.iconst 4, 1) := by decide +kernel
theorem dX5_init_59 : decode cX5_init 59 = .ok (.newarray .boolean, 2) := by decide +kernel
theorem dX5_init_61 : decode cX5_init 61 = .ok (.dup, 1) := by decide +kernel
theorem dX5_init_62 : decode cX5_init 62 = .ok (.iconst 0, 1) := by decide +kernel
theorem dX5_init_63 : decode cX5_init 63 = .ok (.iconst 1, 1) := by decide +kernel
theorem dX5_init_64 : decode cX5_init 64 = .ok (.bastore, 1) := by decide +kernel
theorem dX5_init_65 : decode cX5_init 65 = .ok (.dup, 1) := by decide +kernel
theorem dX5_init_66 : decode cX5_init 66 = .ok (.iconst 1, 1) := by decide +kernel
theorem dX5_init_67 : decode cX5_init 67 = .ok (.iconst 1, 1) := by decide +kernel
theorem dX5_init_68 : decode cX5_init 68 = .ok (.bastore, 1) := by decide +kernel
theorem dX5_init_69 : decode cX5_init 69 = .ok (.dup, 1) := by decide +kernel
theorem dX5_init_70 : decode cX5_init 70 = .ok (.iconst 2, 1) := by decide +kernel
theorem dX5_init_71 : decode cX5_init 71 = .ok (.iconst 1, 1) := by decide +kernel
theorem dX5_init_72 : decode cX5_init 72 = .ok (.bastore, 1) := by decide +kernel
theorem dX5_init_73 : decode cX5_init 73 = .ok (.dup, 1) := by decide +kernel
theorem dX5_init_74 : decode cX5_init 74 = .ok (.iconst 3, 1) := by decide +kernel
theorem dX5_init_75 : decode cX5_init 75 = .ok (.iconst 1, 1) := by decide +kernel
theorem dX5_init_76 : decode cX5_init 76 = .ok (.bastore, 1) := by decide +kernel
theorem dX5_init_77 : decode cX5_init 77 = .ok (.putfield 36, 3) := by decide +kernel
theorem dX5_init_80 : decode cX5_init 80 = .ok (.aload_n 0, 1) := by decide +kernel
theorem dX5_init_81 : decode cX5_init 81 = .ok (.iconst 0, 1) := by decide +kernel
theorem dX5_init_82 : decode cX5_init 82 = .ok (.putfield 40, 3) := by decide +kernel
theorem dX5_init_85 : decode cX5_init 85 = .ok (.aload_n 0, 1) := by decide +kernel
theorem dX5_init_86 : decode cX5_init 86 = .ok (.iconst 0, 1) := by decide +kernel
theorem dX5_init_87 : decode cX5_init 87 = .ok (.putfield 44, 3) := by decide +kernel
theorem dX5_init_90 : decode cX5_init 90 = .ok (.aload_n 0, 1) := by decide +kernel
theorem dX5_init_91 : decode cX5_init 91 = .ok (.iconst 0, 1) := by decide +kernel
theorem dX5_init_92 : decode cX5_init 92 = .ok (.putfield 47, 3) := by decide +kernel
theorem dX5_init_95 : decode cX5_init 95 = .ok (.aload_n 0, 1) := by decide +kernel
theorem dX5_init_96 : decode cX5_init 96 = .ok (.iconst 0, 1) := by decide +kernel
theorem dX5_init_97 : decode cX5_init 97 = .ok (.putfield 50, 3) := by decide +kernel
theorem dX5_init_100 : decode cX5_init 100 = .ok (.aload_n 0, 1) := by decide +kernel
theorem dX5_init_101 : decode cX5_init 101 = .ok (.iconst 0, 1) := by decide +kernel
theorem dX5_init_102 : decode cX5_init 102 = .ok (.putfield 53, 3) := by decide +kernel
theorem dX5_init_105 : decode cX5_init 105 = .ok (.aload_n 0, 1) := by decide +kernel
theorem dX5_init_106 : decode cX5_init 106 = .ok (.iconst 0, 1) := by decide +kernel
theorem dX5_init_107 : decode cX5_init 107 = .ok (.putfield 56, 3) := by decide +kernel
theorem dX5_init_110 : decode cX5_init 110 = .ok (.return_, 1) := by decide +kernel
theorem dX5_settingShown_0 : decode cX5_settingShown 0 = .ok (.iload_n 1, 1) := by decide +kernel
theorem dX5_settingShown_1 : decode cX5_settingShown 1 = .ok (.ifCond .ne 15, 3) := by decide +kernel
theorem dX5_settingShown_4 : decode cX5_settingShown 4 = .ok (.aload_n 0, 1) := by decide +kernel
theorem dX5_settingShown_5 : decode cX5_settingShown 5 = .ok (.getfield 32, 3) := by decide +kernel
theorem dX5_settingShown_8 : decode cX5_settingShown 8 = .ok (.iconst 0, 1) := by decide +kernel
theorem dX5_settingShown_9 : decode cX5_settingShown 9 = .ok (.iaload, 1) := by decide +kernel
theorem dX5_settingShown_10 : decode cX5_settingShown 10 = .ok (.bipush 20, 2) := by decide +kernel
theorem dX5_settingShown_12 : decode cX5_settingShown 12 = .ok (.iadd, 1) := by decide +kernel
theorem dX5_settingShown_13 : decode cX5_settingShown 13 = .ok (.goto 9, 3) := by decide +kernel
theorem dX5_settingShown_16 : decode cX5_settingShown 16 = .ok (.aload_n 0, 1) := by decide +kernel
theorem dX5_settingShown_17 : decode cX5_settingShown 17 = .ok (.getfield 32, 3) := by decide +kernel
theorem dX5_settingShown_20 : decode cX5_settingShown 20 = .ok (.iload_n 1, 1) := by decide +kernel
theorem dX5_settingShown_21 : decode cX5_settingShown 21 = .ok (.iaload, 1) := by decide +kernel
theorem dX5_settingShown_22 : decode cX5_settingShown 22 = .ok (.ireturn, 1) := by decide +kernel
set_option maxRecDepth 20000 in
theorem ggX5_seen_X6_red : GoodIn wsX5_seen wsX6_red := goodIn_r _ [12] (by decide +kernel) (by decide +kernel)
set_option maxRecDepth 20000 in
theorem gX5_seen_X6_red : GoodIn wsX5_seen (va_wsS RX5 59 yX6_red wsX6_red) := goodIn_app (goodIn_of _ (by decide +kernel)) ggX5_seen_X6_red
set_option maxRecDepth 20000 in
theorem ggX5_seen_X6_bruise : GoodIn wsX5_seen wsX6_bruise := goodIn_r _ [15] (by decide +kernel) (by decide +kernel)
set_option maxRecDepth 20000 in
theorem gX5_seen_X6_bruise : GoodIn wsX5_seen (va_wsS RX5 74 yX6_bruise wsX6_bruise) := goodIn_app (goodIn_of _ (by decide +kernel)) ggX5_seen_X6_bruise
set_option maxRecDepth 20000 in
theorem ggX5_seen_X6_weight : GoodIn wsX5_seen wsX6_weight := goodIn_r _ [18] (by decide +kernel) (by decide +kernel)
set_option maxRecDepth 20000 in
theorem gX5_seen_X6_weight : GoodIn wsX5_seen (va_wsS RX5 77 yX6_weight wsX6_weight) := goodIn_app (goodIn_of _ (by decide +kernel)) ggX5_seen_X6_weight
set_option maxRecDepth 20000 in
theorem ggX5_seen_X6_of : GoodIn wsX5_seen wsX6_of := goodIn_r _ [21] (by decide +kernel) (by decide +kernel)
set_option maxRecDepth 20000 in
theorem gX5_seen_X6_of : GoodIn wsX5_seen (va_wsS RX5 80 yX6_of wsX6_of) := goodIn_app (goodIn_of _ (by decide +kernel)) ggX5_seen_X6_of
theorem dX5_seen_0 : decode cX5_seen 0 = .ok (.iconst 0, 1) := by decide +kernel
theorem dX5_seen_1 : decode cX5_seen 1 = .ok (.bipush 100, 2) := by decide +kernel
theorem dX5_seen_3 : decode cX5_seen 3 = .ok (.iload_n 1, 1) := by decide +kernel
theorem dX5_seen_4 : decode cX5_seen 4 = .ok (.invokestatic 59, 3) := by decide +kernel
theorem dX5_seen_7 : decode cX5_seen 7 = .ok (.aload_n 0, 1) := by decide +kernel
theorem dX5_seen_8 : decode cX5_seen 8 = .ok (.getfield 32, 3) := by decide +kernel
theorem dX5_seen_11 : decode cX5_seen 11 = .ok (.iconst 0, 1) := by decide +kernel
theorem dX5_seen_12 : decode cX5_seen 12 = .ok (.iaload, 1) := by decide +kernel
theorem dX5_seen_13 : decode cX5_seen 13 = .ok (.iadd, 1) := by decide +kernel
theorem dX5_seen_14 : decode cX5_seen 14 = .ok (.invokestatic 65, 3) := by decide +kernel
theorem dX5_seen_17 : decode cX5_seen 17 = .ok (.invokestatic 71, 3) := by decide +kernel
theorem dX5_seen_20 : decode cX5_seen 20 = .ok (.istore_n 2, 1) := by decide +kernel
theorem dX5_seen_21 : decode cX5_seen 21 = .ok (.iload_n 1, 1) := by decide +kernel
theorem dX5_seen_22 : decode cX5_seen 22 = .ok (.invokestatic 74, 3) := by decide +kernel
theorem dX5_seen_25 : decode cX5_seen 25 = .ok (.aload_n 0, 1) := by decide +kernel
theorem dX5_seen_26 : decode cX5_seen 26 = .ok (.getfield 32, 3) := by decide +kernel
theorem dX5_seen_29 : decode cX5_seen 29 = .ok (.iconst 1, 1) := by decide +kernel
theorem dX5_seen_30 : decode cX5_seen 30 = .ok (.iaload, 1) := by decide +kernel
theorem dX5_seen_31 : decode cX5_seen 31 = .ok (.if_icmp .lt 10, 3) := by decide +kernel
theorem dX5_seen_34 : decode cX5_seen 34 = .ok (.iload_n 1, 1) := by decide +kernel
theorem dX5_seen_35 : decode cX5_seen 35 = .ok (.invokestatic 74, 3) := by decide +kernel
theorem dX5_seen_38 : decode cX5_seen 38 = .ok (.goto 4, 3) := by decide +kernel
theorem dX5_seen_41 : decode cX5_seen 41 = .ok (.iconst 0, 1) := by decide +kernel
theorem dX5_seen_42 : decode cX5_seen 42 = .ok (.istore_n 3, 1) := by decide +kernel
theorem dX5_seen_43 : decode cX5_seen 43 = .ok (.iload_n 1, 1) := by decide +kernel
theorem dX5_seen_44 : decode cX5_seen 44 = .ok (.invokestatic 77, 3) := by decide +kernel
theorem dX5_seen_47 : decode cX5_seen 47 = .ok (.iload_n 2, 1) := by decide +kernel
theorem dX5_seen_48 : decode cX5_seen 48 = .ok (.iload_n 3, 1) := by decide +kernel
theorem dX5_seen_49 : decode cX5_seen 49 = .ok (.invokestatic 80, 3) := by decide +kernel
theorem dX5_seen_52 : decode cX5_seen 52 = .ok (.ireturn, 1) := by decide +kernel
set_option maxRecDepth 20000 in
theorem ggX5_layApple_X0_layBelowEye : GoodIn wsX5_layApple wsX0_layBelowEye := goodIn_r _ [7, 8, 9, 21, 22, 23] (by decide +kernel) (by decide +kernel)
set_option maxRecDepth 20000 in
theorem gX5_layApple_X0_layBelowEye : GoodIn wsX5_layApple (wsV RX5 84 RX0 yX0_layBelowEye wsX0_layBelowEye) := goodIn_app (goodIn_of _ (by decide +kernel)) ggX5_layApple_X0_layBelowEye
theorem dX5_layApple_0 : decode cX5_layApple 0 = .ok (.aload_n 0, 1) := by decide +kernel
theorem dX5_layApple_1 : decode cX5_layApple 1 = .ok (.getfield 21, 3) := by decide +kernel
theorem dX5_layApple_4 : decode cX5_layApple 4 = .ok (.iload_n 1, 1) := by decide +kernel
theorem dX5_layApple_5 : decode cX5_layApple 5 = .ok (.invokevirtual 84, 3) := by decide +kernel
theorem dX5_layApple_8 : decode cX5_layApple 8 = .ok (.aload_n 0, 1) := by decide +kernel
theorem dX5_layApple_9 : decode cX5_layApple 9 = .ok (.dup, 1) := by decide +kernel
theorem dX5_layApple_10 : decode cX5_layApple 10 = .ok (.getfield 44, 3) := by decide +kernel
theorem dX5_layApple_13 : decode cX5_layApple 13 = .ok (.iconst 1, 1) := by decide +kernel
theorem dX5_layApple_14 : decode cX5_layApple 14 = .ok (.iadd, 1) := by decide +kernel
theorem dX5_layApple_15 : decode cX5_layApple 15 = .ok (.putfield 44, 3) := by decide +kernel
theorem dX5_layApple_18 : decode cX5_layApple 18 = .ok (.return_, 1) := by decide +kernel
theorem dX5_emptyBox_0 : decode cX5_emptyBox 0 = .ok (.aload_n 0, 1) := by decide +kernel
theorem dX5_emptyBox_1 : decode cX5_emptyBox 1 = .ok (.getfield 28, 3) := by decide +kernel
theorem dX5_emptyBox_4 : decode cX5_emptyBox 4 = .ok (.getfield 88, 3) := by decide +kernel
theorem dX5_emptyBox_7 : decode cX5_emptyBox 7 = .ok (.iload_n 1, 1) := by decide +kernel
theorem dX5_emptyBox_8 : decode cX5_emptyBox 8 = .ok (.iaload, 1) := by decide +kernel
theorem dX5_emptyBox_9 : decode cX5_emptyBox 9 = .ok (.istore_n 2, 1) := by decide +kernel
theorem dX5_emptyBox_10 : decode cX5_emptyBox 10 = .ok (.aload_n 0, 1) := by decide +kernel
theorem dX5_emptyBox_11 : decode cX5_emptyBox 11 = .ok (.getfield 28, 3) := by decide +kernel
theorem dX5_emptyBox_14 : decode cX5_emptyBox 14 = .ok (.getfield 88, 3) := by decide +kernel
theorem dX5_emptyBox_17 : decode cX5_emptyBox 17 = .ok (.iload_n 1, 1) := by decide +kernel
theorem dX5_emptyBox_18 : decode cX5_emptyBox 18 = .ok (.iconst 0, 1) := by decide +kernel
theorem dX5_emptyBox_19 : decode cX5_emptyBox 19 = .ok (.iastore, 1) := by decide +kernel
theorem dX5_emptyBox_20 : decode cX5_emptyBox 20 = .ok (.aload_n 0, 1) := by decide +kernel
theorem dX5_emptyBox_21 : decode cX5_emptyBox 21 = .ok (.dup, 1) := by decide +kernel
theorem dX5_emptyBox_22 : decode cX5_emptyBox 22 = .ok (.getfield 56, 3) := by decide +kernel
theorem dX5_emptyBox_25 : decode cX5_emptyBox 25 = .ok (.iload_n 2, 1) := by decide +kernel
theorem dX5_emptyBox_26 : decode cX5_emptyBox 26 = .ok (.iadd, 1) := by decide +kernel
theorem dX5_emptyBox_27 : decode cX5_emptyBox 27 = .ok (.putfield 56, 3) := by decide +kernel
theorem dX5_emptyBox_30 : decode cX5_emptyBox 30 = .ok (.iload_n 2, 1) := by decide +kernel
theorem dX5_emptyBox_31 : decode cX5_emptyBox 31 = .ok (.ireturn, 1) := by decide +kernel
set_option maxRecDepth 20000 in
theorem ggX5_tick_X5_gradeBelowEye : GoodIn wsX5_tick wsX5_gradeBelowEye := goodIn_r _ [7, 2, 8, 9, 10, 11, 12, 13, 6, 14, 15, 16, 17, 18, 19, 20, 21, 22, 23, 24, 25, 26, 27, 28, 29, 30, 31, 32, 33, 34, 35, 36, 37, 38, 39, 40, 41, 42, 43, 44, 45, 46, 47, 48, 49, 50, 51, 52, 53, 54, 55, 56, 57, 58, 59, 60, 97, 98, 99, 100, 101, 102, 103, 104, 105, 106, 107, 108, 109, 110, 111, 112, 113] (by decide +kernel) (by decide +kernel)
set_option maxRecDepth 20000 in
theorem gX5_tick_X5_gradeBelowEye : GoodIn wsX5_tick (wsV RX5 91 RX5 yX5_gradeBelowEye wsX5_gradeBelowEye) := goodIn_app (goodIn_of _ (by decide +kernel)) ggX5_tick_X5_gradeBelowEye
set_option maxRecDepth 20000 in
theorem ggX5_tick_X5_fallOut : GoodIn wsX5_tick wsX5_fallOut := goodIn_r _ [64, 2, 8, 65, 66, 67, 68, 69, 70, 71, 72, 73, 97, 98, 99, 100, 101, 102, 103, 104, 105, 106, 107, 108, 109, 110, 114, 115] (by decide +kernel) (by decide +kernel)
set_option maxRecDepth 20000 in
theorem gX5_tick_X5_fallOut : GoodIn wsX5_tick (wsV RX5 94 RX5 yX5_fallOut wsX5_fallOut) := goodIn_app (goodIn_of _ (by decide +kernel)) ggX5_tick_X5_fallOut
set_option maxRecDepth 20000 in
theorem ggX5_tick_X0_move : GoodIn wsX5_tick wsX0_move := goodIn_r _ [77, 78, 79, 21, 80, 81, 82, 19, 83, 108, 109, 110] (by decide +kernel) (by decide +kernel)
set_option maxRecDepth 20000 in
theorem gX5_tick_X0_move : GoodIn wsX5_tick (wsV RX5 98 RX0 yX0_move wsX0_move) := goodIn_app (goodIn_of _ (by decide +kernel)) ggX5_tick_X0_move
set_option maxRecDepth 20000 in
theorem ggX5_tick_X5_dropInto : GoodIn wsX5_tick wsX5_dropInto := goodIn_r _ [87, 2, 9, 65, 88, 26, 89, 90, 91, 92, 93, 94, 6, 95, 16, 17, 18, 19, 20, 21, 38, 39, 36, 40, 41, 42, 43, 34, 35, 37, 44, 45, 46, 67, 68, 69, 70, 71, 72, 73, 96, 81, 82, 83, 78, 79, 97, 98, 99, 100, 101, 102, 103, 104, 105, 106, 107, 108, 109, 110, 114, 115] (by decide +kernel) (by decide +kernel)
set_option maxRecDepth 20000 in
theorem gX5_tick_X5_dropInto : GoodIn wsX5_tick (wsV RX5 101 RX5 yX5_dropInto wsX5_dropInto) := goodIn_app (goodIn_of _ (by decide +kernel)) ggX5_tick_X5_dropInto
theorem dX5_tick_0 : decode cX5_tick 0 = .ok (.aload_n 0, 1) := by decide +kernel
theorem dX5_tick_1 : decode cX5_tick 1 = .ok (.dup, 1) := by decide +kernel
theorem dX5_tick_2 : decode cX5_tick 2 = .ok (.getfield 40, 3) := by decide +kernel
theorem dX5_tick_5 : decode cX5_tick 5 = .ok (.iconst 1, 1) := by decide +kernel
theorem dX5_tick_6 : decode cX5_tick 6 = .ok (.iadd, 1) := by decide +kernel
theorem dX5_tick_7 : decode cX5_tick 7 = .ok (.putfield 40, 3) := by decide +kernel
theorem dX5_tick_10 : decode cX5_tick 10 = .ok (.aload_n 0, 1) := by decide +kernel
theorem dX5_tick_11 : decode cX5_tick 11 = .ok (.invokevirtual 91, 3) := by decide +kernel
theorem dX5_tick_14 : decode cX5_tick 14 = .ok (.aload_n 0, 1) := by decide +kernel
theorem dX5_tick_15 : decode cX5_tick 15 = .ok (.invokevirtual 94, 3) := by decide +kernel
theorem dX5_tick_18 : decode cX5_tick 18 = .ok (.istore_n 1, 1) := by decide +kernel
theorem dX5_tick_19 : decode cX5_tick 19 = .ok (.aload_n 0, 1) := by decide +kernel
theorem dX5_tick_20 : decode cX5_tick 20 = .ok (.getfield 21, 3) := by decide +kernel
theorem dX5_tick_23 : decode cX5_tick 23 = .ok (.invokevirtual 98, 3) := by decide +kernel
theorem dX5_tick_26 : decode cX5_tick 26 = .ok (.iconst 0, 1) := by decide +kernel
theorem dX5_tick_27 : decode cX5_tick 27 = .ok (.istore_n 2, 1) := by decide +kernel
theorem dX5_tick_28 : decode cX5_tick 28 = .ok (.iload_n 2, 1) := by decide +kernel
theorem dX5_tick_29 : decode cX5_tick 29 = .ok (.iconst 4, 1) := by decide +kernel
theorem dX5_tick_30 : decode cX5_tick 30 = .ok (.if_icmp .ge 17, 3) := by decide +kernel
theorem dX5_tick_33 : decode cX5_tick 33 = .ok (.iload_n 1, 1) := by decide +kernel
theorem dX5_tick_34 : decode cX5_tick 34 = .ok (.aload_n 0, 1) := by decide +kernel
theorem dX5_tick_35 : decode cX5_tick 35 = .ok (.iload_n 2, 1) := by decide +kernel
theorem dX5_tick_36 : decode cX5_tick 36 = .ok (.invokevirtual 101, 3) := by decide +kernel
theorem dX5_tick_39 : decode cX5_tick 39 = .ok (.iadd, 1) := by decide +kernel
theorem dX5_tick_40 : decode cX5_tick 40 = .ok (.istore_n 1, 1) := by decide +kernel
theorem dX5_tick_41 : decode cX5_tick 41 = .ok (.iinc 2 1, 3) := by decide +kernel
theorem dX5_tick_44 : decode cX5_tick 44 = .ok (.goto (-16), 3) := by decide +kernel
theorem dX5_tick_47 : decode cX5_tick 47 = .ok (.iload_n 1, 1) := by decide +kernel
theorem dX5_tick_48 : decode cX5_tick 48 = .ok (.ireturn, 1) := by decide +kernel
set_option maxRecDepth 20000 in
theorem ggX5_gradeBelowEye_X5_gradeToCome : GoodIn wsX5_gradeBelowEye wsX5_gradeToCome := goodIn_r _ [9, 1, 2, 10, 11, 12, 13, 14, 15, 16, 17, 18, 19, 8, 20, 21, 22, 23, 24, 25, 26, 27, 28, 29, 30, 31, 32, 33, 34, 35, 36, 37, 38, 39, 40, 41, 42, 43, 44, 45, 46, 47, 48, 49, 50, 51, 52, 53, 54, 55, 56, 57, 58, 59, 60, 61, 62, 63, 64, 65, 66, 67, 68, 69, 70, 71, 72] (by decide +kernel) (by decide +kernel)
set_option maxRecDepth 20000 in
theorem gX5_gradeBelowEye_X5_gradeToCome : GoodIn wsX5_gradeBelowEye (wsV RX5 108 RX5 yX5_gradeToCome wsX5_gradeToCome) := goodIn_app (goodIn_of _ (by decide +kernel)) ggX5_gradeBelowEye_X5_gradeToCome
theorem dX5_gradeBelowEye_0 : decode cX5_gradeBelowEye 0 = .ok (.aload_n 0, 1) := by decide +kernel
theorem dX5_gradeBelowEye_1 : decode cX5_gradeBelowEye 1 = .ok (.getfield 21, 3) := by decide +kernel
theorem dX5_gradeBelowEye_4 : decode cX5_gradeBelowEye 4 = .ok (.getfield 104, 3) := by decide +kernel
theorem dX5_gradeBelowEye_7 : decode cX5_gradeBelowEye 7 = .ok (.iconst 0, 1) := by decide +kernel
theorem dX5_gradeBelowEye_8 : decode cX5_gradeBelowEye 8 = .ok (.iaload, 1) := by decide +kernel
theorem dX5_gradeBelowEye_9 : decode cX5_gradeBelowEye 9 = .ok (.ifCond .ne 4, 3) := by decide +kernel
theorem dX5_gradeBelowEye_12 : decode cX5_gradeBelowEye 12 = .ok (.return_, 1) := by decide +kernel
theorem dX5_gradeBelowEye_13 : decode cX5_gradeBelowEye 13 = .ok (.aload_n 0, 1) := by decide +kernel
theorem dX5_gradeBelowEye_14 : decode cX5_gradeBelowEye 14 = .ok (.getfield 21, 3) := by decide +kernel
theorem dX5_gradeBelowEye_17 : decode cX5_gradeBelowEye 17 = .ok (.getfield 105, 3) := by decide +kernel
theorem dX5_gradeBelowEye_20 : decode cX5_gradeBelowEye 20 = .ok (.iconst 0, 1) := by decide +kernel
theorem dX5_gradeBelowEye_21 : decode cX5_gradeBelowEye 21 = .ok (.aload_n 0, 1) := by decide +kernel
theorem dX5_gradeBelowEye_22 : decode cX5_gradeBelowEye 22 = .ok (.invokevirtual 108, 3) := by decide +kernel
theorem dX5_gradeBelowEye_25 : decode cX5_gradeBelowEye 25 = .ok (.iastore, 1) := by decide +kernel
theorem dX5_gradeBelowEye_26 : decode cX5_gradeBelowEye 26 = .ok (.aload_n 0, 1) := by decide +kernel
theorem dX5_gradeBelowEye_27 : decode cX5_gradeBelowEye 27 = .ok (.getfield 21, 3) := by decide +kernel
theorem dX5_gradeBelowEye_30 : decode cX5_gradeBelowEye 30 = .ok (.getfield 104, 3) := by decide +kernel
theorem dX5_gradeBelowEye_33 : decode cX5_gradeBelowEye 33 = .ok (.iconst 0, 1) := by decide +kernel
theorem dX5_gradeBelowEye_34 : decode cX5_gradeBelowEye 34 = .ok (.iaload, 1) := by decide +kernel
theorem dX5_gradeBelowEye_35 : decode cX5_gradeBelowEye 35 = .ok (.iconst 2, 1) := by decide +kernel
theorem dX5_gradeBelowEye_36 : decode cX5_gradeBelowEye 36 = .ok (.if_icmp .ne 13, 3) := by decide +kernel
theorem dX5_gradeBelowEye_39 : decode cX5_gradeBelowEye 39 = .ok (.aload_n 0, 1) := by decide +kernel
theorem dX5_gradeBelowEye_40 : decode cX5_gradeBelowEye 40 = .ok (.dup, 1) := by decide +kernel
theorem dX5_gradeBelowEye_41 : decode cX5_gradeBelowEye 41 = .ok (.getfield 50, 3) := by decide +kernel
theorem dX5_gradeBelowEye_44 : decode cX5_gradeBelowEye 44 = .ok (.iconst 1, 1) := by decide +kernel
theorem dX5_gradeBelowEye_45 : decode cX5_gradeBelowEye 45 = .ok (.iadd, 1) := by decide +kernel
theorem dX5_gradeBelowEye_46 : decode cX5_gradeBelowEye 46 = .ok (.putfield 50, 3) := by decide +kernel
theorem dX5_gradeBelowEye_49 : decode cX5_gradeBelowEye 49 = .ok (.return_, 1) := by decide +kernel
set_option maxRecDepth 20000 in
theorem ggX5_gradeToCome_X0_firstIn : GoodIn wsX5_gradeToCome wsX0_firstIn := goodIn_r _ [8, 9, 61, 62, 63] (by decide +kernel) (by decide +kernel)
set_option maxRecDepth 20000 in
theorem gX5_gradeToCome_X0_firstIn : GoodIn wsX5_gradeToCome (wsV RX5 111 RX0 yX0_firstIn wsX0_firstIn) := goodIn_app (goodIn_of _ (by decide +kernel)) ggX5_gradeToCome_X0_firstIn
set_option maxRecDepth 20000 in
theorem ggX5_gradeToCome_X5_seen : GoodIn wsX5_gradeToCome wsX5_seen := goodIn_r _ [14, 15, 16, 17, 18, 19, 20, 21, 22, 23, 24, 25, 26, 27, 28, 29, 30, 31, 32, 33, 34, 35, 50, 51, 52, 53, 54, 55, 56, 57, 58, 59, 60] (by decide +kernel) (by decide +kernel)
set_option maxRecDepth 20000 in
theorem gX5_gradeToCome_X5_seen : GoodIn wsX5_gradeToCome (wsV RX5 114 RX5 yX5_seen wsX5_seen) := goodIn_app (goodIn_of _ (by decide +kernel)) ggX5_gradeToCome_X5_seen
set_option maxRecDepth 20000 in
theorem ggX5_gradeToCome_X1_laneFromFirst : GoodIn wsX5_gradeToCome wsX1_laneFromFirst := goodIn_r _ [40, 41, 42, 43, 44, 45, 25, 46, 47, 31, 32, 48, 24, 26, 49, 28, 29, 64, 65, 66] (by decide +kernel) (by decide +kernel)
set_option maxRecDepth 20000 in
theorem gX5_gradeToCome_X1_laneFromFirst : GoodIn wsX5_gradeToCome (wsV RX5 117 RX1 yX1_laneFromFirst wsX1_laneFromFirst) := goodIn_app (goodIn_of _ (by decide +kernel)) ggX5_gradeToCome_X1_laneFromFirst
theorem dX5_gradeToCome_0 : decode cX5_gradeToCome 0 = .ok (.aload_n 0, 1) := by decide +kernel
theorem dX5_gradeToCome_1 : decode cX5_gradeToCome 1 = .ok (.getfield 21, 3) := by decide +kernel
theorem dX5_gradeToCome_4 : decode cX5_gradeToCome 4 = .ok (.getfield 104, 3) := by decide +kernel
theorem dX5_gradeToCome_7 : decode cX5_gradeToCome 7 = .ok (.iconst 0, 1) := by decide +kernel
theorem dX5_gradeToCome_8 : decode cX5_gradeToCome 8 = .ok (.iaload, 1) := by decide +kernel
theorem dX5_gradeToCome_9 : decode cX5_gradeToCome 9 = .ok (.iconst 1, 1) := by decide +kernel
theorem dX5_gradeToCome_10 : decode cX5_gradeToCome 10 = .ok (.if_icmp .ne 25, 3) := by decide +kernel
theorem dX5_gradeToCome_13 : decode cX5_gradeToCome 13 = .ok (.aload_n 0, 1) := by decide +kernel
theorem dX5_gradeToCome_14 : decode cX5_gradeToCome 14 = .ok (.getfield 12, 3) := by decide +kernel
theorem dX5_gradeToCome_17 : decode cX5_gradeToCome 17 = .ok (.aload_n 0, 1) := by decide +kernel
theorem dX5_gradeToCome_18 : decode cX5_gradeToCome 18 = .ok (.aload_n 0, 1) := by decide +kernel
theorem dX5_gradeToCome_19 : decode cX5_gradeToCome 19 = .ok (.getfield 21, 3) := by decide +kernel
theorem dX5_gradeToCome_22 : decode cX5_gradeToCome 22 = .ok (.iconst 0, 1) := by decide +kernel
theorem dX5_gradeToCome_23 : decode cX5_gradeToCome 23 = .ok (.invokevirtual 111, 3) := by decide +kernel
theorem dX5_gradeToCome_26 : decode cX5_gradeToCome 26 = .ok (.invokevirtual 114, 3) := by decide +kernel
theorem dX5_gradeToCome_29 : decode cX5_gradeToCome 29 = .ok (.invokevirtual 117, 3) := by decide +kernel
theorem dX5_gradeToCome_32 : decode cX5_gradeToCome 32 = .ok (.goto 4, 3) := by decide +kernel
theorem dX5_gradeToCome_35 : decode cX5_gradeToCome 35 = .ok (.iconst 4, 1) := by decide +kernel
theorem dX5_gradeToCome_36 : decode cX5_gradeToCome 36 = .ok (.ireturn, 1) := by decide +kernel
set_option maxRecDepth 20000 in
theorem ggX5_fallOut_X2_put : GoodIn wsX5_fallOut wsX2_put := goodIn_r _ [9, 10, 11, 26, 27] (by decide +kernel) (by decide +kernel)
set_option maxRecDepth 20000 in
theorem gX5_fallOut_X2_put : GoodIn wsX5_fallOut (wsV RX5 123 RX2 yX2_put wsX2_put) := goodIn_app (goodIn_of _ (by decide +kernel)) ggX5_fallOut_X2_put
theorem dX5_fallOut_0 : decode cX5_fallOut 0 = .ok (.bipush 11, 2) := by decide +kernel
theorem dX5_fallOut_2 : decode cX5_fallOut 2 = .ok (.istore_n 1, 1) := by decide +kernel
theorem dX5_fallOut_3 : decode cX5_fallOut 3 = .ok (.iconst 0, 1) := by decide +kernel
theorem dX5_fallOut_4 : decode cX5_fallOut 4 = .ok (.istore_n 2, 1) := by decide +kernel
theorem dX5_fallOut_5 : decode cX5_fallOut 5 = .ok (.iload_n 2, 1) := by decide +kernel
theorem dX5_fallOut_6 : decode cX5_fallOut 6 = .ok (.aload_n 0, 1) := by decide +kernel
theorem dX5_fallOut_7 : decode cX5_fallOut 7 = .ok (.getfield 21, 3) := by decide +kernel
theorem dX5_fallOut_10 : decode cX5_fallOut 10 = .ok (.getfield 104, 3) := by decide +kernel
theorem dX5_fallOut_13 : decode cX5_fallOut 13 = .ok (.iload_n 1, 1) := by decide +kernel
theorem dX5_fallOut_14 : decode cX5_fallOut 14 = .ok (.iaload, 1) := by decide +kernel
theorem dX5_fallOut_15 : decode cX5_fallOut 15 = .ok (.if_icmp .ge 30, 3) := by decide +kernel
theorem dX5_fallOut_18 : decode cX5_fallOut 18 = .ok (.aload_n 0, 1) := by decide +kernel
theorem dX5_fallOut_19 : decode cX5_fallOut 19 = .ok (.getfield 28, 3) := by decide +kernel
theorem dX5_fallOut_22 : decode cX5_fallOut 22 = .ok (.iconst 4, 1) := by decide +kernel
theorem dX5_fallOut_23 : decode cX5_fallOut 23 = .ok (.aload_n 0, 1) := by decide +kernel
theorem dX5_fallOut_24 : decode cX5_fallOut 24 = .ok (.getfield 21, 3) := by decide +kernel
theorem dX5_fallOut_27 : decode cX5_fallOut 27 = .ok (.getfield 120, 3) := by decide +kernel
theorem dX5_fallOut_30 : decode cX5_fallOut 30 = .ok (.iconst 2, 1) := by decide +kernel
theorem dX5_fallOut_31 : decode cX5_fallOut 31 = .ok (.iload_n 1, 1) := by decide +kernel
theorem dX5_fallOut_32 : decode cX5_fallOut 32 = .ok (.imul, 1) := by decide +kernel
theorem dX5_fallOut_33 : decode cX5_fallOut 33 = .ok (.iload_n 2, 1) := by decide +kernel
theorem dX5_fallOut_34 : decode cX5_fallOut 34 = .ok (.iadd, 1) := by decide +kernel
theorem dX5_fallOut_35 : decode cX5_fallOut 35 = .ok (.iaload, 1) := by decide +kernel
theorem dX5_fallOut_36 : decode cX5_fallOut 36 = .ok (.invokevirtual 123, 3) := by decide +kernel
theorem dX5_fallOut_39 : decode cX5_fallOut 39 = .ok (.iinc 2 1, 3) := by decide +kernel
theorem dX5_fallOut_42 : decode cX5_fallOut 42 = .ok (.goto (-37), 3) := by decide +kernel
theorem dX5_fallOut_45 : decode cX5_fallOut 45 = .ok (.aload_n 0, 1) := by decide +kernel
theorem dX5_fallOut_46 : decode cX5_fallOut 46 = .ok (.getfield 21, 3) := by decide +kernel
theorem dX5_fallOut_49 : decode cX5_fallOut 49 = .ok (.getfield 104, 3) := by decide +kernel
theorem dX5_fallOut_52 : decode cX5_fallOut 52 = .ok (.iload_n 1, 1) := by decide +kernel
theorem dX5_fallOut_53 : decode cX5_fallOut 53 = .ok (.iaload, 1) := by decide +kernel
theorem dX5_fallOut_54 : decode cX5_fallOut 54 = .ok (.ireturn, 1) := by decide +kernel
set_option maxRecDepth 20000 in
theorem ggX5_dropInto_X5_dropPlace : GoodIn wsX5_dropInto wsX5_dropPlace := goodIn_r _ [13] (by decide +kernel) (by decide +kernel)
set_option maxRecDepth 20000 in
theorem gX5_dropInto_X5_dropPlace : GoodIn wsX5_dropInto (wsV RX5 127 RX5 yX5_dropPlace wsX5_dropPlace) := goodIn_app (goodIn_of _ (by decide +kernel)) ggX5_dropInto_X5_dropPlace
set_option maxRecDepth 20000 in
theorem ggX5_dropInto_X0_firstIn : GoodIn wsX5_dropInto wsX0_firstIn := goodIn_r _ [18, 19, 57, 58, 59] (by decide +kernel) (by decide +kernel)
set_option maxRecDepth 20000 in
theorem gX5_dropInto_X0_firstIn : GoodIn wsX5_dropInto (wsV RX5 111 RX0 yX0_firstIn wsX0_firstIn) := goodIn_app (goodIn_of _ (by decide +kernel)) ggX5_dropInto_X0_firstIn
set_option maxRecDepth 20000 in
theorem ggX5_dropInto_X6_bruise : GoodIn wsX5_dropInto wsX6_bruise := goodIn_r _ [23] (by decide +kernel) (by decide +kernel)
set_option maxRecDepth 20000 in
theorem gX5_dropInto_X6_bruise : GoodIn wsX5_dropInto (va_wsS RX5 74 yX6_bruise wsX6_bruise) := goodIn_app (goodIn_of _ (by decide +kernel)) ggX5_dropInto_X6_bruise
set_option maxRecDepth 20000 in
theorem ggX5_dropInto_X6_weight : GoodIn wsX5_dropInto wsX6_weight := goodIn_r _ [26] (by decide +kernel) (by decide +kernel)
set_option maxRecDepth 20000 in
theorem gX5_dropInto_X6_weight : GoodIn wsX5_dropInto (va_wsS RX5 77 yX6_weight wsX6_weight) := goodIn_app (goodIn_of _ (by decide +kernel)) ggX5_dropInto_X6_weight
set_option maxRecDepth 20000 in
theorem ggX5_dropInto_X6_red : GoodIn wsX5_dropInto wsX6_red := goodIn_r _ [29] (by decide +kernel) (by decide +kernel)
set_option maxRecDepth 20000 in
theorem gX5_dropInto_X6_red : GoodIn wsX5_dropInto (va_wsS RX5 59 yX6_red wsX6_red) := goodIn_app (goodIn_of _ (by decide +kernel)) ggX5_dropInto_X6_red
set_option maxRecDepth 20000 in
theorem ggX5_dropInto_X6_of : GoodIn wsX5_dropInto wsX6_of := goodIn_r _ [32] (by decide +kernel) (by decide +kernel)
set_option maxRecDepth 20000 in
theorem gX5_dropInto_X6_of : GoodIn wsX5_dropInto (va_wsS RX5 80 yX6_of wsX6_of) := goodIn_app (goodIn_of _ (by decide +kernel)) ggX5_dropInto_X6_of
set_option maxRecDepth 20000 in
theorem ggX5_dropInto_X2_put : GoodIn wsX5_dropInto wsX2_put := goodIn_r _ [37, 38, 39, 60, 61] (by decide +kernel) (by decide +kernel)
set_option maxRecDepth 20000 in
theorem gX5_dropInto_X2_put : GoodIn wsX5_dropInto (wsV RX5 123 RX2 yX2_put wsX2_put) := goodIn_app (goodIn_of _ (by decide +kernel)) ggX5_dropInto_X2_put
set_option maxRecDepth 20000 in
theorem ggX5_dropInto_X0_clearCup : GoodIn wsX5_dropInto wsX0_clearCup := goodIn_r _ [43, 44, 45, 57, 58, 59] (by decide +kernel) (by decide +kernel)
set_option maxRecDepth 20000 in
theorem gX5_dropInto_X0_clearCup : GoodIn wsX5_dropInto (wsV RX5 130 RX0 yX0_clearCup wsX0_clearCup) := goodIn_app (goodIn_of _ (by decide +kernel)) ggX5_dropInto_X0_clearCup
theorem dX5_dropInto_0 : decode cX5_dropInto 0 = .ok (.aload_n 0, 1) := by decide +kernel
theorem dX5_dropInto_1 : decode cX5_dropInto 1 = .ok (.iload_n 1, 1) := by decide +kernel
theorem dX5_dropInto_2 : decode cX5_dropInto 2 = .ok (.invokevirtual 127, 3) := by decide +kernel
theorem dX5_dropInto_5 : decode cX5_dropInto 5 = .ok (.istore_n 2, 1) := by decide +kernel
theorem dX5_dropInto_6 : decode cX5_dropInto 6 = .ok (.aload_n 0, 1) := by decide +kernel
theorem dX5_dropInto_7 : decode cX5_dropInto 7 = .ok (.getfield 21, 3) := by decide +kernel
theorem dX5_dropInto_10 : decode cX5_dropInto 10 = .ok (.getfield 105, 3) := by decide +kernel
theorem dX5_dropInto_13 : decode cX5_dropInto 13 = .ok (.iload_n 2, 1) := by decide +kernel
theorem dX5_dropInto_14 : decode cX5_dropInto 14 = .ok (.iaload, 1) := by decide +kernel
theorem dX5_dropInto_15 : decode cX5_dropInto 15 = .ok (.iload_n 1, 1) := by decide +kernel
theorem dX5_dropInto_16 : decode cX5_dropInto 16 = .ok (.if_icmp .eq 5, 3) := by decide +kernel
theorem dX5_dropInto_19 : decode cX5_dropInto 19 = .ok (.iconst 0, 1) := by decide +kernel
theorem dX5_dropInto_20 : decode cX5_dropInto 20 = .ok (.ireturn, 1) := by decide +kernel
theorem dX5_dropInto_21 : decode cX5_dropInto 21 = .ok (.aload_n 0, 1) := by decide +kernel
theorem dX5_dropInto_22 : decode cX5_dropInto 22 = .ok (.getfield 28, 3) := by decide +kernel
theorem dX5_dropInto_25 : decode cX5_dropInto 25 = .ok (.getfield 88, 3) := by decide +kernel
theorem dX5_dropInto_28 : decode cX5_dropInto 28 = .ok (.iload_n 1, 1) := by decide +kernel
theorem dX5_dropInto_29 : decode cX5_dropInto 29 = .ok (.iaload, 1) := by decide +kernel
theorem dX5_dropInto_30 : decode cX5_dropInto 30 = .ok (.aload_n 0, 1) := by decide +kernel
theorem dX5_dropInto_31 : decode cX5_dropInto 31 = .ok (.getfield 32, 3) := by decide +kernel
theorem dX5_dropInto_34 : decode cX5_dropInto 34 = .ok (.iconst 2, 1) := by decide +kernel
theorem dX5_dropInto_35 : decode cX5_dropInto 35 = .ok (.iaload, 1) := by decide +kernel
theorem dX5_dropInto_36 : decode cX5_dropInto 36 = .ok (.if_icmp .lt 25, 3) := by decide +kernel
theorem dX5_dropInto_39 : decode cX5_dropInto 39 = .ok (.aload_n 0, 1) := by decide +kernel
theorem dX5_dropInto_40 : decode cX5_dropInto 40 = .ok (.getfield 21, 3) := by decide +kernel
theorem dX5_dropInto_43 : decode cX5_dropInto 43 = .ok (.getfield 105, 3) := by decide +kernel
theorem dX5_dropInto_46 : decode cX5_dropInto 46 = .ok (.iload_n 2, 1) := by decide +kernel
theorem dX5_dropInto_47 : decode cX5_dropInto 47 = .ok (.iconst 4, 1) := by decide +kernel
theorem dX5_dropInto_48 : decode cX5_dropInto 48 = .ok (.iastore, 1) := by decide +kernel
theorem dX5_dropInto_49 : decode cX5_dropInto 49 = .ok (.aload_n 0, 1) := by decide +kernel
theorem dX5_dropInto_50 : decode cX5_dropInto 50 = .ok (.dup, 1) := by decide +kernel
theorem dX5_dropInto_51 : decode cX5_dropInto 51 = .ok (.getfield 47, 3) := by decide +kernel
theorem dX5_dropInto_54 : decode cX5_dropInto 54 = .ok (.iconst 1, 1) := by decide +kernel
theorem dX5_dropInto_55 : decode cX5_dropInto 55 = .ok (.iadd, 1) := by decide +kernel
theorem dX5_dropInto_56 : decode cX5_dropInto 56 = .ok (.putfield 47, 3) := by decide +kernel
theorem dX5_dropInto_59 : decode cX5_dropInto 59 = .ok (.iconst 0, 1) := by decide +kernel
theorem dX5_dropInto_60 : decode cX5_dropInto 60 = .ok (.ireturn, 1) := by decide +kernel
theorem dX5_dropInto_61 : decode cX5_dropInto 61 = .ok (.aload_n 0, 1) := by decide +kernel
theorem dX5_dropInto_62 : decode cX5_dropInto 62 = .ok (.getfield 21, 3) := by decide +kernel
theorem dX5_dropInto_65 : decode cX5_dropInto 65 = .ok (.iload_n 2, 1) := by decide +kernel
theorem dX5_dropInto_66 : decode cX5_dropInto 66 = .ok (.invokevirtual 111, 3) := by decide +kernel
theorem dX5_dropInto_69 : decode cX5_dropInto 69 = .ok (.istore_n 3, 1) := by decide +kernel
theorem dX5_dropInto_70 : decode cX5_dropInto 70 = .ok (.aload_n 0, 1) := by decide +kernel
theorem dX5_dropInto_71 : decode cX5_dropInto 71 = .ok (.getfield 36, 3) := by decide +kernel
theorem dX5_dropInto_74 : decode cX5_dropInto 74 = .ok (.iload_n 1, 1) := by decide +kernel
theorem dX5_dropInto_75 : decode cX5_dropInto 75 = .ok (.baload, 1) := by decide +kernel
theorem dX5_dropInto_76 : decode cX5_dropInto 76 = .ok (.ifCond .ne 40, 3) := by decide +kernel
theorem dX5_dropInto_79 : decode cX5_dropInto 79 = .ok (.iload_n 3, 1) := by decide +kernel
theorem dX5_dropInto_80 : decode cX5_dropInto 80 = .ok (.invokestatic 74, 3) := by decide +kernel
theorem dX5_dropInto_83 : decode cX5_dropInto 83 = .ok (.bipush 9, 2) := by decide +kernel
theorem dX5_dropInto_85 : decode cX5_dropInto 85 = .ok (.if_icmp .ge 31, 3) := by decide +kernel
theorem dX5_dropInto_88 : decode cX5_dropInto 88 = .ok (.iload_n 3, 1) := by decide +kernel
theorem dX5_dropInto_89 : decode cX5_dropInto 89 = .ok (.invokestatic 77, 3) := by decide +kernel
theorem dX5_dropInto_92 : decode cX5_dropInto 92 = .ok (.iload_n 3, 1) := by decide +kernel
theorem dX5_dropInto_93 : decode cX5_dropInto 93 = .ok (.invokestatic 59, 3) := by decide +kernel
theorem dX5_dropInto_96 : decode cX5_dropInto 96 = .ok (.iload_n 3, 1) := by decide +kernel
theorem dX5_dropInto_97 : decode cX5_dropInto 97 = .ok (.invokestatic 74, 3) := by decide +kernel
theorem dX5_dropInto_100 : decode cX5_dropInto 100 = .ok (.iconst 1, 1) := by decide +kernel
theorem dX5_dropInto_101 : decode cX5_dropInto 101 = .ok (.iadd, 1) := by decide +kernel
theorem dX5_dropInto_102 : decode cX5_dropInto 102 = .ok (.invokestatic 80, 3) := by decide +kernel
theorem dX5_dropInto_105 : decode cX5_dropInto 105 = .ok (.istore_n 3, 1) := by decide +kernel
theorem dX5_dropInto_106 : decode cX5_dropInto 106 = .ok (.aload_n 0, 1) := by decide +kernel
theorem dX5_dropInto_107 : decode cX5_dropInto 107 = .ok (.dup, 1) := by decide +kernel
theorem dX5_dropInto_108 : decode cX5_dropInto 108 = .ok (.getfield 53, 3) := by decide +kernel
theorem dX5_dropInto_111 : decode cX5_dropInto 111 = .ok (.iconst 1, 1) := by decide +kernel
theorem dX5_dropInto_112 : decode cX5_dropInto 112 = .ok (.iadd, 1) := by decide +kernel
theorem dX5_dropInto_113 : decode cX5_dropInto 113 = .ok (.putfield 53, 3) := by decide +kernel
theorem dX5_dropInto_116 : decode cX5_dropInto 116 = .ok (.aload_n 0, 1) := by decide +kernel
theorem dX5_dropInto_117 : decode cX5_dropInto 117 = .ok (.getfield 28, 3) := by decide +kernel
theorem dX5_dropInto_120 : decode cX5_dropInto 120 = .ok (.iload_n 1, 1) := by decide +kernel
theorem dX5_dropInto_121 : decode cX5_dropInto 121 = .ok (.iload_n 3, 1) := by decide +kernel
theorem dX5_dropInto_122 : decode cX5_dropInto 122 = .ok (.invokevirtual 123, 3) := by decide +kernel
theorem dX5_dropInto_125 : decode cX5_dropInto 125 = .ok (.aload_n 0, 1) := by decide +kernel
theorem dX5_dropInto_126 : decode cX5_dropInto 126 = .ok (.getfield 21, 3) := by decide +kernel
theorem dX5_dropInto_129 : decode cX5_dropInto 129 = .ok (.iload_n 2, 1) := by decide +kernel
theorem dX5_dropInto_130 : decode cX5_dropInto 130 = .ok (.invokevirtual 130, 3) := by decide +kernel
theorem dX5_dropInto_133 : decode cX5_dropInto 133 = .ok (.iconst 1, 1) := by decide +kernel
theorem dX5_dropInto_134 : decode cX5_dropInto 134 = .ok (.ireturn, 1) := by decide +kernel
theorem dX5_dropPlace_0 : decode cX5_dropPlace 0 = .ok (.iconst 2, 1) := by decide +kernel
theorem dX5_dropPlace_1 : decode cX5_dropPlace 1 = .ok (.iconst 2, 1) := by decide +kernel
theorem dX5_dropPlace_2 : decode cX5_dropPlace 2 = .ok (.iload_n 1, 1) := by decide +kernel
theorem dX5_dropPlace_3 : decode cX5_dropPlace 3 = .ok (.imul, 1) := by decide +kernel
theorem dX5_dropPlace_4 : decode cX5_dropPlace 4 = .ok (.iadd, 1) := by decide +kernel
theorem dX5_dropPlace_5 : decode cX5_dropPlace 5 = .ok (.ireturn, 1) := by decide +kernel
set_option maxRecDepth 20000 in
theorem ggX5_ticksToFall_X5_gradeToCome : GoodIn wsX5_ticksToFall wsX5_gradeToCome := goodIn_r _ [8, 1, 2, 9, 10, 11, 12, 13, 14, 15, 16, 17, 18, 7, 19, 20, 21, 22, 23, 24, 25, 26, 27, 28, 29, 30, 31, 32, 33, 34, 35, 36, 37, 38, 39, 40, 41, 42, 43, 44, 45, 46, 47, 48, 49, 50, 51, 52, 53, 54, 59, 60, 61, 62, 63, 64, 65, 66, 67, 68, 69, 70, 71, 72, 73, 74, 75] (by decide +kernel) (by decide +kernel)
set_option maxRecDepth 20000 in
theorem gX5_ticksToFall_X5_gradeToCome : GoodIn wsX5_ticksToFall (wsV RX5 108 RX5 yX5_gradeToCome wsX5_gradeToCome) := goodIn_app (goodIn_of _ (by decide +kernel)) ggX5_ticksToFall_X5_gradeToCome
set_option maxRecDepth 20000 in
theorem ggX5_ticksToFall_X5_dropPlace : GoodIn wsX5_ticksToFall wsX5_dropPlace := goodIn_r _ [58] (by decide +kernel) (by decide +kernel)
set_option maxRecDepth 20000 in
theorem gX5_ticksToFall_X5_dropPlace : GoodIn wsX5_ticksToFall (wsV RX5 127 RX5 yX5_dropPlace wsX5_dropPlace) := goodIn_app (goodIn_of _ (by decide +kernel)) ggX5_ticksToFall_X5_dropPlace
theorem dX5_ticksToFall_0 : decode cX5_ticksToFall 0 = .ok (.aload_n 0, 1) := by decide +kernel
theorem dX5_ticksToFall_1 : decode cX5_ticksToFall 1 = .ok (.getfield 21, 3) := by decide +kernel
theorem dX5_ticksToFall_4 : decode cX5_ticksToFall 4 = .ok (.getfield 104, 3) := by decide +kernel
theorem dX5_ticksToFall_7 : decode cX5_ticksToFall 7 = .ok (.iload_n 1, 1) := by decide +kernel
theorem dX5_ticksToFall_8 : decode cX5_ticksToFall 8 = .ok (.iaload, 1) := by decide +kernel
theorem dX5_ticksToFall_9 : decode cX5_ticksToFall 9 = .ok (.ifCond .ne 6, 3) := by decide +kernel
theorem dX5_ticksToFall_12 : decode cX5_ticksToFall 12 = .ok (.bipush (-4), 2) := by decide +kernel
theorem dX5_ticksToFall_14 : decode cX5_ticksToFall 14 = .ok (.ireturn, 1) := by decide +kernel
theorem dX5_ticksToFall_15 : decode cX5_ticksToFall 15 = .ok (.iload_n 1, 1) := by decide +kernel
theorem dX5_ticksToFall_16 : decode cX5_ticksToFall 16 = .ok (.ifCond .ne 10, 3) := by decide +kernel
theorem dX5_ticksToFall_19 : decode cX5_ticksToFall 19 = .ok (.aload_n 0, 1) := by decide +kernel
theorem dX5_ticksToFall_20 : decode cX5_ticksToFall 20 = .ok (.invokevirtual 108, 3) := by decide +kernel
theorem dX5_ticksToFall_23 : decode cX5_ticksToFall 23 = .ok (.goto 12, 3) := by decide +kernel
theorem dX5_ticksToFall_26 : decode cX5_ticksToFall 26 = .ok (.aload_n 0, 1) := by decide +kernel
theorem dX5_ticksToFall_27 : decode cX5_ticksToFall 27 = .ok (.getfield 21, 3) := by decide +kernel
theorem dX5_ticksToFall_30 : decode cX5_ticksToFall 30 = .ok (.getfield 105, 3) := by decide +kernel
theorem dX5_ticksToFall_33 : decode cX5_ticksToFall 33 = .ok (.iload_n 1, 1) := by decide +kernel
theorem dX5_ticksToFall_34 : decode cX5_ticksToFall 34 = .ok (.iaload, 1) := by decide +kernel
theorem dX5_ticksToFall_35 : decode cX5_ticksToFall 35 = .ok (.istore_n 2, 1) := by decide +kernel
theorem dX5_ticksToFall_36 : decode cX5_ticksToFall 36 = .ok (.iload_n 2, 1) := by decide +kernel
theorem dX5_ticksToFall_37 : decode cX5_ticksToFall 37 = .ok (.iconst 4, 1) := by decide +kernel
theorem dX5_ticksToFall_38 : decode cX5_ticksToFall 38 = .ok (.if_icmp .ne 8, 3) := by decide +kernel
theorem dX5_ticksToFall_41 : decode cX5_ticksToFall 41 = .ok (.bipush 12, 2) := by decide +kernel
theorem dX5_ticksToFall_43 : decode cX5_ticksToFall 43 = .ok (.goto 8, 3) := by decide +kernel
theorem dX5_ticksToFall_46 : decode cX5_ticksToFall 46 = .ok (.aload_n 0, 1) := by decide +kernel
theorem dX5_ticksToFall_47 : decode cX5_ticksToFall 47 = .ok (.iload_n 2, 1) := by decide +kernel
theorem dX5_ticksToFall_48 : decode cX5_ticksToFall 48 = .ok (.invokevirtual 127, 3) := by decide +kernel
theorem dX5_ticksToFall_51 : decode cX5_ticksToFall 51 = .ok (.iload_n 1, 1) := by decide +kernel
theorem dX5_ticksToFall_52 : decode cX5_ticksToFall 52 = .ok (.isub, 1) := by decide +kernel
theorem dX5_ticksToFall_53 : decode cX5_ticksToFall 53 = .ok (.ireturn, 1) := by decide +kernel
set_option maxRecDepth 20000 in
theorem ggX5_isWrong_X1_laneFromFirst : GoodIn wsX5_isWrong wsX1_laneFromFirst := goodIn_r _ [6, 7, 8, 9, 10, 11, 12, 13, 14, 15, 16, 17, 18, 19, 20, 21, 22, 34, 35, 36] (by decide +kernel) (by decide +kernel)
set_option maxRecDepth 20000 in
theorem gX5_isWrong_X1_laneFromFirst : GoodIn wsX5_isWrong (wsV RX5 117 RX1 yX1_laneFromFirst wsX1_laneFromFirst) := goodIn_app (goodIn_of _ (by decide +kernel)) ggX5_isWrong_X1_laneFromFirst
theorem dX5_isWrong_0 : decode cX5_isWrong 0 = .ok (.iload_n 1, 1) := by decide +kernel
theorem dX5_isWrong_1 : decode cX5_isWrong 1 = .ok (.iconst 4, 1) := by decide +kernel
theorem dX5_isWrong_2 : decode cX5_isWrong 2 = .ok (.if_icmp .eq 19, 3) := by decide +kernel
theorem dX5_isWrong_5 : decode cX5_isWrong 5 = .ok (.aload_n 0, 1) := by decide +kernel
theorem dX5_isWrong_6 : decode cX5_isWrong 6 = .ok (.getfield 12, 3) := by decide +kernel
theorem dX5_isWrong_9 : decode cX5_isWrong 9 = .ok (.iload_n 2, 1) := by decide +kernel
theorem dX5_isWrong_10 : decode cX5_isWrong 10 = .ok (.invokevirtual 117, 3) := by decide +kernel
theorem dX5_isWrong_13 : decode cX5_isWrong 13 = .ok (.iload_n 1, 1) := by decide +kernel
theorem dX5_isWrong_14 : decode cX5_isWrong 14 = .ok (.if_icmp .eq 7, 3) := by decide +kernel
theorem dX5_isWrong_17 : decode cX5_isWrong 17 = .ok (.iconst 1, 1) := by decide +kernel
theorem dX5_isWrong_18 : decode cX5_isWrong 18 = .ok (.goto 4, 3) := by decide +kernel
theorem dX5_isWrong_21 : decode cX5_isWrong 21 = .ok (.iconst 0, 1) := by decide +kernel
theorem dX5_isWrong_22 : decode cX5_isWrong 22 = .ok (.ireturn, 1) := by decide +kernel
set_option maxRecDepth 20000 in
theorem ggX5_wrongIn_X2_appleAt : GoodIn wsX5_wrongIn wsX2_appleAt := goodIn_r _ [7, 8, 47, 48] (by decide +kernel) (by decide +kernel)
set_option maxRecDepth 20000 in
theorem gX5_wrongIn_X2_appleAt : GoodIn wsX5_wrongIn (wsV RX5 133 RX2 yX2_appleAt wsX2_appleAt) := goodIn_app (goodIn_of _ (by decide +kernel)) ggX5_wrongIn_X2_appleAt
set_option maxRecDepth 20000 in
theorem ggX5_wrongIn_X5_isWrong : GoodIn wsX5_wrongIn wsX5_isWrong := goodIn_r _ [13, 14, 15, 16, 17, 18, 19, 20, 21, 22, 23, 24, 25, 26, 27, 28, 29, 30, 31, 32, 33, 34, 35, 36, 37, 38, 39, 40, 41, 42, 43, 44, 45, 46, 49, 50, 51] (by decide +kernel) (by decide +kernel)
set_option maxRecDepth 20000 in
theorem gX5_wrongIn_X5_isWrong : GoodIn wsX5_wrongIn (wsV RX5 136 RX5 yX5_isWrong wsX5_isWrong) := goodIn_app (goodIn_of _ (by decide +kernel)) ggX5_wrongIn_X5_isWrong
theorem dX5_wrongIn_0 : decode cX5_wrongIn 0 = .ok (.iconst 0, 1) := by decide +kernel
theorem dX5_wrongIn_1 : decode cX5_wrongIn 1 = .ok (.istore_n 2, 1) := by decide +kernel
theorem dX5_wrongIn_2 : decode cX5_wrongIn 2 = .ok (.iconst 0, 1) := by decide +kernel
theorem dX5_wrongIn_3 : decode cX5_wrongIn 3 = .ok (.istore_n 3, 1) := by decide +kernel
theorem dX5_wrongIn_4 : decode cX5_wrongIn 4 = .ok (.iload_n 3, 1) := by decide +kernel
theorem dX5_wrongIn_5 : decode cX5_wrongIn 5 = .ok (.aload_n 0, 1) := by decide +kernel
theorem dX5_wrongIn_6 : decode cX5_wrongIn 6 = .ok (.getfield 28, 3) := by decide +kernel
theorem dX5_wrongIn_9 : decode cX5_wrongIn 9 = .ok (.getfield 88, 3) := by decide +kernel
theorem dX5_wrongIn_12 : decode cX5_wrongIn 12 = .ok (.iload_n 1, 1) := by decide +kernel
theorem dX5_wrongIn_13 : decode cX5_wrongIn 13 = .ok (.iaload, 1) := by decide +kernel
theorem dX5_wrongIn_14 : decode cX5_wrongIn 14 = .ok (.if_icmp .ge 29, 3) := by decide +kernel
theorem dX5_wrongIn_17 : decode cX5_wrongIn 17 = .ok (.aload_n 0, 1) := by decide +kernel
theorem dX5_wrongIn_18 : decode cX5_wrongIn 18 = .ok (.iload_n 1, 1) := by decide +kernel
theorem dX5_wrongIn_19 : decode cX5_wrongIn 19 = .ok (.aload_n 0, 1) := by decide +kernel
theorem dX5_wrongIn_20 : decode cX5_wrongIn 20 = .ok (.getfield 28, 3) := by decide +kernel
theorem dX5_wrongIn_23 : decode cX5_wrongIn 23 = .ok (.iload_n 1, 1) := by decide +kernel
theorem dX5_wrongIn_24 : decode cX5_wrongIn 24 = .ok (.iload_n 3, 1) := by decide +kernel
theorem dX5_wrongIn_25 : decode cX5_wrongIn 25 = .ok (.invokevirtual 133, 3) := by decide +kernel
theorem dX5_wrongIn_28 : decode cX5_wrongIn 28 = .ok (.invokevirtual 136, 3) := by decide +kernel
theorem dX5_wrongIn_31 : decode cX5_wrongIn 31 = .ok (.ifCond .eq 6, 3) := by decide +kernel
theorem dX5_wrongIn_34 : decode cX5_wrongIn 34 = .ok (.iinc 2 1, 3) := by decide +kernel
theorem dX5_wrongIn_37 : decode cX5_wrongIn 37 = .ok (.iinc 3 1, 3) := by decide +kernel
theorem dX5_wrongIn_40 : decode cX5_wrongIn 40 = .ok (.goto (-36), 3) := by decide +kernel
theorem dX5_wrongIn_43 : decode cX5_wrongIn 43 = .ok (.iload_n 2, 1) := by decide +kernel
theorem dX5_wrongIn_44 : decode cX5_wrongIn 44 = .ok (.ireturn, 1) := by decide +kernel
set_option maxRecDepth 20000 in
theorem ggX5_wrongInAll_X5_wrongIn : GoodIn wsX5_wrongInAll wsX5_wrongIn := goodIn_r _ [5, 6, 7, 8, 9, 10, 11, 12, 13, 14, 15, 16, 4, 17, 18, 19, 20, 21, 22, 23, 24, 25, 26, 27, 28, 29, 30, 31, 32, 33, 34, 35, 36, 37, 38, 39, 40, 41, 42, 43, 44, 45, 46, 47, 48, 49, 50, 51, 52, 53, 54, 55] (by decide +kernel) (by decide +kernel)
set_option maxRecDepth 20000 in
theorem gX5_wrongInAll_X5_wrongIn : GoodIn wsX5_wrongInAll (wsV RX5 140 RX5 yX5_wrongIn wsX5_wrongIn) := goodIn_app (goodIn_of _ (by decide +kernel)) ggX5_wrongInAll_X5_wrongIn
theorem dX5_wrongInAll_0 : decode cX5_wrongInAll 0 = .ok (.iconst 0, 1) := by decide +kernel
theorem dX5_wrongInAll_1 : decode cX5_wrongInAll 1 = .ok (.istore_n 1, 1) := by decide +kernel
theorem dX5_wrongInAll_2 : decode cX5_wrongInAll 2 = .ok (.iconst 0, 1) := by decide +kernel
theorem dX5_wrongInAll_3 : decode cX5_wrongInAll 3 = .ok (.istore_n 2, 1) := by decide +kernel
theorem dX5_wrongInAll_4 : decode cX5_wrongInAll 4 = .ok (.iload_n 2, 1) := by decide +kernel
theorem dX5_wrongInAll_5 : decode cX5_wrongInAll 5 = .ok (.iconst 4, 1) := by decide +kernel
theorem dX5_wrongInAll_6 : decode cX5_wrongInAll 6 = .ok (.if_icmp .ge 17, 3) := by decide +kernel
theorem dX5_wrongInAll_9 : decode cX5_wrongInAll 9 = .ok (.iload_n 1, 1) := by decide +kernel
theorem dX5_wrongInAll_10 : decode cX5_wrongInAll 10 = .ok (.aload_n 0, 1) := by decide +kernel
theorem dX5_wrongInAll_11 : decode cX5_wrongInAll 11 = .ok (.iload_n 2, 1) := by decide +kernel
theorem dX5_wrongInAll_12 : decode cX5_wrongInAll 12 = .ok (.invokevirtual 140, 3) := by decide +kernel
theorem dX5_wrongInAll_15 : decode cX5_wrongInAll 15 = .ok (.iadd, 1) := by decide +kernel
theorem dX5_wrongInAll_16 : decode cX5_wrongInAll 16 = .ok (.istore_n 1, 1) := by decide +kernel
theorem dX5_wrongInAll_17 : decode cX5_wrongInAll 17 = .ok (.iinc 2 1, 3) := by decide +kernel
theorem dX5_wrongInAll_20 : decode cX5_wrongInAll 20 = .ok (.goto (-16), 3) := by decide +kernel
theorem dX5_wrongInAll_23 : decode cX5_wrongInAll 23 = .ok (.iload_n 1, 1) := by decide +kernel
theorem dX5_wrongInAll_24 : decode cX5_wrongInAll 24 = .ok (.ireturn, 1) := by decide +kernel
set_option maxRecDepth 20000 in
theorem ggX5_copyFrom_X1_copyFrom : GoodIn wsX5_copyFrom wsX1_copyFrom := goodIn_r _ [20, 21, 22, 6, 7, 8, 23, 24, 53, 54, 55] (by decide +kernel) (by decide +kernel)
set_option maxRecDepth 20000 in
theorem gX5_copyFrom_X1_copyFrom : GoodIn wsX5_copyFrom (wsV RX5 143 RX1 yX1_copyFrom wsX1_copyFrom) := goodIn_app (goodIn_of _ (by decide +kernel)) ggX5_copyFrom_X1_copyFrom
set_option maxRecDepth 20000 in
theorem ggX5_copyFrom_X0_copyFrom : GoodIn wsX5_copyFrom wsX0_copyFrom := goodIn_r _ [29, 30, 31, 6, 7, 8, 32, 33, 56, 57, 58] (by decide +kernel) (by decide +kernel)
set_option maxRecDepth 20000 in
theorem gX5_copyFrom_X0_copyFrom : GoodIn wsX5_copyFrom (wsV RX5 147 RX0 yX0_copyFrom wsX0_copyFrom) := goodIn_app (goodIn_of _ (by decide +kernel)) ggX5_copyFrom_X0_copyFrom
set_option maxRecDepth 20000 in
theorem ggX5_copyFrom_X2_copyFrom : GoodIn wsX5_copyFrom wsX2_copyFrom := goodIn_r _ [38, 39, 40, 6, 7, 8, 41, 59, 60] (by decide +kernel) (by decide +kernel)
set_option maxRecDepth 20000 in
theorem gX5_copyFrom_X2_copyFrom : GoodIn wsX5_copyFrom (wsV RX5 150 RX2 yX2_copyFrom wsX2_copyFrom) := goodIn_app (goodIn_of _ (by decide +kernel)) ggX5_copyFrom_X2_copyFrom
theorem dX5_copyFrom_0 : decode cX5_copyFrom 0 = .ok (.aload_n 0, 1) := by decide +kernel
theorem dX5_copyFrom_1 : decode cX5_copyFrom 1 = .ok (.getfield 12, 3) := by decide +kernel
theorem dX5_copyFrom_4 : decode cX5_copyFrom 4 = .ok (.aload_n 1, 1) := by decide +kernel
theorem dX5_copyFrom_5 : decode cX5_copyFrom 5 = .ok (.getfield 12, 3) := by decide +kernel
theorem dX5_copyFrom_8 : decode cX5_copyFrom 8 = .ok (.invokevirtual 143, 3) := by decide +kernel
theorem dX5_copyFrom_11 : decode cX5_copyFrom 11 = .ok (.aload_n 0, 1) := by decide +kernel
theorem dX5_copyFrom_12 : decode cX5_copyFrom 12 = .ok (.getfield 21, 3) := by decide +kernel
theorem dX5_copyFrom_15 : decode cX5_copyFrom 15 = .ok (.aload_n 1, 1) := by decide +kernel
theorem dX5_copyFrom_16 : decode cX5_copyFrom 16 = .ok (.getfield 21, 3) := by decide +kernel
theorem dX5_copyFrom_19 : decode cX5_copyFrom 19 = .ok (.invokevirtual 147, 3) := by decide +kernel
theorem dX5_copyFrom_22 : decode cX5_copyFrom 22 = .ok (.aload_n 0, 1) := by decide +kernel
theorem dX5_copyFrom_23 : decode cX5_copyFrom 23 = .ok (.getfield 28, 3) := by decide +kernel
theorem dX5_copyFrom_26 : decode cX5_copyFrom 26 = .ok (.aload_n 1, 1) := by decide +kernel
theorem dX5_copyFrom_27 : decode cX5_copyFrom 27 = .ok (.getfield 28, 3) := by decide +kernel
theorem dX5_copyFrom_30 : decode cX5_copyFrom 30 = .ok (.invokevirtual 150, 3) := by decide +kernel
theorem dX5_copyFrom_33 : decode cX5_copyFrom 33 = .ok (.aload_n 1, 1) := by decide +kernel
theorem dX5_copyFrom_34 : decode cX5_copyFrom 34 = .ok (.getfield 32, 3) := by decide +kernel
theorem dX5_copyFrom_37 : decode cX5_copyFrom 37 = .ok (.iconst 0, 1) := by decide +kernel
theorem dX5_copyFrom_38 : decode cX5_copyFrom 38 = .ok (.aload_n 0, 1) := by decide +kernel
theorem dX5_copyFrom_39 : decode cX5_copyFrom 39 = .ok (.getfield 32, 3) := by decide +kernel
theorem dX5_copyFrom_42 : decode cX5_copyFrom 42 = .ok (.iconst 0, 1) := by decide +kernel
theorem dX5_copyFrom_43 : decode cX5_copyFrom 43 = .ok (.iconst 3, 1) := by decide +kernel
theorem dX5_copyFrom_44 : decode cX5_copyFrom 44 = .ok (.invokestatic 153, 3) := by decide +kernel
theorem dX5_copyFrom_47 : decode cX5_copyFrom 47 = .ok (.iconst 0, 1) := by decide +kernel
theorem dX5_copyFrom_48 : decode cX5_copyFrom 48 = .ok (.istore_n 2, 1) := by decide +kernel
theorem dX5_copyFrom_49 : decode cX5_copyFrom 49 = .ok (.iload_n 2, 1) := by decide +kernel
theorem dX5_copyFrom_50 : decode cX5_copyFrom 50 = .ok (.iconst 4, 1) := by decide +kernel
theorem dX5_copyFrom_51 : decode cX5_copyFrom 51 = .ok (.if_icmp .ge 21, 3) := by decide +kernel
theorem dX5_copyFrom_54 : decode cX5_copyFrom 54 = .ok (.aload_n 0, 1) := by decide +kernel
theorem dX5_copyFrom_55 : decode cX5_copyFrom 55 = .ok (.getfield 36, 3) := by decide +kernel
theorem dX5_copyFrom_58 : decode cX5_copyFrom 58 = .ok (.iload_n 2, 1) := by decide +kernel
theorem dX5_copyFrom_59 : decode cX5_copyFrom 59 = .ok (.aload_n 1, 1) := by decide +kernel
theorem dX5_copyFrom_60 : decode cX5_copyFrom 60 = .ok (.getfield 36, 3) := by decide +kernel
theorem dX5_copyFrom_63 : decode cX5_copyFrom 63 = .ok (.iload_n 2, 1) := by decide +kernel
theorem dX5_copyFrom_64 : decode cX5_copyFrom 64 = .ok (.baload, 1) := by decide +kernel
theorem dX5_copyFrom_65 : decode cX5_copyFrom 65 = .ok (.bastore, 1) := by decide +kernel
theorem dX5_copyFrom_66 : decode cX5_copyFrom 66 = .ok (.iinc 2 1, 3) := by decide +kernel
theorem dX5_copyFrom_69 : decode cX5_copyFrom 69 = .ok (.goto (-20), 3) := by decide +kernel
theorem dX5_copyFrom_72 : decode cX5_copyFrom 72 = .ok (.aload_n 0, 1) := by decide +kernel
theorem dX5_copyFrom_73 : decode cX5_copyFrom 73 = .ok (.aload_n 1, 1) := by decide +kernel
theorem dX5_copyFrom_74 : decode cX5_copyFrom 74 = .ok (.getfield 40, 3) := by decide +kernel
theorem dX5_copyFrom_77 : decode cX5_copyFrom 77 = .ok (.putfield 40, 3) := by decide +kernel
theorem dX5_copyFrom_80 : decode cX5_copyFrom 80 = .ok (.aload_n 0, 1) := by decide +kernel
theorem dX5_copyFrom_81 : decode cX5_copyFrom 81 = .ok (.aload_n 1, 1) := by decide +kernel
theorem dX5_copyFrom_82 : decode cX5_copyFrom 82 = .ok (.getfield 44, 3) := by decide +kernel
theorem dX5_copyFrom_85 : decode cX5_copyFrom 85 = .ok (.putfield 44, 3) := by decide +kernel
theorem dX5_copyFrom_88 : decode cX5_copyFrom 88 = .ok (.aload_n 0, 1) := by decide +kernel
theorem dX5_copyFrom_89 : decode cX5_copyFrom 89 = .ok (.aload_n 1, 1) := by decide +kernel
theorem dX5_copyFrom_90 : decode cX5_copyFrom 90 = .ok (.getfield 47, 3) := by decide +kernel
theorem dX5_copyFrom_93 : decode cX5_copyFrom 93 = .ok (.putfield 47, 3) := by decide +kernel
theorem dX5_copyFrom_96 : decode cX5_copyFrom 96 = .ok (.aload_n 0, 1) := by decide +kernel
theorem dX5_copyFrom_97 : decode cX5_copyFrom 97 = .ok (.aload_n 1, 1) := by decide +kernel
theorem dX5_copyFrom_98 : decode cX5_copyFrom 98 = .ok (.getfield 50, 3) := by decide +kernel
theorem dX5_copyFrom_101 : decode cX5_copyFrom 101 = .ok (.putfield 50, 3) := by decide +kernel
theorem dX5_copyFrom_104 : decode cX5_copyFrom 104 = .ok (.aload_n 0, 1) := by decide +kernel
theorem dX5_copyFrom_105 : decode cX5_copyFrom 105 = .ok (.aload_n 1, 1) := by decide +kernel
theorem dX5_copyFrom_106 : decode cX5_copyFrom 106 = .ok (.getfield 53, 3) := by decide +kernel
theorem dX5_copyFrom_109 : decode cX5_copyFrom 109 = .ok (.putfield 53, 3) := by decide +kernel
theorem dX5_copyFrom_112 : decode cX5_copyFrom 112 = .ok (.aload_n 0, 1) := by decide +kernel
theorem dX5_copyFrom_113 : decode cX5_copyFrom 113 = .ok (.aload_n 1, 1) := by decide +kernel
theorem dX5_copyFrom_114 : decode cX5_copyFrom 114 = .ok (.getfield 56, 3) := by decide +kernel
theorem dX5_copyFrom_117 : decode cX5_copyFrom 117 = .ok (.putfield 56, 3) := by decide +kernel
theorem dX5_copyFrom_120 : decode cX5_copyFrom 120 = .ok (.return_, 1) := by decide +kernel
