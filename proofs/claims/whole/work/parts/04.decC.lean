theorem dX8_init_0 : decode cX8_init 0 = .ok (.aload_n 0, 1) := by decide +kernel
theorem dX8_init_1 : decode cX8_init 1 = .ok (.invokespecial 1, 3) := by decide +kernel
theorem dX8_init_4 : decode cX8_init 4 = .ok (.aload_n 0, 1) := by decide +kernel
theorem dX8_init_5 : decode cX8_init 5 = .ok (.sipush 1200, 3) := by decide +kernel
theorem dX8_init_8 : decode cX8_init 8 = .ok (.newarray .int, 2) := by decide +kernel
theorem dX8_init_10 : decode cX8_init 10 = .ok (.putfield 7, 3) := by decide +kernel
theorem dX8_init_13 : decode cX8_init 13 = .ok (.aload_n 0, 1) := by decide +kernel
theorem dX8_init_14 : decode cX8_init 14 = .ok (.sipush 4800, 3) := by decide +kernel
theorem dX8_init_17 : decode cX8_init 17 = .ok (.newarray .int, 2) := by decide +kernel
theorem dX8_init_19 : decode cX8_init 19 = .ok (.putfield 13, 3) := by decide +kernel
theorem dX8_init_22 : decode cX8_init 22 = .ok (.aload_n 0, 1) := by decide +kernel
theorem dX8_init_23 : decode cX8_init 23 = .ok (.sipush 1200, 3) := by decide +kernel
theorem dX8_init_26 : decode cX8_init 26 = .ok (.newarray .int, 2) := by decide +kernel
theorem dX8_init_28 : decode cX8_init 28 = .ok (.putfield 16, 3) := by decide +kernel
theorem dX8_init_31 : decode cX8_init 31 = .ok (.aload_n 0, 1) := by decide +kernel
theorem dX8_init_32 : decode cX8_init 32 = .ok (.sipush 1200, 3) := by decide +kernel
theorem dX8_init_35 : decode cX8_init 35 = .ok (.newarray .int, 2) := by decide +kernel
theorem dX8_init_37 : decode cX8_init 37 = .ok (.putfield 19, 3) := by decide +kernel
theorem dX8_init_40 : decode cX8_init 40 = .ok (.aload_n 0, 1) := by decide +kernel
theorem dX8_init_41 : decode cX8_init 41 = .ok (.bipush 60, 2) := by decide +kernel
theorem dX8_init_43 : decode cX8_init 43 = .ok (.newarray .int, 2) := by decide +kernel
theorem dX8_init_45 : decode cX8_init 45 = .ok (.putfield 22, 3) := by decide +kernel
theorem dX8_init_48 : decode cX8_init 48 = .ok (.aload_n 0, 1) := by decide +kernel
theorem dX8_init_49 : decode cX8_init 49 = .ok (.sipush 155, 3) := by decide +kernel
theorem dX8_init_52 : decode cX8_init 52 = .ok (.newarray .int, 2) := by decide +kernel
theorem dX8_init_54 : decode cX8_init 54 = .ok (.putfield 25, 3) := by decide +kernel
theorem dX8_init_57 : decode cX8_init 57 = .ok (.aload_n 0, 1) := by decide +kernel
theorem dX8_init_58 : decode cX8_init 58 = .ok (.getfield 7, 3) := by decide +kernel
theorem dX8_init_61 : decode cX8_init 61 = .ok (.iconst 1, 1) := by decide +kernel
theorem dX8_init_62 : decode cX8_init 62 = .ok (.iconst 1, 1) := by decide +kernel
theorem dX8_init_63 : decode cX8_init 63 = .ok (.iastore, 1) := by decide +kernel
theorem dX8_init_64 : decode cX8_init 64 = .ok (.aload_n 0, 1) := by decide +kernel
theorem dX8_init_65 : decode cX8_init 65 = .ok (.getfield 7, 3) := by decide +kernel
theorem dX8_init_68 : decode cX8_init 68 = .ok (.iconst 2, 1) := by decide +kernel
theorem dX8_init_69 : decode cX8_init 69 = .ok (.bipush 10, 2) := by decide +kernel
theorem dX8_init_71 : decode cX8_init 71 = .ok (.iastore, 1) := by decide +kernel
theorem dX8_init_72 : decode cX8_init 72 = .ok (.aload_n 0, 1) := by decide +kernel
theorem dX8_init_73 : decode cX8_init 73 = .ok (.getfield 7, 3) := by decide +kernel
theorem dX8_init_76 : decode cX8_init 76 = .ok (.iconst 3, 1) := by decide +kernel
theorem dX8_init_77 : decode cX8_init 77 = .ok (.bipush 15, 2) := by decide +kernel
theorem dX8_init_79 : decode cX8_init 79 = .ok (.iastore, 1) := by decide +kernel
theorem dX8_init_80 : decode cX8_init 80 = .ok (.return_, 1) := by decide +kernel
theorem dX8_in_0 : decode cX8_in 0 = .ok (.iload_n 0, 1) := by decide +kernel
theorem dX8_in_1 : decode cX8_in 1 = .ok (.iload_n 1, 1) := by decide +kernel
theorem dX8_in_2 : decode cX8_in 2 = .ok (.if_icmp .lt 12, 3) := by decide +kernel
theorem dX8_in_5 : decode cX8_in 5 = .ok (.iload_n 0, 1) := by decide +kernel
theorem dX8_in_6 : decode cX8_in 6 = .ok (.iload_n 2, 1) := by decide +kernel
theorem dX8_in_7 : decode cX8_in 7 = .ok (.if_icmp .gt 7, 3) := by decide +kernel
theorem dX8_in_10 : decode cX8_in 10 = .ok (.iconst 1, 1) := by decide +kernel
theorem dX8_in_11 : decode cX8_in 11 = .ok (.goto 4, 3) := by decide +kernel
theorem dX8_in_14 : decode cX8_in 14 = .ok (.iconst 0, 1) := by decide +kernel
theorem dX8_in_15 : decode cX8_in 15 = .ok (.ireturn, 1) := by decide +kernel
theorem dX8_changes_0 : decode cX8_changes 0 = .ok (.aload_n 0, 1) := by decide +kernel
theorem dX8_changes_1 : decode cX8_changes 1 = .ok (.getfield 28, 3) := by decide +kernel
theorem dX8_changes_4 : decode cX8_changes 4 = .ok (.iconst 4, 1) := by decide +kernel
theorem dX8_changes_5 : decode cX8_changes 5 = .ok (.if_icmp .ne 44, 3) := by decide +kernel
theorem dX8_changes_8 : decode cX8_changes 8 = .ok (.iconst 0, 1) := by decide +kernel
theorem dX8_changes_9 : decode cX8_changes 9 = .ok (.istore_n 1, 1) := by decide +kernel
theorem dX8_changes_10 : decode cX8_changes 10 = .ok (.iload_n 1, 1) := by decide +kernel
theorem dX8_changes_11 : decode cX8_changes 11 = .ok (.sipush 3600, 3) := by decide +kernel
theorem dX8_changes_14 : decode cX8_changes 14 = .ok (.if_icmp .ge 25, 3) := by decide +kernel
theorem dX8_changes_17 : decode cX8_changes 17 = .ok (.aload_n 0, 1) := by decide +kernel
theorem dX8_changes_18 : decode cX8_changes 18 = .ok (.getfield 13, 3) := by decide +kernel
theorem dX8_changes_21 : decode cX8_changes 21 = .ok (.iload_n 1, 1) := by decide +kernel
theorem dX8_changes_22 : decode cX8_changes 22 = .ok (.aload_n 0, 1) := by decide +kernel
theorem dX8_changes_23 : decode cX8_changes 23 = .ok (.getfield 13, 3) := by decide +kernel
theorem dX8_changes_26 : decode cX8_changes 26 = .ok (.iload_n 1, 1) := by decide +kernel
theorem dX8_changes_27 : decode cX8_changes 27 = .ok (.sipush 1200, 3) := by decide +kernel
theorem dX8_changes_30 : decode cX8_changes 30 = .ok (.iadd, 1) := by decide +kernel
theorem dX8_changes_31 : decode cX8_changes 31 = .ok (.iaload, 1) := by decide +kernel
theorem dX8_changes_32 : decode cX8_changes 32 = .ok (.iastore, 1) := by decide +kernel
theorem dX8_changes_33 : decode cX8_changes 33 = .ok (.iinc 1 1, 3) := by decide +kernel
theorem dX8_changes_36 : decode cX8_changes 36 = .ok (.goto (-26), 3) := by decide +kernel
theorem dX8_changes_39 : decode cX8_changes 39 = .ok (.aload_n 0, 1) := by decide +kernel
theorem dX8_changes_40 : decode cX8_changes 40 = .ok (.dup, 1) := by decide +kernel
theorem dX8_changes_41 : decode cX8_changes 41 = .ok (.getfield 28, 3) := by decide +kernel
theorem dX8_changes_44 : decode cX8_changes 44 = .ok (.iconst 1, 1) := by decide +kernel
theorem dX8_changes_45 : decode cX8_changes 45 = .ok (.isub, 1) := by decide +kernel
theorem dX8_changes_46 : decode cX8_changes 46 = .ok (.putfield 28, 3) := by decide +kernel
theorem dX8_changes_49 : decode cX8_changes 49 = .ok (.iconst 0, 1) := by decide +kernel
theorem dX8_changes_50 : decode cX8_changes 50 = .ok (.istore_n 1, 1) := by decide +kernel
theorem dX8_changes_51 : decode cX8_changes 51 = .ok (.iload_n 1, 1) := by decide +kernel
theorem dX8_changes_52 : decode cX8_changes 52 = .ok (.sipush 1200, 3) := by decide +kernel
theorem dX8_changes_55 : decode cX8_changes 55 = .ok (.if_icmp .ge 30, 3) := by decide +kernel
theorem dX8_changes_58 : decode cX8_changes 58 = .ok (.aload_n 0, 1) := by decide +kernel
theorem dX8_changes_59 : decode cX8_changes 59 = .ok (.getfield 13, 3) := by decide +kernel
theorem dX8_changes_62 : decode cX8_changes 62 = .ok (.sipush 1200, 3) := by decide +kernel
theorem dX8_changes_65 : decode cX8_changes 65 = .ok (.aload_n 0, 1) := by decide +kernel
theorem dX8_changes_66 : decode cX8_changes 66 = .ok (.getfield 28, 3) := by decide +kernel
theorem dX8_changes_69 : decode cX8_changes 69 = .ok (.imul, 1) := by decide +kernel
theorem dX8_changes_70 : decode cX8_changes 70 = .ok (.iload_n 1, 1) := by decide +kernel
theorem dX8_changes_71 : decode cX8_changes 71 = .ok (.iadd, 1) := by decide +kernel
theorem dX8_changes_72 : decode cX8_changes 72 = .ok (.aload_n 0, 1) := by decide +kernel
theorem dX8_changes_73 : decode cX8_changes 73 = .ok (.getfield 7, 3) := by decide +kernel
theorem dX8_changes_76 : decode cX8_changes 76 = .ok (.iload_n 1, 1) := by decide +kernel
theorem dX8_changes_77 : decode cX8_changes 77 = .ok (.iaload, 1) := by decide +kernel
theorem dX8_changes_78 : decode cX8_changes 78 = .ok (.iastore, 1) := by decide +kernel
theorem dX8_changes_79 : decode cX8_changes 79 = .ok (.iinc 1 1, 3) := by decide +kernel
theorem dX8_changes_82 : decode cX8_changes 82 = .ok (.goto (-31), 3) := by decide +kernel
theorem dX8_changes_85 : decode cX8_changes 85 = .ok (.aload_n 0, 1) := by decide +kernel
theorem dX8_changes_86 : decode cX8_changes 86 = .ok (.dup, 1) := by decide +kernel
theorem dX8_changes_87 : decode cX8_changes 87 = .ok (.getfield 28, 3) := by decide +kernel
theorem dX8_changes_90 : decode cX8_changes 90 = .ok (.iconst 1, 1) := by decide +kernel
theorem dX8_changes_91 : decode cX8_changes 91 = .ok (.iadd, 1) := by decide +kernel
theorem dX8_changes_92 : decode cX8_changes 92 = .ok (.putfield 28, 3) := by decide +kernel
theorem dX8_changes_95 : decode cX8_changes 95 = .ok (.return_, 1) := by decide +kernel
theorem dX8_putsAside_0 : decode cX8_putsAside 0 = .ok (.iconst 0, 1) := by decide +kernel
theorem dX8_putsAside_1 : decode cX8_putsAside 1 = .ok (.istore_n 1, 1) := by decide +kernel
theorem dX8_putsAside_2 : decode cX8_putsAside 2 = .ok (.iload_n 1, 1) := by decide +kernel
theorem dX8_putsAside_3 : decode cX8_putsAside 3 = .ok (.sipush 1200, 3) := by decide +kernel
theorem dX8_putsAside_6 : decode cX8_putsAside 6 = .ok (.if_icmp .ge 21, 3) := by decide +kernel
theorem dX8_putsAside_9 : decode cX8_putsAside 9 = .ok (.aload_n 0, 1) := by decide +kernel
theorem dX8_putsAside_10 : decode cX8_putsAside 10 = .ok (.getfield 19, 3) := by decide +kernel
theorem dX8_putsAside_13 : decode cX8_putsAside 13 = .ok (.iload_n 1, 1) := by decide +kernel
theorem dX8_putsAside_14 : decode cX8_putsAside 14 = .ok (.aload_n 0, 1) := by decide +kernel
theorem dX8_putsAside_15 : decode cX8_putsAside 15 = .ok (.getfield 7, 3) := by decide +kernel
theorem dX8_putsAside_18 : decode cX8_putsAside 18 = .ok (.iload_n 1, 1) := by decide +kernel
theorem dX8_putsAside_19 : decode cX8_putsAside 19 = .ok (.iaload, 1) := by decide +kernel
theorem dX8_putsAside_20 : decode cX8_putsAside 20 = .ok (.iastore, 1) := by decide +kernel
theorem dX8_putsAside_21 : decode cX8_putsAside 21 = .ok (.iinc 1 1, 3) := by decide +kernel
theorem dX8_putsAside_24 : decode cX8_putsAside 24 = .ok (.goto (-22), 3) := by decide +kernel
theorem dX8_putsAside_27 : decode cX8_putsAside 27 = .ok (.return_, 1) := by decide +kernel
theorem dX8_putsBack_0 : decode cX8_putsBack 0 = .ok (.iconst 0, 1) := by decide +kernel
theorem dX8_putsBack_1 : decode cX8_putsBack 1 = .ok (.istore_n 1, 1) := by decide +kernel
theorem dX8_putsBack_2 : decode cX8_putsBack 2 = .ok (.iload_n 1, 1) := by decide +kernel
theorem dX8_putsBack_3 : decode cX8_putsBack 3 = .ok (.sipush 1200, 3) := by decide +kernel
theorem dX8_putsBack_6 : decode cX8_putsBack 6 = .ok (.if_icmp .ge 21, 3) := by decide +kernel
theorem dX8_putsBack_9 : decode cX8_putsBack 9 = .ok (.aload_n 0, 1) := by decide +kernel
theorem dX8_putsBack_10 : decode cX8_putsBack 10 = .ok (.getfield 7, 3) := by decide +kernel
theorem dX8_putsBack_13 : decode cX8_putsBack 13 = .ok (.iload_n 1, 1) := by decide +kernel
theorem dX8_putsBack_14 : decode cX8_putsBack 14 = .ok (.aload_n 0, 1) := by decide +kernel
theorem dX8_putsBack_15 : decode cX8_putsBack 15 = .ok (.getfield 19, 3) := by decide +kernel
theorem dX8_putsBack_18 : decode cX8_putsBack 18 = .ok (.iload_n 1, 1) := by decide +kernel
theorem dX8_putsBack_19 : decode cX8_putsBack 19 = .ok (.iaload, 1) := by decide +kernel
theorem dX8_putsBack_20 : decode cX8_putsBack 20 = .ok (.iastore, 1) := by decide +kernel
theorem dX8_putsBack_21 : decode cX8_putsBack 21 = .ok (.iinc 1 1, 3) := by decide +kernel
theorem dX8_putsBack_24 : decode cX8_putsBack 24 = .ok (.goto (-22), 3) := by decide +kernel
theorem dX8_putsBack_27 : decode cX8_putsBack 27 = .ok (.return_, 1) := by decide +kernel
set_option maxRecDepth 20000 in
theorem ggX8_isApple_X8_in : GoodIn wsX8_isApple wsX8_in := goodIn_r _ [4] (by decide +kernel) (by decide +kernel)
set_option maxRecDepth 20000 in
theorem gX8_isApple_X8_in : GoodIn wsX8_isApple (va_wsS RX8 32 yX8_in wsX8_in) := goodIn_app (goodIn_of _ (by decide +kernel)) ggX8_isApple_X8_in
theorem dX8_isApple_0 : decode cX8_isApple 0 = .ok (.iload_n 0, 1) := by decide +kernel
theorem dX8_isApple_1 : decode cX8_isApple 1 = .ok (.bipush 50, 2) := by decide +kernel
theorem dX8_isApple_3 : decode cX8_isApple 3 = .ok (.sipush 300, 3) := by decide +kernel
theorem dX8_isApple_6 : decode cX8_isApple 6 = .ok (.invokestatic 32, 3) := by decide +kernel
theorem dX8_isApple_9 : decode cX8_isApple 9 = .ok (.ifCond .eq 27, 3) := by decide +kernel
theorem dX8_isApple_12 : decode cX8_isApple 12 = .ok (.iload_n 1, 1) := by decide +kernel
theorem dX8_isApple_13 : decode cX8_isApple 13 = .ok (.iconst 0, 1) := by decide +kernel
theorem dX8_isApple_14 : decode cX8_isApple 14 = .ok (.bipush 100, 2) := by decide +kernel
theorem dX8_isApple_16 : decode cX8_isApple 16 = .ok (.invokestatic 32, 3) := by decide +kernel
theorem dX8_isApple_19 : decode cX8_isApple 19 = .ok (.ifCond .eq 17, 3) := by decide +kernel
theorem dX8_isApple_22 : decode cX8_isApple 22 = .ok (.iload_n 2, 1) := by decide +kernel
theorem dX8_isApple_23 : decode cX8_isApple 23 = .ok (.iconst 0, 1) := by decide +kernel
theorem dX8_isApple_24 : decode cX8_isApple 24 = .ok (.bipush 9, 2) := by decide +kernel
theorem dX8_isApple_26 : decode cX8_isApple 26 = .ok (.invokestatic 32, 3) := by decide +kernel
theorem dX8_isApple_29 : decode cX8_isApple 29 = .ok (.ifCond .eq 7, 3) := by decide +kernel
theorem dX8_isApple_32 : decode cX8_isApple 32 = .ok (.iconst 1, 1) := by decide +kernel
theorem dX8_isApple_33 : decode cX8_isApple 33 = .ok (.goto 4, 3) := by decide +kernel
theorem dX8_isApple_36 : decode cX8_isApple 36 = .ok (.iconst 0, 1) := by decide +kernel
theorem dX8_isApple_37 : decode cX8_isApple 37 = .ok (.ireturn, 1) := by decide +kernel
theorem dX8_packed_0 : decode cX8_packed 0 = .ok (.sipush 1010, 3) := by decide +kernel
theorem dX8_packed_3 : decode cX8_packed 3 = .ok (.iload_n 0, 1) := by decide +kernel
theorem dX8_packed_4 : decode cX8_packed 4 = .ok (.imul, 1) := by decide +kernel
theorem dX8_packed_5 : decode cX8_packed 5 = .ok (.bipush 10, 2) := by decide +kernel
theorem dX8_packed_7 : decode cX8_packed 7 = .ok (.iload_n 1, 1) := by decide +kernel
theorem dX8_packed_8 : decode cX8_packed 8 = .ok (.imul, 1) := by decide +kernel
theorem dX8_packed_9 : decode cX8_packed 9 = .ok (.iadd, 1) := by decide +kernel
theorem dX8_packed_10 : decode cX8_packed 10 = .ok (.iload_n 2, 1) := by decide +kernel
theorem dX8_packed_11 : decode cX8_packed 11 = .ok (.iadd, 1) := by decide +kernel
theorem dX8_packed_12 : decode cX8_packed 12 = .ok (.ireturn, 1) := by decide +kernel
theorem dX8_weightOf_0 : decode cX8_weightOf 0 = .ok (.iload_n 0, 1) := by decide +kernel
theorem dX8_weightOf_1 : decode cX8_weightOf 1 = .ok (.sipush 1010, 3) := by decide +kernel
theorem dX8_weightOf_4 : decode cX8_weightOf 4 = .ok (.idiv, 1) := by decide +kernel
theorem dX8_weightOf_5 : decode cX8_weightOf 5 = .ok (.ireturn, 1) := by decide +kernel
theorem dX8_redOf_0 : decode cX8_redOf 0 = .ok (.iload_n 0, 1) := by decide +kernel
theorem dX8_redOf_1 : decode cX8_redOf 1 = .ok (.sipush 1010, 3) := by decide +kernel
theorem dX8_redOf_4 : decode cX8_redOf 4 = .ok (.irem, 1) := by decide +kernel
theorem dX8_redOf_5 : decode cX8_redOf 5 = .ok (.bipush 10, 2) := by decide +kernel
theorem dX8_redOf_7 : decode cX8_redOf 7 = .ok (.idiv, 1) := by decide +kernel
theorem dX8_redOf_8 : decode cX8_redOf 8 = .ok (.ireturn, 1) := by decide +kernel
theorem dX8_bruiseOf_0 : decode cX8_bruiseOf 0 = .ok (.iload_n 0, 1) := by decide +kernel
theorem dX8_bruiseOf_1 : decode cX8_bruiseOf 1 = .ok (.sipush 1010, 3) := by decide +kernel
theorem dX8_bruiseOf_4 : decode cX8_bruiseOf 4 = .ok (.irem, 1) := by decide +kernel
theorem dX8_bruiseOf_5 : decode cX8_bruiseOf 5 = .ok (.bipush 10, 2) := by decide +kernel
theorem dX8_bruiseOf_7 : decode cX8_bruiseOf 7 = .ok (.irem, 1) := by decide +kernel
theorem dX8_bruiseOf_8 : decode cX8_bruiseOf 8 = .ok (.ireturn, 1) := by decide +kernel
set_option maxRecDepth 20000 in
theorem ggX8_seen_X8_redOf : GoodIn wsX8_seen wsX8_redOf := goodIn_r _ [5] (by decide +kernel) (by decide +kernel)
set_option maxRecDepth 20000 in
theorem gX8_seen_X8_redOf : GoodIn wsX8_seen (va_wsS RX8 36 yX8_redOf wsX8_redOf) := goodIn_app (goodIn_of _ (by decide +kernel)) ggX8_seen_X8_redOf
set_option maxRecDepth 20000 in
theorem ggX8_seen_X8_bruiseOf : GoodIn wsX8_seen wsX8_bruiseOf := goodIn_r _ [8] (by decide +kernel) (by decide +kernel)
set_option maxRecDepth 20000 in
theorem gX8_seen_X8_bruiseOf : GoodIn wsX8_seen (va_wsS RX8 40 yX8_bruiseOf wsX8_bruiseOf) := goodIn_app (goodIn_of _ (by decide +kernel)) ggX8_seen_X8_bruiseOf
set_option maxRecDepth 20000 in
theorem ggX8_seen_X8_weightOf : GoodIn wsX8_seen wsX8_weightOf := goodIn_r _ [11] (by decide +kernel) (by decide +kernel)
set_option maxRecDepth 20000 in
theorem gX8_seen_X8_weightOf : GoodIn wsX8_seen (va_wsS RX8 43 yX8_weightOf wsX8_weightOf) := goodIn_app (goodIn_of _ (by decide +kernel)) ggX8_seen_X8_weightOf
set_option maxRecDepth 20000 in
theorem ggX8_seen_X8_packed : GoodIn wsX8_seen wsX8_packed := goodIn_r _ [14] (by decide +kernel) (by decide +kernel)
set_option maxRecDepth 20000 in
theorem gX8_seen_X8_packed : GoodIn wsX8_seen (va_wsS RX8 46 yX8_packed wsX8_packed) := goodIn_app (goodIn_of _ (by decide +kernel)) ggX8_seen_X8_packed
theorem dX8_seen_0 : decode cX8_seen 0 = .ok (.iload_n 1, 1) := by decide +kernel
theorem dX8_seen_1 : decode cX8_seen 1 = .ok (.invokestatic 36, 3) := by decide +kernel
theorem dX8_seen_4 : decode cX8_seen 4 = .ok (.aload_n 0, 1) := by decide +kernel
theorem dX8_seen_5 : decode cX8_seen 5 = .ok (.getfield 7, 3) := by decide +kernel
theorem dX8_seen_8 : decode cX8_seen 8 = .ok (.iconst 0, 1) := by decide +kernel
theorem dX8_seen_9 : decode cX8_seen 9 = .ok (.iaload, 1) := by decide +kernel
theorem dX8_seen_10 : decode cX8_seen 10 = .ok (.iadd, 1) := by decide +kernel
theorem dX8_seen_11 : decode cX8_seen 11 = .ok (.istore_n 2, 1) := by decide +kernel
theorem dX8_seen_12 : decode cX8_seen 12 = .ok (.iload_n 2, 1) := by decide +kernel
theorem dX8_seen_13 : decode cX8_seen 13 = .ok (.ifCond .ge 7, 3) := by decide +kernel
theorem dX8_seen_16 : decode cX8_seen 16 = .ok (.iconst 0, 1) := by decide +kernel
theorem dX8_seen_17 : decode cX8_seen 17 = .ok (.goto 15, 3) := by decide +kernel
theorem dX8_seen_20 : decode cX8_seen 20 = .ok (.iload_n 2, 1) := by decide +kernel
theorem dX8_seen_21 : decode cX8_seen 21 = .ok (.bipush 100, 2) := by decide +kernel
theorem dX8_seen_23 : decode cX8_seen 23 = .ok (.if_icmp .le 8, 3) := by decide +kernel
theorem dX8_seen_26 : decode cX8_seen 26 = .ok (.bipush 100, 2) := by decide +kernel
theorem dX8_seen_28 : decode cX8_seen 28 = .ok (.goto 4, 3) := by decide +kernel
theorem dX8_seen_31 : decode cX8_seen 31 = .ok (.iload_n 2, 1) := by decide +kernel
theorem dX8_seen_32 : decode cX8_seen 32 = .ok (.istore_n 2, 1) := by decide +kernel
theorem dX8_seen_33 : decode cX8_seen 33 = .ok (.iload_n 1, 1) := by decide +kernel
theorem dX8_seen_34 : decode cX8_seen 34 = .ok (.invokestatic 40, 3) := by decide +kernel
theorem dX8_seen_37 : decode cX8_seen 37 = .ok (.istore_n 3, 1) := by decide +kernel
theorem dX8_seen_38 : decode cX8_seen 38 = .ok (.iload_n 1, 1) := by decide +kernel
theorem dX8_seen_39 : decode cX8_seen 39 = .ok (.invokestatic 43, 3) := by decide +kernel
theorem dX8_seen_42 : decode cX8_seen 42 = .ok (.iload_n 2, 1) := by decide +kernel
theorem dX8_seen_43 : decode cX8_seen 43 = .ok (.iload_n 3, 1) := by decide +kernel
theorem dX8_seen_44 : decode cX8_seen 44 = .ok (.aload_n 0, 1) := by decide +kernel
theorem dX8_seen_45 : decode cX8_seen 45 = .ok (.getfield 7, 3) := by decide +kernel
theorem dX8_seen_48 : decode cX8_seen 48 = .ok (.iconst 1, 1) := by decide +kernel
theorem dX8_seen_49 : decode cX8_seen 49 = .ok (.iaload, 1) := by decide +kernel
theorem dX8_seen_50 : decode cX8_seen 50 = .ok (.if_icmp .ge 7, 3) := by decide +kernel
theorem dX8_seen_53 : decode cX8_seen 53 = .ok (.iconst 0, 1) := by decide +kernel
theorem dX8_seen_54 : decode cX8_seen 54 = .ok (.goto 4, 3) := by decide +kernel
theorem dX8_seen_57 : decode cX8_seen 57 = .ok (.iload_n 3, 1) := by decide +kernel
theorem dX8_seen_58 : decode cX8_seen 58 = .ok (.invokestatic 46, 3) := by decide +kernel
theorem dX8_seen_61 : decode cX8_seen 61 = .ok (.ireturn, 1) := by decide +kernel
theorem dX8_ruleAt_0 : decode cX8_ruleAt 0 = .ok (.iconst 5, 1) := by decide +kernel
theorem dX8_ruleAt_1 : decode cX8_ruleAt 1 = .ok (.iconst 4, 1) := by decide +kernel
theorem dX8_ruleAt_2 : decode cX8_ruleAt 2 = .ok (.iload_n 0, 1) := by decide +kernel
theorem dX8_ruleAt_3 : decode cX8_ruleAt 3 = .ok (.imul, 1) := by decide +kernel
theorem dX8_ruleAt_4 : decode cX8_ruleAt 4 = .ok (.iadd, 1) := by decide +kernel
theorem dX8_ruleAt_5 : decode cX8_ruleAt 5 = .ok (.ireturn, 1) := by decide +kernel
set_option maxRecDepth 20000 in
theorem ggX8_missed_X8_ruleAt : GoodIn wsX8_missed wsX8_ruleAt := goodIn_r _ [5] (by decide +kernel) (by decide +kernel)
set_option maxRecDepth 20000 in
theorem gX8_missed_X8_ruleAt : GoodIn wsX8_missed (va_wsS RX8 50 yX8_ruleAt wsX8_ruleAt) := goodIn_app (goodIn_of _ (by decide +kernel)) ggX8_missed_X8_ruleAt
set_option maxRecDepth 20000 in
theorem ggX8_missed_X8_weightOf : GoodIn wsX8_missed wsX8_weightOf := goodIn_r _ [8] (by decide +kernel) (by decide +kernel)
set_option maxRecDepth 20000 in
theorem gX8_missed_X8_weightOf : GoodIn wsX8_missed (va_wsS RX8 43 yX8_weightOf wsX8_weightOf) := goodIn_app (goodIn_of _ (by decide +kernel)) ggX8_missed_X8_weightOf
set_option maxRecDepth 20000 in
theorem ggX8_missed_X8_redOf : GoodIn wsX8_missed wsX8_redOf := goodIn_r _ [11] (by decide +kernel) (by decide +kernel)
set_option maxRecDepth 20000 in
theorem gX8_missed_X8_redOf : GoodIn wsX8_missed (va_wsS RX8 36 yX8_redOf wsX8_redOf) := goodIn_app (goodIn_of _ (by decide +kernel)) ggX8_missed_X8_redOf
set_option maxRecDepth 20000 in
theorem ggX8_missed_X8_bruiseOf : GoodIn wsX8_missed wsX8_bruiseOf := goodIn_r _ [14] (by decide +kernel) (by decide +kernel)
set_option maxRecDepth 20000 in
theorem gX8_missed_X8_bruiseOf : GoodIn wsX8_missed (va_wsS RX8 40 yX8_bruiseOf wsX8_bruiseOf) := goodIn_app (goodIn_of _ (by decide +kernel)) ggX8_missed_X8_bruiseOf
theorem dX8_missed_0 : decode cX8_missed 0 = .ok (.iload_n 1, 1) := by decide +kernel
theorem dX8_missed_1 : decode cX8_missed 1 = .ok (.invokestatic 50, 3) := by decide +kernel
theorem dX8_missed_4 : decode cX8_missed 4 = .ok (.istore_n 3, 1) := by decide +kernel
theorem dX8_missed_5 : decode cX8_missed 5 = .ok (.iload_n 2, 1) := by decide +kernel
theorem dX8_missed_6 : decode cX8_missed 6 = .ok (.invokestatic 43, 3) := by decide +kernel
theorem dX8_missed_9 : decode cX8_missed 9 = .ok (.aload_n 0, 1) := by decide +kernel
theorem dX8_missed_10 : decode cX8_missed 10 = .ok (.getfield 7, 3) := by decide +kernel
theorem dX8_missed_13 : decode cX8_missed 13 = .ok (.iload_n 3, 1) := by decide +kernel
theorem dX8_missed_14 : decode cX8_missed 14 = .ok (.iaload, 1) := by decide +kernel
theorem dX8_missed_15 : decode cX8_missed 15 = .ok (.if_icmp .ge 7, 3) := by decide +kernel
theorem dX8_missed_18 : decode cX8_missed 18 = .ok (.iconst 1, 1) := by decide +kernel
theorem dX8_missed_19 : decode cX8_missed 19 = .ok (.goto 4, 3) := by decide +kernel
theorem dX8_missed_22 : decode cX8_missed 22 = .ok (.iconst 0, 1) := by decide +kernel
theorem dX8_missed_23 : decode cX8_missed 23 = .ok (.iload_n 2, 1) := by decide +kernel
theorem dX8_missed_24 : decode cX8_missed 24 = .ok (.invokestatic 36, 3) := by decide +kernel
theorem dX8_missed_27 : decode cX8_missed 27 = .ok (.aload_n 0, 1) := by decide +kernel
theorem dX8_missed_28 : decode cX8_missed 28 = .ok (.getfield 7, 3) := by decide +kernel
theorem dX8_missed_31 : decode cX8_missed 31 = .ok (.iload_n 3, 1) := by decide +kernel
theorem dX8_missed_32 : decode cX8_missed 32 = .ok (.iconst 1, 1) := by decide +kernel
theorem dX8_missed_33 : decode cX8_missed 33 = .ok (.iadd, 1) := by decide +kernel
theorem dX8_missed_34 : decode cX8_missed 34 = .ok (.iaload, 1) := by decide +kernel
theorem dX8_missed_35 : decode cX8_missed 35 = .ok (.if_icmp .ge 7, 3) := by decide +kernel
theorem dX8_missed_38 : decode cX8_missed 38 = .ok (.iconst 2, 1) := by decide +kernel
theorem dX8_missed_39 : decode cX8_missed 39 = .ok (.goto 4, 3) := by decide +kernel
theorem dX8_missed_42 : decode cX8_missed 42 = .ok (.iconst 0, 1) := by decide +kernel
theorem dX8_missed_43 : decode cX8_missed 43 = .ok (.iadd, 1) := by decide +kernel
theorem dX8_missed_44 : decode cX8_missed 44 = .ok (.iload_n 2, 1) := by decide +kernel
theorem dX8_missed_45 : decode cX8_missed 45 = .ok (.invokestatic 40, 3) := by decide +kernel
theorem dX8_missed_48 : decode cX8_missed 48 = .ok (.aload_n 0, 1) := by decide +kernel
theorem dX8_missed_49 : decode cX8_missed 49 = .ok (.getfield 7, 3) := by decide +kernel
theorem dX8_missed_52 : decode cX8_missed 52 = .ok (.iload_n 3, 1) := by decide +kernel
theorem dX8_missed_53 : decode cX8_missed 53 = .ok (.iconst 2, 1) := by decide +kernel
theorem dX8_missed_54 : decode cX8_missed 54 = .ok (.iadd, 1) := by decide +kernel
theorem dX8_missed_55 : decode cX8_missed 55 = .ok (.iaload, 1) := by decide +kernel
theorem dX8_missed_56 : decode cX8_missed 56 = .ok (.if_icmp .le 7, 3) := by decide +kernel
theorem dX8_missed_59 : decode cX8_missed 59 = .ok (.iconst 4, 1) := by decide +kernel
theorem dX8_missed_60 : decode cX8_missed 60 = .ok (.goto 4, 3) := by decide +kernel
theorem dX8_missed_63 : decode cX8_missed 63 = .ok (.iconst 0, 1) := by decide +kernel
theorem dX8_missed_64 : decode cX8_missed 64 = .ok (.iadd, 1) := by decide +kernel
theorem dX8_missed_65 : decode cX8_missed 65 = .ok (.ireturn, 1) := by decide +kernel
set_option maxRecDepth 20000 in
theorem ggX8_laneOf_X8_missed : GoodIn wsX8_laneOf wsX8_missed := goodIn_r _ [6, 1, 7, 8, 5, 9, 10, 11, 12, 13, 14, 15, 16, 17, 18, 19, 20, 21, 22, 23, 24, 25, 26, 27, 28, 29] (by decide +kernel) (by decide +kernel)
set_option maxRecDepth 20000 in
theorem gX8_laneOf_X8_missed : GoodIn wsX8_laneOf (wsV RX8 53 RX8 yX8_missed wsX8_missed) := goodIn_app (goodIn_of _ (by decide +kernel)) ggX8_laneOf_X8_missed
set_option maxRecDepth 20000 in
theorem ggX8_laneOf_X8_ruleAt : GoodIn wsX8_laneOf wsX8_ruleAt := goodIn_r _ [9] (by decide +kernel) (by decide +kernel)
set_option maxRecDepth 20000 in
theorem gX8_laneOf_X8_ruleAt : GoodIn wsX8_laneOf (va_wsS RX8 50 yX8_ruleAt wsX8_ruleAt) := goodIn_app (goodIn_of _ (by decide +kernel)) ggX8_laneOf_X8_ruleAt
theorem dX8_laneOf_0 : decode cX8_laneOf 0 = .ok (.iconst 0, 1) := by decide +kernel
theorem dX8_laneOf_1 : decode cX8_laneOf 1 = .ok (.istore_n 2, 1) := by decide +kernel
theorem dX8_laneOf_2 : decode cX8_laneOf 2 = .ok (.iload_n 2, 1) := by decide +kernel
theorem dX8_laneOf_3 : decode cX8_laneOf 3 = .ok (.aload_n 0, 1) := by decide +kernel
theorem dX8_laneOf_4 : decode cX8_laneOf 4 = .ok (.getfield 7, 3) := by decide +kernel
theorem dX8_laneOf_7 : decode cX8_laneOf 7 = .ok (.iconst 4, 1) := by decide +kernel
theorem dX8_laneOf_8 : decode cX8_laneOf 8 = .ok (.iaload, 1) := by decide +kernel
theorem dX8_laneOf_9 : decode cX8_laneOf 9 = .ok (.if_icmp .ge 30, 3) := by decide +kernel
theorem dX8_laneOf_12 : decode cX8_laneOf 12 = .ok (.aload_n 0, 1) := by decide +kernel
theorem dX8_laneOf_13 : decode cX8_laneOf 13 = .ok (.iload_n 2, 1) := by decide +kernel
theorem dX8_laneOf_14 : decode cX8_laneOf 14 = .ok (.iload_n 1, 1) := by decide +kernel
theorem dX8_laneOf_15 : decode cX8_laneOf 15 = .ok (.invokevirtual 53, 3) := by decide +kernel
theorem dX8_laneOf_18 : decode cX8_laneOf 18 = .ok (.ifCond .ne 15, 3) := by decide +kernel
theorem dX8_laneOf_21 : decode cX8_laneOf 21 = .ok (.aload_n 0, 1) := by decide +kernel
theorem dX8_laneOf_22 : decode cX8_laneOf 22 = .ok (.getfield 7, 3) := by decide +kernel
theorem dX8_laneOf_25 : decode cX8_laneOf 25 = .ok (.iload_n 2, 1) := by decide +kernel
theorem dX8_laneOf_26 : decode cX8_laneOf 26 = .ok (.invokestatic 50, 3) := by decide +kernel
theorem dX8_laneOf_29 : decode cX8_laneOf 29 = .ok (.iconst 3, 1) := by decide +kernel
theorem dX8_laneOf_30 : decode cX8_laneOf 30 = .ok (.iadd, 1) := by decide +kernel
theorem dX8_laneOf_31 : decode cX8_laneOf 31 = .ok (.iaload, 1) := by decide +kernel
theorem dX8_laneOf_32 : decode cX8_laneOf 32 = .ok (.ireturn, 1) := by decide +kernel
theorem dX8_laneOf_33 : decode cX8_laneOf 33 = .ok (.iinc 2 1, 3) := by decide +kernel
theorem dX8_laneOf_36 : decode cX8_laneOf 36 = .ok (.goto (-34), 3) := by decide +kernel
theorem dX8_laneOf_39 : decode cX8_laneOf 39 = .ok (.iconst 4, 1) := by decide +kernel
theorem dX8_laneOf_40 : decode cX8_laneOf 40 = .ok (.ireturn, 1) := by decide +kernel
set_option maxRecDepth 20000 in
theorem ggX8_laneFromLast_X8_missed : GoodIn wsX8_laneFromLast wsX8_missed := goodIn_r _ [6, 1, 7, 8, 5, 9, 10, 11, 12, 13, 14, 15, 16, 17, 18, 19, 20, 21, 22, 23, 24, 25, 26, 27, 28, 29] (by decide +kernel) (by decide +kernel)
set_option maxRecDepth 20000 in
theorem gX8_laneFromLast_X8_missed : GoodIn wsX8_laneFromLast (wsV RX8 53 RX8 yX8_missed wsX8_missed) := goodIn_app (goodIn_of _ (by decide +kernel)) ggX8_laneFromLast_X8_missed
set_option maxRecDepth 20000 in
theorem ggX8_laneFromLast_X8_ruleAt : GoodIn wsX8_laneFromLast wsX8_ruleAt := goodIn_r _ [9] (by decide +kernel) (by decide +kernel)
set_option maxRecDepth 20000 in
theorem gX8_laneFromLast_X8_ruleAt : GoodIn wsX8_laneFromLast (va_wsS RX8 50 yX8_ruleAt wsX8_ruleAt) := goodIn_app (goodIn_of _ (by decide +kernel)) ggX8_laneFromLast_X8_ruleAt
theorem dX8_laneFromLast_0 : decode cX8_laneFromLast 0 = .ok (.iconst 4, 1) := by decide +kernel
theorem dX8_laneFromLast_1 : decode cX8_laneFromLast 1 = .ok (.istore_n 2, 1) := by decide +kernel
theorem dX8_laneFromLast_2 : decode cX8_laneFromLast 2 = .ok (.aload_n 0, 1) := by decide +kernel
theorem dX8_laneFromLast_3 : decode cX8_laneFromLast 3 = .ok (.getfield 7, 3) := by decide +kernel
theorem dX8_laneFromLast_6 : decode cX8_laneFromLast 6 = .ok (.iconst 4, 1) := by decide +kernel
theorem dX8_laneFromLast_7 : decode cX8_laneFromLast 7 = .ok (.iaload, 1) := by decide +kernel
theorem dX8_laneFromLast_8 : decode cX8_laneFromLast 8 = .ok (.iconst 1, 1) := by decide +kernel
theorem dX8_laneFromLast_9 : decode cX8_laneFromLast 9 = .ok (.isub, 1) := by decide +kernel
theorem dX8_laneFromLast_10 : decode cX8_laneFromLast 10 = .ok (.istore_n 3, 1) := by decide +kernel
theorem dX8_laneFromLast_11 : decode cX8_laneFromLast 11 = .ok (.iload_n 3, 1) := by decide +kernel
theorem dX8_laneFromLast_12 : decode cX8_laneFromLast 12 = .ok (.ifCond .lt 34, 3) := by decide +kernel
theorem dX8_laneFromLast_15 : decode cX8_laneFromLast 15 = .ok (.aload_n 0, 1) := by decide +kernel
theorem dX8_laneFromLast_16 : decode cX8_laneFromLast 16 = .ok (.iload_n 3, 1) := by decide +kernel
theorem dX8_laneFromLast_17 : decode cX8_laneFromLast 17 = .ok (.iload_n 1, 1) := by decide +kernel
theorem dX8_laneFromLast_18 : decode cX8_laneFromLast 18 = .ok (.invokevirtual 53, 3) := by decide +kernel
theorem dX8_laneFromLast_21 : decode cX8_laneFromLast 21 = .ok (.ifCond .ne 17, 3) := by decide +kernel
theorem dX8_laneFromLast_24 : decode cX8_laneFromLast 24 = .ok (.aload_n 0, 1) := by decide +kernel
theorem dX8_laneFromLast_25 : decode cX8_laneFromLast 25 = .ok (.getfield 7, 3) := by decide +kernel
theorem dX8_laneFromLast_28 : decode cX8_laneFromLast 28 = .ok (.iload_n 3, 1) := by decide +kernel
theorem dX8_laneFromLast_29 : decode cX8_laneFromLast 29 = .ok (.invokestatic 50, 3) := by decide +kernel
theorem dX8_laneFromLast_32 : decode cX8_laneFromLast 32 = .ok (.iconst 3, 1) := by decide +kernel
theorem dX8_laneFromLast_33 : decode cX8_laneFromLast 33 = .ok (.iadd, 1) := by decide +kernel
theorem dX8_laneFromLast_34 : decode cX8_laneFromLast 34 = .ok (.iaload, 1) := by decide +kernel
theorem dX8_laneFromLast_35 : decode cX8_laneFromLast 35 = .ok (.goto 4, 3) := by decide +kernel
theorem dX8_laneFromLast_38 : decode cX8_laneFromLast 38 = .ok (.iload_n 2, 1) := by decide +kernel
theorem dX8_laneFromLast_39 : decode cX8_laneFromLast 39 = .ok (.istore_n 2, 1) := by decide +kernel
theorem dX8_laneFromLast_40 : decode cX8_laneFromLast 40 = .ok (.iinc 3 (-1), 3) := by decide +kernel
theorem dX8_laneFromLast_43 : decode cX8_laneFromLast 43 = .ok (.goto (-32), 3) := by decide +kernel
theorem dX8_laneFromLast_46 : decode cX8_laneFromLast 46 = .ok (.iload_n 2, 1) := by decide +kernel
theorem dX8_laneFromLast_47 : decode cX8_laneFromLast 47 = .ok (.ireturn, 1) := by decide +kernel
theorem dX8_cupAt_0 : decode cX8_cupAt 0 = .ok (.bipush 37, 2) := by decide +kernel
theorem dX8_cupAt_2 : decode cX8_cupAt 2 = .ok (.iconst 4, 1) := by decide +kernel
theorem dX8_cupAt_3 : decode cX8_cupAt 3 = .ok (.iload_n 0, 1) := by decide +kernel
theorem dX8_cupAt_4 : decode cX8_cupAt 4 = .ok (.imul, 1) := by decide +kernel
theorem dX8_cupAt_5 : decode cX8_cupAt 5 = .ok (.iadd, 1) := by decide +kernel
theorem dX8_cupAt_6 : decode cX8_cupAt 6 = .ok (.ireturn, 1) := by decide +kernel
theorem dX8_boxAt_0 : decode cX8_boxAt 0 = .ok (.iload_n 0, 1) := by decide +kernel
theorem dX8_boxAt_1 : decode cX8_boxAt 1 = .ok (.iconst 4, 1) := by decide +kernel
theorem dX8_boxAt_2 : decode cX8_boxAt 2 = .ok (.if_icmp .ne 9, 3) := by decide +kernel
theorem dX8_boxAt_5 : decode cX8_boxAt 5 = .ok (.sipush 176, 3) := by decide +kernel
theorem dX8_boxAt_8 : decode cX8_boxAt 8 = .ok (.goto 10, 3) := by decide +kernel
theorem dX8_boxAt_11 : decode cX8_boxAt 11 = .ok (.bipush 90, 2) := by decide +kernel
theorem dX8_boxAt_13 : decode cX8_boxAt 13 = .ok (.bipush 20, 2) := by decide +kernel
theorem dX8_boxAt_15 : decode cX8_boxAt 15 = .ok (.iload_n 0, 1) := by decide +kernel
theorem dX8_boxAt_16 : decode cX8_boxAt 16 = .ok (.imul, 1) := by decide +kernel
theorem dX8_boxAt_17 : decode cX8_boxAt 17 = .ok (.iadd, 1) := by decide +kernel
theorem dX8_boxAt_18 : decode cX8_boxAt 18 = .ok (.ireturn, 1) := by decide +kernel
set_option maxRecDepth 20000 in
theorem ggX8_falls_X8_boxAt : GoodIn wsX8_falls wsX8_boxAt := goodIn_r _ [5] (by decide +kernel) (by decide +kernel)
set_option maxRecDepth 20000 in
theorem gX8_falls_X8_boxAt : GoodIn wsX8_falls (va_wsS RX8 57 yX8_boxAt wsX8_boxAt) := goodIn_app (goodIn_of _ (by decide +kernel)) ggX8_falls_X8_boxAt
theorem dX8_falls_0 : decode cX8_falls 0 = .ok (.aload_n 0, 1) := by decide +kernel
theorem dX8_falls_1 : decode cX8_falls 1 = .ok (.getfield 7, 3) := by decide +kernel
theorem dX8_falls_4 : decode cX8_falls 4 = .ok (.iload_n 1, 1) := by decide +kernel
theorem dX8_falls_5 : decode cX8_falls 5 = .ok (.invokestatic 57, 3) := by decide +kernel
theorem dX8_falls_8 : decode cX8_falls 8 = .ok (.aload_n 0, 1) := by decide +kernel
theorem dX8_falls_9 : decode cX8_falls 9 = .ok (.getfield 7, 3) := by decide +kernel
theorem dX8_falls_12 : decode cX8_falls 12 = .ok (.bipush 85, 2) := by decide +kernel
theorem dX8_falls_14 : decode cX8_falls 14 = .ok (.iload_n 1, 1) := by decide +kernel
theorem dX8_falls_15 : decode cX8_falls 15 = .ok (.iadd, 1) := by decide +kernel
theorem dX8_falls_16 : decode cX8_falls 16 = .ok (.iaload, 1) := by decide +kernel
theorem dX8_falls_17 : decode cX8_falls 17 = .ok (.iadd, 1) := by decide +kernel
theorem dX8_falls_18 : decode cX8_falls 18 = .ok (.iload_n 2, 1) := by decide +kernel
theorem dX8_falls_19 : decode cX8_falls 19 = .ok (.iastore, 1) := by decide +kernel
theorem dX8_falls_20 : decode cX8_falls 20 = .ok (.aload_n 0, 1) := by decide +kernel
theorem dX8_falls_21 : decode cX8_falls 21 = .ok (.getfield 7, 3) := by decide +kernel
theorem dX8_falls_24 : decode cX8_falls 24 = .ok (.bipush 85, 2) := by decide +kernel
theorem dX8_falls_26 : decode cX8_falls 26 = .ok (.iload_n 1, 1) := by decide +kernel
theorem dX8_falls_27 : decode cX8_falls 27 = .ok (.iadd, 1) := by decide +kernel
theorem dX8_falls_28 : decode cX8_falls 28 = .ok (.dup2, 1) := by decide +kernel
theorem dX8_falls_29 : decode cX8_falls 29 = .ok (.iaload, 1) := by decide +kernel
theorem dX8_falls_30 : decode cX8_falls 30 = .ok (.iconst 1, 1) := by decide +kernel
theorem dX8_falls_31 : decode cX8_falls 31 = .ok (.iadd, 1) := by decide +kernel
theorem dX8_falls_32 : decode cX8_falls 32 = .ok (.iastore, 1) := by decide +kernel
theorem dX8_falls_33 : decode cX8_falls 33 = .ok (.return_, 1) := by decide +kernel
set_option maxRecDepth 20000 in
theorem ggX8_gradeOf_X8_cupAt : GoodIn wsX8_gradeOf wsX8_cupAt := goodIn_r _ [5] (by decide +kernel) (by decide +kernel)
set_option maxRecDepth 20000 in
theorem gX8_gradeOf_X8_cupAt : GoodIn wsX8_gradeOf (va_wsS RX8 60 yX8_cupAt wsX8_cupAt) := goodIn_app (goodIn_of _ (by decide +kernel)) ggX8_gradeOf_X8_cupAt
set_option maxRecDepth 20000 in
theorem ggX8_gradeOf_X8_seen : GoodIn wsX8_gradeOf wsX8_seen := goodIn_r _ [9, 1, 10, 11, 4, 12, 13, 14, 15, 16, 17, 18, 19, 20, 21, 33, 34, 35, 36, 37, 38, 39, 40, 41, 42, 43] (by decide +kernel) (by decide +kernel)
set_option maxRecDepth 20000 in
theorem gX8_gradeOf_X8_seen : GoodIn wsX8_gradeOf (wsV RX8 63 RX8 yX8_seen wsX8_seen) := goodIn_app (goodIn_of _ (by decide +kernel)) ggX8_gradeOf_X8_seen
set_option maxRecDepth 20000 in
theorem ggX8_gradeOf_X8_laneOf : GoodIn wsX8_gradeOf wsX8_laneOf := goodIn_r _ [25, 1, 26, 27, 28, 4, 29, 30, 31, 32, 16, 17, 18, 10, 11, 12, 13, 14, 15, 33, 34, 35, 36, 37, 38, 39, 40, 41, 42, 43] (by decide +kernel) (by decide +kernel)
set_option maxRecDepth 20000 in
theorem gX8_gradeOf_X8_laneOf : GoodIn wsX8_gradeOf (wsV RX8 66 RX8 yX8_laneOf wsX8_laneOf) := goodIn_app (goodIn_of _ (by decide +kernel)) ggX8_gradeOf_X8_laneOf
theorem dX8_gradeOf_0 : decode cX8_gradeOf 0 = .ok (.iload_n 1, 1) := by decide +kernel
theorem dX8_gradeOf_1 : decode cX8_gradeOf 1 = .ok (.invokestatic 60, 3) := by decide +kernel
theorem dX8_gradeOf_4 : decode cX8_gradeOf 4 = .ok (.istore_n 2, 1) := by decide +kernel
theorem dX8_gradeOf_5 : decode cX8_gradeOf 5 = .ok (.aload_n 0, 1) := by decide +kernel
theorem dX8_gradeOf_6 : decode cX8_gradeOf 6 = .ok (.getfield 7, 3) := by decide +kernel
theorem dX8_gradeOf_9 : decode cX8_gradeOf 9 = .ok (.iload_n 2, 1) := by decide +kernel
theorem dX8_gradeOf_10 : decode cX8_gradeOf 10 = .ok (.iaload, 1) := by decide +kernel
theorem dX8_gradeOf_11 : decode cX8_gradeOf 11 = .ok (.iconst 2, 1) := by decide +kernel
theorem dX8_gradeOf_12 : decode cX8_gradeOf 12 = .ok (.if_icmp .ne 7, 3) := by decide +kernel
theorem dX8_gradeOf_15 : decode cX8_gradeOf 15 = .ok (.iconst 4, 1) := by decide +kernel
theorem dX8_gradeOf_16 : decode cX8_gradeOf 16 = .ok (.goto 19, 3) := by decide +kernel
theorem dX8_gradeOf_19 : decode cX8_gradeOf 19 = .ok (.aload_n 0, 1) := by decide +kernel
theorem dX8_gradeOf_20 : decode cX8_gradeOf 20 = .ok (.aload_n 0, 1) := by decide +kernel
theorem dX8_gradeOf_21 : decode cX8_gradeOf 21 = .ok (.aload_n 0, 1) := by decide +kernel
theorem dX8_gradeOf_22 : decode cX8_gradeOf 22 = .ok (.getfield 7, 3) := by decide +kernel
theorem dX8_gradeOf_25 : decode cX8_gradeOf 25 = .ok (.iload_n 2, 1) := by decide +kernel
theorem dX8_gradeOf_26 : decode cX8_gradeOf 26 = .ok (.iconst 1, 1) := by decide +kernel
theorem dX8_gradeOf_27 : decode cX8_gradeOf 27 = .ok (.iadd, 1) := by decide +kernel
theorem dX8_gradeOf_28 : decode cX8_gradeOf 28 = .ok (.iaload, 1) := by decide +kernel
theorem dX8_gradeOf_29 : decode cX8_gradeOf 29 = .ok (.invokevirtual 63, 3) := by decide +kernel
theorem dX8_gradeOf_32 : decode cX8_gradeOf 32 = .ok (.invokevirtual 66, 3) := by decide +kernel
theorem dX8_gradeOf_35 : decode cX8_gradeOf 35 = .ok (.ireturn, 1) := by decide +kernel
set_option maxRecDepth 20000 in
theorem ggX8_grades_X8_gradeOf : GoodIn wsX8_grades wsX8_gradeOf := goodIn_r _ [6, 1, 7, 8, 5, 9, 10, 11, 12, 13, 14, 15, 16, 17, 18, 19, 20, 21, 22, 23, 24, 25, 26, 27, 28, 29, 30, 31, 32, 33, 34, 35, 36, 37, 38, 39, 40, 41, 42, 43, 44, 45, 46, 47] (by decide +kernel) (by decide +kernel)
set_option maxRecDepth 20000 in
theorem gX8_grades_X8_gradeOf : GoodIn wsX8_grades (wsV RX8 69 RX8 yX8_gradeOf wsX8_gradeOf) := goodIn_app (goodIn_of _ (by decide +kernel)) ggX8_grades_X8_gradeOf
theorem dX8_grades_0 : decode cX8_grades 0 = .ok (.aload_n 0, 1) := by decide +kernel
theorem dX8_grades_1 : decode cX8_grades 1 = .ok (.getfield 7, 3) := by decide +kernel
theorem dX8_grades_4 : decode cX8_grades 4 = .ok (.bipush 37, 2) := by decide +kernel
theorem dX8_grades_6 : decode cX8_grades 6 = .ok (.iaload, 1) := by decide +kernel
theorem dX8_grades_7 : decode cX8_grades 7 = .ok (.ifCond .le 44, 3) := by decide +kernel
theorem dX8_grades_10 : decode cX8_grades 10 = .ok (.aload_n 0, 1) := by decide +kernel
theorem dX8_grades_11 : decode cX8_grades 11 = .ok (.getfield 7, 3) := by decide +kernel
theorem dX8_grades_14 : decode cX8_grades 14 = .ok (.sipush 173, 3) := by decide +kernel
theorem dX8_grades_17 : decode cX8_grades 17 = .ok (.dup2, 1) := by decide +kernel
theorem dX8_grades_18 : decode cX8_grades 18 = .ok (.iaload, 1) := by decide +kernel
theorem dX8_grades_19 : decode cX8_grades 19 = .ok (.aload_n 0, 1) := by decide +kernel
theorem dX8_grades_20 : decode cX8_grades 20 = .ok (.getfield 7, 3) := by decide +kernel
theorem dX8_grades_23 : decode cX8_grades 23 = .ok (.bipush 37, 2) := by decide +kernel
theorem dX8_grades_25 : decode cX8_grades 25 = .ok (.iaload, 1) := by decide +kernel
theorem dX8_grades_26 : decode cX8_grades 26 = .ok (.iconst 2, 1) := by decide +kernel
theorem dX8_grades_27 : decode cX8_grades 27 = .ok (.if_icmp .ne 7, 3) := by decide +kernel
theorem dX8_grades_30 : decode cX8_grades 30 = .ok (.iconst 1, 1) := by decide +kernel
theorem dX8_grades_31 : decode cX8_grades 31 = .ok (.goto 4, 3) := by decide +kernel
theorem dX8_grades_34 : decode cX8_grades 34 = .ok (.iconst 0, 1) := by decide +kernel
theorem dX8_grades_35 : decode cX8_grades 35 = .ok (.iadd, 1) := by decide +kernel
theorem dX8_grades_36 : decode cX8_grades 36 = .ok (.iastore, 1) := by decide +kernel
theorem dX8_grades_37 : decode cX8_grades 37 = .ok (.aload_n 0, 1) := by decide +kernel
theorem dX8_grades_38 : decode cX8_grades 38 = .ok (.getfield 7, 3) := by decide +kernel
theorem dX8_grades_41 : decode cX8_grades 41 = .ok (.bipush 40, 2) := by decide +kernel
theorem dX8_grades_43 : decode cX8_grades 43 = .ok (.aload_n 0, 1) := by decide +kernel
theorem dX8_grades_44 : decode cX8_grades 44 = .ok (.iconst 0, 1) := by decide +kernel
theorem dX8_grades_45 : decode cX8_grades 45 = .ok (.invokevirtual 69, 3) := by decide +kernel
theorem dX8_grades_48 : decode cX8_grades 48 = .ok (.iconst 1, 1) := by decide +kernel
theorem dX8_grades_49 : decode cX8_grades 49 = .ok (.iadd, 1) := by decide +kernel
theorem dX8_grades_50 : decode cX8_grades 50 = .ok (.iastore, 1) := by decide +kernel
theorem dX8_grades_51 : decode cX8_grades 51 = .ok (.return_, 1) := by decide +kernel
set_option maxRecDepth 20000 in
theorem ggX8_moves_X8_cupAt : GoodIn wsX8_moves wsX8_cupAt := goodIn_r _ [5] (by decide +kernel) (by decide +kernel)
set_option maxRecDepth 20000 in
theorem gX8_moves_X8_cupAt : GoodIn wsX8_moves (va_wsS RX8 60 yX8_cupAt wsX8_cupAt) := goodIn_app (goodIn_of _ (by decide +kernel)) ggX8_moves_X8_cupAt
set_option maxRecDepth 20000 in
theorem ggX8_moves_X8_falls : GoodIn wsX8_moves wsX8_falls := goodIn_r _ [9, 1, 10, 11, 4, 12, 13, 14, 15, 16, 17, 18, 19, 20, 21, 22, 23] (by decide +kernel) (by decide +kernel)
set_option maxRecDepth 20000 in
theorem gX8_moves_X8_falls : GoodIn wsX8_moves (wsV RX8 72 RX8 yX8_falls wsX8_falls) := goodIn_app (goodIn_of _ (by decide +kernel)) ggX8_moves_X8_falls
theorem dX8_moves_0 : decode cX8_moves 0 = .ok (.bipush 11, 2) := by decide +kernel
theorem dX8_moves_2 : decode cX8_moves 2 = .ok (.invokestatic 60, 3) := by decide +kernel
theorem dX8_moves_5 : decode cX8_moves 5 = .ok (.istore_n 1, 1) := by decide +kernel
theorem dX8_moves_6 : decode cX8_moves 6 = .ok (.aload_n 0, 1) := by decide +kernel
theorem dX8_moves_7 : decode cX8_moves 7 = .ok (.getfield 7, 3) := by decide +kernel
theorem dX8_moves_10 : decode cX8_moves 10 = .ok (.iload_n 1, 1) := by decide +kernel
theorem dX8_moves_11 : decode cX8_moves 11 = .ok (.iaload, 1) := by decide +kernel
theorem dX8_moves_12 : decode cX8_moves 12 = .ok (.istore_n 2, 1) := by decide +kernel
theorem dX8_moves_13 : decode cX8_moves 13 = .ok (.iconst 0, 1) := by decide +kernel
theorem dX8_moves_14 : decode cX8_moves 14 = .ok (.istore_n 3, 1) := by decide +kernel
theorem dX8_moves_15 : decode cX8_moves 15 = .ok (.iload_n 3, 1) := by decide +kernel
theorem dX8_moves_16 : decode cX8_moves 16 = .ok (.iload_n 2, 1) := by decide +kernel
theorem dX8_moves_17 : decode cX8_moves 17 = .ok (.if_icmp .ge 24, 3) := by decide +kernel
theorem dX8_moves_20 : decode cX8_moves 20 = .ok (.aload_n 0, 1) := by decide +kernel
theorem dX8_moves_21 : decode cX8_moves 21 = .ok (.iconst 4, 1) := by decide +kernel
theorem dX8_moves_22 : decode cX8_moves 22 = .ok (.aload_n 0, 1) := by decide +kernel
theorem dX8_moves_23 : decode cX8_moves 23 = .ok (.getfield 7, 3) := by decide +kernel
theorem dX8_moves_26 : decode cX8_moves 26 = .ok (.iload_n 1, 1) := by decide +kernel
theorem dX8_moves_27 : decode cX8_moves 27 = .ok (.iconst 1, 1) := by decide +kernel
theorem dX8_moves_28 : decode cX8_moves 28 = .ok (.iadd, 1) := by decide +kernel
theorem dX8_moves_29 : decode cX8_moves 29 = .ok (.iload_n 3, 1) := by decide +kernel
theorem dX8_moves_30 : decode cX8_moves 30 = .ok (.iadd, 1) := by decide +kernel
theorem dX8_moves_31 : decode cX8_moves 31 = .ok (.iaload, 1) := by decide +kernel
theorem dX8_moves_32 : decode cX8_moves 32 = .ok (.invokevirtual 72, 3) := by decide +kernel
theorem dX8_moves_35 : decode cX8_moves 35 = .ok (.iinc 3 1, 3) := by decide +kernel
theorem dX8_moves_38 : decode cX8_moves 38 = .ok (.goto (-23), 3) := by decide +kernel
theorem dX8_moves_41 : decode cX8_moves 41 = .ok (.iload_n 1, 1) := by decide +kernel
theorem dX8_moves_42 : decode cX8_moves 42 = .ok (.iconst 3, 1) := by decide +kernel
theorem dX8_moves_43 : decode cX8_moves 43 = .ok (.iadd, 1) := by decide +kernel
theorem dX8_moves_44 : decode cX8_moves 44 = .ok (.istore_n 3, 1) := by decide +kernel
theorem dX8_moves_45 : decode cX8_moves 45 = .ok (.iload_n 3, 1) := by decide +kernel
theorem dX8_moves_46 : decode cX8_moves 46 = .ok (.bipush 41, 2) := by decide +kernel
theorem dX8_moves_48 : decode cX8_moves 48 = .ok (.if_icmp .lt 23, 3) := by decide +kernel
theorem dX8_moves_51 : decode cX8_moves 51 = .ok (.aload_n 0, 1) := by decide +kernel
theorem dX8_moves_52 : decode cX8_moves 52 = .ok (.getfield 7, 3) := by decide +kernel
theorem dX8_moves_55 : decode cX8_moves 55 = .ok (.iload_n 3, 1) := by decide +kernel
theorem dX8_moves_56 : decode cX8_moves 56 = .ok (.aload_n 0, 1) := by decide +kernel
theorem dX8_moves_57 : decode cX8_moves 57 = .ok (.getfield 7, 3) := by decide +kernel
theorem dX8_moves_60 : decode cX8_moves 60 = .ok (.iload_n 3, 1) := by decide +kernel
theorem dX8_moves_61 : decode cX8_moves 61 = .ok (.iconst 4, 1) := by decide +kernel
theorem dX8_moves_62 : decode cX8_moves 62 = .ok (.isub, 1) := by decide +kernel
theorem dX8_moves_63 : decode cX8_moves 63 = .ok (.iaload, 1) := by decide +kernel
theorem dX8_moves_64 : decode cX8_moves 64 = .ok (.iastore, 1) := by decide +kernel
theorem dX8_moves_65 : decode cX8_moves 65 = .ok (.iinc 3 (-1), 3) := by decide +kernel
theorem dX8_moves_68 : decode cX8_moves 68 = .ok (.goto (-23), 3) := by decide +kernel
theorem dX8_moves_71 : decode cX8_moves 71 = .ok (.iconst 0, 1) := by decide +kernel
theorem dX8_moves_72 : decode cX8_moves 72 = .ok (.istore_n 3, 1) := by decide +kernel
theorem dX8_moves_73 : decode cX8_moves 73 = .ok (.iload_n 3, 1) := by decide +kernel
theorem dX8_moves_74 : decode cX8_moves 74 = .ok (.iconst 4, 1) := by decide +kernel
theorem dX8_moves_75 : decode cX8_moves 75 = .ok (.if_icmp .ge 19, 3) := by decide +kernel
theorem dX8_moves_78 : decode cX8_moves 78 = .ok (.aload_n 0, 1) := by decide +kernel
theorem dX8_moves_79 : decode cX8_moves 79 = .ok (.getfield 7, 3) := by decide +kernel
theorem dX8_moves_82 : decode cX8_moves 82 = .ok (.bipush 37, 2) := by decide +kernel
theorem dX8_moves_84 : decode cX8_moves 84 = .ok (.iload_n 3, 1) := by decide +kernel
theorem dX8_moves_85 : decode cX8_moves 85 = .ok (.iadd, 1) := by decide +kernel
theorem dX8_moves_86 : decode cX8_moves 86 = .ok (.iconst 0, 1) := by decide +kernel
theorem dX8_moves_87 : decode cX8_moves 87 = .ok (.iastore, 1) := by decide +kernel
theorem dX8_moves_88 : decode cX8_moves 88 = .ok (.iinc 3 1, 3) := by decide +kernel
theorem dX8_moves_91 : decode cX8_moves 91 = .ok (.goto (-18), 3) := by decide +kernel
theorem dX8_moves_94 : decode cX8_moves 94 = .ok (.iload_n 2, 1) := by decide +kernel
theorem dX8_moves_95 : decode cX8_moves 95 = .ok (.ireturn, 1) := by decide +kernel
set_option maxRecDepth 20000 in
theorem ggX8_drops_X8_cupAt : GoodIn wsX8_drops wsX8_cupAt := goodIn_r _ [5] (by decide +kernel) (by decide +kernel)
set_option maxRecDepth 20000 in
theorem gX8_drops_X8_cupAt : GoodIn wsX8_drops (va_wsS RX8 60 yX8_cupAt wsX8_cupAt) := goodIn_app (goodIn_of _ (by decide +kernel)) ggX8_drops_X8_cupAt
set_option maxRecDepth 20000 in
theorem ggX8_drops_X8_bruiseOf : GoodIn wsX8_drops wsX8_bruiseOf := goodIn_r _ [8] (by decide +kernel) (by decide +kernel)
set_option maxRecDepth 20000 in
theorem gX8_drops_X8_bruiseOf : GoodIn wsX8_drops (va_wsS RX8 40 yX8_bruiseOf wsX8_bruiseOf) := goodIn_app (goodIn_of _ (by decide +kernel)) ggX8_drops_X8_bruiseOf
set_option maxRecDepth 20000 in
theorem ggX8_drops_X8_falls : GoodIn wsX8_drops wsX8_falls := goodIn_r _ [12, 1, 13, 14, 4, 15, 16, 17, 18, 19, 20, 21, 22, 23, 24, 25, 26] (by decide +kernel) (by decide +kernel)
set_option maxRecDepth 20000 in
theorem gX8_drops_X8_falls : GoodIn wsX8_drops (wsV RX8 72 RX8 yX8_falls wsX8_falls) := goodIn_app (goodIn_of _ (by decide +kernel)) ggX8_drops_X8_falls
theorem dX8_drops_0 : decode cX8_drops 0 = .ok (.iconst 2, 1) := by decide +kernel
theorem dX8_drops_1 : decode cX8_drops 1 = .ok (.iconst 2, 1) := by decide +kernel
theorem dX8_drops_2 : decode cX8_drops 2 = .ok (.iload_n 1, 1) := by decide +kernel
theorem dX8_drops_3 : decode cX8_drops 3 = .ok (.imul, 1) := by decide +kernel
theorem dX8_drops_4 : decode cX8_drops 4 = .ok (.iadd, 1) := by decide +kernel
theorem dX8_drops_5 : decode cX8_drops 5 = .ok (.invokestatic 60, 3) := by decide +kernel
theorem dX8_drops_8 : decode cX8_drops 8 = .ok (.istore_n 2, 1) := by decide +kernel
theorem dX8_drops_9 : decode cX8_drops 9 = .ok (.aload_n 0, 1) := by decide +kernel
theorem dX8_drops_10 : decode cX8_drops 10 = .ok (.getfield 7, 3) := by decide +kernel
theorem dX8_drops_13 : decode cX8_drops 13 = .ok (.iload_n 2, 1) := by decide +kernel
theorem dX8_drops_14 : decode cX8_drops 14 = .ok (.iconst 3, 1) := by decide +kernel
theorem dX8_drops_15 : decode cX8_drops 15 = .ok (.iadd, 1) := by decide +kernel
theorem dX8_drops_16 : decode cX8_drops 16 = .ok (.iaload, 1) := by decide +kernel
theorem dX8_drops_17 : decode cX8_drops 17 = .ok (.iload_n 1, 1) := by decide +kernel
theorem dX8_drops_18 : decode cX8_drops 18 = .ok (.iconst 1, 1) := by decide +kernel
theorem dX8_drops_19 : decode cX8_drops 19 = .ok (.iadd, 1) := by decide +kernel
theorem dX8_drops_20 : decode cX8_drops 20 = .ok (.if_icmp .eq 5, 3) := by decide +kernel
theorem dX8_drops_23 : decode cX8_drops 23 = .ok (.iconst 0, 1) := by decide +kernel
theorem dX8_drops_24 : decode cX8_drops 24 = .ok (.ireturn, 1) := by decide +kernel
theorem dX8_drops_25 : decode cX8_drops 25 = .ok (.aload_n 0, 1) := by decide +kernel
theorem dX8_drops_26 : decode cX8_drops 26 = .ok (.getfield 7, 3) := by decide +kernel
theorem dX8_drops_29 : decode cX8_drops 29 = .ok (.bipush 85, 2) := by decide +kernel
theorem dX8_drops_31 : decode cX8_drops 31 = .ok (.iload_n 1, 1) := by decide +kernel
theorem dX8_drops_32 : decode cX8_drops 32 = .ok (.iadd, 1) := by decide +kernel
theorem dX8_drops_33 : decode cX8_drops 33 = .ok (.iaload, 1) := by decide +kernel
theorem dX8_drops_34 : decode cX8_drops 34 = .ok (.aload_n 0, 1) := by decide +kernel
theorem dX8_drops_35 : decode cX8_drops 35 = .ok (.getfield 7, 3) := by decide +kernel
theorem dX8_drops_38 : decode cX8_drops 38 = .ok (.iconst 2, 1) := by decide +kernel
theorem dX8_drops_39 : decode cX8_drops 39 = .ok (.iaload, 1) := by decide +kernel
theorem dX8_drops_40 : decode cX8_drops 40 = .ok (.if_icmp .lt 26, 3) := by decide +kernel
theorem dX8_drops_43 : decode cX8_drops 43 = .ok (.aload_n 0, 1) := by decide +kernel
theorem dX8_drops_44 : decode cX8_drops 44 = .ok (.getfield 7, 3) := by decide +kernel
theorem dX8_drops_47 : decode cX8_drops 47 = .ok (.iload_n 2, 1) := by decide +kernel
theorem dX8_drops_48 : decode cX8_drops 48 = .ok (.iconst 3, 1) := by decide +kernel
theorem dX8_drops_49 : decode cX8_drops 49 = .ok (.iadd, 1) := by decide +kernel
theorem dX8_drops_50 : decode cX8_drops 50 = .ok (.iconst 5, 1) := by decide +kernel
theorem dX8_drops_51 : decode cX8_drops 51 = .ok (.iastore, 1) := by decide +kernel
theorem dX8_drops_52 : decode cX8_drops 52 = .ok (.aload_n 0, 1) := by decide +kernel
theorem dX8_drops_53 : decode cX8_drops 53 = .ok (.getfield 7, 3) := by decide +kernel
theorem dX8_drops_56 : decode cX8_drops 56 = .ok (.sipush 172, 3) := by decide +kernel
theorem dX8_drops_59 : decode cX8_drops 59 = .ok (.dup2, 1) := by decide +kernel
theorem dX8_drops_60 : decode cX8_drops 60 = .ok (.iaload, 1) := by decide +kernel
theorem dX8_drops_61 : decode cX8_drops 61 = .ok (.iconst 1, 1) := by decide +kernel
theorem dX8_drops_62 : decode cX8_drops 62 = .ok (.iadd, 1) := by decide +kernel
theorem dX8_drops_63 : decode cX8_drops 63 = .ok (.iastore, 1) := by decide +kernel
theorem dX8_drops_64 : decode cX8_drops 64 = .ok (.iconst 0, 1) := by decide +kernel
theorem dX8_drops_65 : decode cX8_drops 65 = .ok (.ireturn, 1) := by decide +kernel
theorem dX8_drops_66 : decode cX8_drops 66 = .ok (.aload_n 0, 1) := by decide +kernel
theorem dX8_drops_67 : decode cX8_drops 67 = .ok (.getfield 7, 3) := by decide +kernel
theorem dX8_drops_70 : decode cX8_drops 70 = .ok (.iload_n 2, 1) := by decide +kernel
theorem dX8_drops_71 : decode cX8_drops 71 = .ok (.iconst 1, 1) := by decide +kernel
theorem dX8_drops_72 : decode cX8_drops 72 = .ok (.iadd, 1) := by decide +kernel
theorem dX8_drops_73 : decode cX8_drops 73 = .ok (.iaload, 1) := by decide +kernel
theorem dX8_drops_74 : decode cX8_drops 74 = .ok (.istore_n 3, 1) := by decide +kernel
theorem dX8_drops_75 : decode cX8_drops 75 = .ok (.aload_n 0, 1) := by decide +kernel
theorem dX8_drops_76 : decode cX8_drops 76 = .ok (.getfield 7, 3) := by decide +kernel
theorem dX8_drops_79 : decode cX8_drops 79 = .ok (.iconst 3, 1) := by decide +kernel
theorem dX8_drops_80 : decode cX8_drops 80 = .ok (.iaload, 1) := by decide +kernel
theorem dX8_drops_81 : decode cX8_drops 81 = .ok (.iload_n 1, 1) := by decide +kernel
theorem dX8_drops_82 : decode cX8_drops 82 = .ok (.ishr, 1) := by decide +kernel
theorem dX8_drops_83 : decode cX8_drops 83 = .ok (.iconst 1, 1) := by decide +kernel
theorem dX8_drops_84 : decode cX8_drops 84 = .ok (.iand, 1) := by decide +kernel
theorem dX8_drops_85 : decode cX8_drops 85 = .ok (.ifCond .ne 16, 3) := by decide +kernel
theorem dX8_drops_88 : decode cX8_drops 88 = .ok (.iload_n 3, 1) := by decide +kernel
theorem dX8_drops_89 : decode cX8_drops 89 = .ok (.invokestatic 40, 3) := by decide +kernel
theorem dX8_drops_92 : decode cX8_drops 92 = .ok (.bipush 9, 2) := by decide +kernel
theorem dX8_drops_94 : decode cX8_drops 94 = .ok (.if_icmp .ge 7, 3) := by decide +kernel
theorem dX8_drops_97 : decode cX8_drops 97 = .ok (.iconst 1, 1) := by decide +kernel
theorem dX8_drops_98 : decode cX8_drops 98 = .ok (.goto 4, 3) := by decide +kernel
theorem dX8_drops_101 : decode cX8_drops 101 = .ok (.iconst 0, 1) := by decide +kernel
theorem dX8_drops_102 : decode cX8_drops 102 = .ok (.istore 4, 2) := by decide +kernel
theorem dX8_drops_104 : decode cX8_drops 104 = .ok (.aload_n 0, 1) := by decide +kernel
theorem dX8_drops_105 : decode cX8_drops 105 = .ok (.getfield 7, 3) := by decide +kernel
theorem dX8_drops_108 : decode cX8_drops 108 = .ok (.sipush 174, 3) := by decide +kernel
theorem dX8_drops_111 : decode cX8_drops 111 = .ok (.dup2, 1) := by decide +kernel
theorem dX8_drops_112 : decode cX8_drops 112 = .ok (.iaload, 1) := by decide +kernel
theorem dX8_drops_113 : decode cX8_drops 113 = .ok (.iload 4, 2) := by decide +kernel
theorem dX8_drops_115 : decode cX8_drops 115 = .ok (.ifCond .eq 7, 3) := by decide +kernel
theorem dX8_drops_118 : decode cX8_drops 118 = .ok (.iconst 1, 1) := by decide +kernel
theorem dX8_drops_119 : decode cX8_drops 119 = .ok (.goto 4, 3) := by decide +kernel
theorem dX8_drops_122 : decode cX8_drops 122 = .ok (.iconst 0, 1) := by decide +kernel
theorem dX8_drops_123 : decode cX8_drops 123 = .ok (.iadd, 1) := by decide +kernel
theorem dX8_drops_124 : decode cX8_drops 124 = .ok (.iastore, 1) := by decide +kernel
theorem dX8_drops_125 : decode cX8_drops 125 = .ok (.aload_n 0, 1) := by decide +kernel
theorem dX8_drops_126 : decode cX8_drops 126 = .ok (.iload_n 1, 1) := by decide +kernel
theorem dX8_drops_127 : decode cX8_drops 127 = .ok (.iload 4, 2) := by decide +kernel
theorem dX8_drops_129 : decode cX8_drops 129 = .ok (.ifCond .eq 9, 3) := by decide +kernel
theorem dX8_drops_132 : decode cX8_drops 132 = .ok (.iload_n 3, 1) := by decide +kernel
theorem dX8_drops_133 : decode cX8_drops 133 = .ok (.iconst 1, 1) := by decide +kernel
theorem dX8_drops_134 : decode cX8_drops 134 = .ok (.iadd, 1) := by decide +kernel
theorem dX8_drops_135 : decode cX8_drops 135 = .ok (.goto 4, 3) := by decide +kernel
theorem dX8_drops_138 : decode cX8_drops 138 = .ok (.iload_n 3, 1) := by decide +kernel
theorem dX8_drops_139 : decode cX8_drops 139 = .ok (.invokevirtual 72, 3) := by decide +kernel
theorem dX8_drops_142 : decode cX8_drops 142 = .ok (.iconst 0, 1) := by decide +kernel
theorem dX8_drops_143 : decode cX8_drops 143 = .ok (.istore 5, 2) := by decide +kernel
theorem dX8_drops_145 : decode cX8_drops 145 = .ok (.iload 5, 2) := by decide +kernel
theorem dX8_drops_147 : decode cX8_drops 147 = .ok (.iconst 4, 1) := by decide +kernel
theorem dX8_drops_148 : decode cX8_drops 148 = .ok (.if_icmp .ge 19, 3) := by decide +kernel
theorem dX8_drops_151 : decode cX8_drops 151 = .ok (.aload_n 0, 1) := by decide +kernel
theorem dX8_drops_152 : decode cX8_drops 152 = .ok (.getfield 7, 3) := by decide +kernel
theorem dX8_drops_155 : decode cX8_drops 155 = .ok (.iload_n 2, 1) := by decide +kernel
theorem dX8_drops_156 : decode cX8_drops 156 = .ok (.iload 5, 2) := by decide +kernel
theorem dX8_drops_158 : decode cX8_drops 158 = .ok (.iadd, 1) := by decide +kernel
theorem dX8_drops_159 : decode cX8_drops 159 = .ok (.iconst 0, 1) := by decide +kernel
theorem dX8_drops_160 : decode cX8_drops 160 = .ok (.iastore, 1) := by decide +kernel
theorem dX8_drops_161 : decode cX8_drops 161 = .ok (.iinc 5 1, 3) := by decide +kernel
theorem dX8_drops_164 : decode cX8_drops 164 = .ok (.goto (-19), 3) := by decide +kernel
theorem dX8_drops_167 : decode cX8_drops 167 = .ok (.iconst 1, 1) := by decide +kernel
theorem dX8_drops_168 : decode cX8_drops 168 = .ok (.ireturn, 1) := by decide +kernel
set_option maxRecDepth 20000 in
theorem ggX8_tick_X8_grades : GoodIn wsX8_tick wsX8_grades := goodIn_r _ [6, 1, 7, 8, 9, 5, 10, 11, 12, 13, 14, 15, 16, 17, 18, 19, 20, 21, 22, 23, 24, 25, 26, 27, 28, 29, 30, 31, 32, 33, 34, 35, 36, 37, 38, 39, 40, 56, 57, 58, 59, 60, 61, 62, 63, 64, 65, 66] (by decide +kernel) (by decide +kernel)
set_option maxRecDepth 20000 in
theorem gX8_tick_X8_grades : GoodIn wsX8_tick (wsV RX8 76 RX8 yX8_grades wsX8_grades) := goodIn_app (goodIn_of _ (by decide +kernel)) ggX8_tick_X8_grades
set_option maxRecDepth 20000 in
theorem ggX8_tick_X8_moves : GoodIn wsX8_tick wsX8_moves := goodIn_r _ [44, 1, 11, 12, 5, 13, 45, 46, 47, 48, 49, 50, 51, 56, 57, 58, 59, 60, 61, 62, 63, 64, 65, 66] (by decide +kernel) (by decide +kernel)
set_option maxRecDepth 20000 in
theorem gX8_tick_X8_moves : GoodIn wsX8_tick (wsV RX8 79 RX8 yX8_moves wsX8_moves) := goodIn_app (goodIn_of _ (by decide +kernel)) ggX8_tick_X8_moves
set_option maxRecDepth 20000 in
theorem ggX8_tick_X8_drops : GoodIn wsX8_tick wsX8_drops := goodIn_r _ [55, 1, 11, 12, 5, 13, 21, 22, 23, 45, 46, 47, 48, 49, 50, 51, 56, 57, 58, 59, 60, 61, 62, 63, 64, 65, 66] (by decide +kernel) (by decide +kernel)
set_option maxRecDepth 20000 in
theorem gX8_tick_X8_drops : GoodIn wsX8_tick (wsV RX8 83 RX8 yX8_drops wsX8_drops) := goodIn_app (goodIn_of _ (by decide +kernel)) ggX8_tick_X8_drops
theorem dX8_tick_0 : decode cX8_tick 0 = .ok (.aload_n 0, 1) := by decide +kernel
theorem dX8_tick_1 : decode cX8_tick 1 = .ok (.getfield 7, 3) := by decide +kernel
theorem dX8_tick_4 : decode cX8_tick 4 = .ok (.sipush 170, 3) := by decide +kernel
theorem dX8_tick_7 : decode cX8_tick 7 = .ok (.dup2, 1) := by decide +kernel
theorem dX8_tick_8 : decode cX8_tick 8 = .ok (.iaload, 1) := by decide +kernel
theorem dX8_tick_9 : decode cX8_tick 9 = .ok (.iconst 1, 1) := by decide +kernel
theorem dX8_tick_10 : decode cX8_tick 10 = .ok (.iadd, 1) := by decide +kernel
theorem dX8_tick_11 : decode cX8_tick 11 = .ok (.iastore, 1) := by decide +kernel
theorem dX8_tick_12 : decode cX8_tick 12 = .ok (.aload_n 0, 1) := by decide +kernel
theorem dX8_tick_13 : decode cX8_tick 13 = .ok (.invokevirtual 76, 3) := by decide +kernel
theorem dX8_tick_16 : decode cX8_tick 16 = .ok (.aload_n 0, 1) := by decide +kernel
theorem dX8_tick_17 : decode cX8_tick 17 = .ok (.invokevirtual 79, 3) := by decide +kernel
theorem dX8_tick_20 : decode cX8_tick 20 = .ok (.istore_n 1, 1) := by decide +kernel
theorem dX8_tick_21 : decode cX8_tick 21 = .ok (.iconst 0, 1) := by decide +kernel
theorem dX8_tick_22 : decode cX8_tick 22 = .ok (.istore_n 2, 1) := by decide +kernel
theorem dX8_tick_23 : decode cX8_tick 23 = .ok (.iload_n 2, 1) := by decide +kernel
theorem dX8_tick_24 : decode cX8_tick 24 = .ok (.iconst 4, 1) := by decide +kernel
theorem dX8_tick_25 : decode cX8_tick 25 = .ok (.if_icmp .ge 17, 3) := by decide +kernel
theorem dX8_tick_28 : decode cX8_tick 28 = .ok (.iload_n 1, 1) := by decide +kernel
theorem dX8_tick_29 : decode cX8_tick 29 = .ok (.aload_n 0, 1) := by decide +kernel
theorem dX8_tick_30 : decode cX8_tick 30 = .ok (.iload_n 2, 1) := by decide +kernel
theorem dX8_tick_31 : decode cX8_tick 31 = .ok (.invokevirtual 83, 3) := by decide +kernel
theorem dX8_tick_34 : decode cX8_tick 34 = .ok (.iadd, 1) := by decide +kernel
theorem dX8_tick_35 : decode cX8_tick 35 = .ok (.istore_n 1, 1) := by decide +kernel
theorem dX8_tick_36 : decode cX8_tick 36 = .ok (.iinc 2 1, 3) := by decide +kernel
theorem dX8_tick_39 : decode cX8_tick 39 = .ok (.goto (-16), 3) := by decide +kernel
theorem dX8_tick_42 : decode cX8_tick 42 = .ok (.iload_n 1, 1) := by decide +kernel
theorem dX8_tick_43 : decode cX8_tick 43 = .ok (.ireturn, 1) := by decide +kernel
theorem dX8_lays_0 : decode cX8_lays 0 = .ok (.aload_n 0, 1) := by decide +kernel
theorem dX8_lays_1 : decode cX8_lays 1 = .ok (.getfield 7, 3) := by decide +kernel
theorem dX8_lays_4 : decode cX8_lays 4 = .ok (.bipush 38, 2) := by decide +kernel
theorem dX8_lays_6 : decode cX8_lays 6 = .ok (.aload_n 0, 1) := by decide +kernel
theorem dX8_lays_7 : decode cX8_lays 7 = .ok (.getfield 7, 3) := by decide +kernel
theorem dX8_lays_10 : decode cX8_lays 10 = .ok (.bipush 37, 2) := by decide +kernel
theorem dX8_lays_12 : decode cX8_lays 12 = .ok (.iaload, 1) := by decide +kernel
theorem dX8_lays_13 : decode cX8_lays 13 = .ok (.iadd, 1) := by decide +kernel
theorem dX8_lays_14 : decode cX8_lays 14 = .ok (.iload_n 1, 1) := by decide +kernel
theorem dX8_lays_15 : decode cX8_lays 15 = .ok (.iastore, 1) := by decide +kernel
theorem dX8_lays_16 : decode cX8_lays 16 = .ok (.aload_n 0, 1) := by decide +kernel
theorem dX8_lays_17 : decode cX8_lays 17 = .ok (.getfield 7, 3) := by decide +kernel
theorem dX8_lays_20 : decode cX8_lays 20 = .ok (.bipush 37, 2) := by decide +kernel
theorem dX8_lays_22 : decode cX8_lays 22 = .ok (.dup2, 1) := by decide +kernel
theorem dX8_lays_23 : decode cX8_lays 23 = .ok (.iaload, 1) := by decide +kernel
theorem dX8_lays_24 : decode cX8_lays 24 = .ok (.iconst 1, 1) := by decide +kernel
theorem dX8_lays_25 : decode cX8_lays 25 = .ok (.iadd, 1) := by decide +kernel
theorem dX8_lays_26 : decode cX8_lays 26 = .ok (.iastore, 1) := by decide +kernel
theorem dX8_lays_27 : decode cX8_lays 27 = .ok (.aload_n 0, 1) := by decide +kernel
theorem dX8_lays_28 : decode cX8_lays 28 = .ok (.getfield 7, 3) := by decide +kernel
theorem dX8_lays_31 : decode cX8_lays 31 = .ok (.sipush 171, 3) := by decide +kernel
theorem dX8_lays_34 : decode cX8_lays 34 = .ok (.dup2, 1) := by decide +kernel
theorem dX8_lays_35 : decode cX8_lays 35 = .ok (.iaload, 1) := by decide +kernel
theorem dX8_lays_36 : decode cX8_lays 36 = .ok (.iconst 1, 1) := by decide +kernel
theorem dX8_lays_37 : decode cX8_lays 37 = .ok (.iadd, 1) := by decide +kernel
theorem dX8_lays_38 : decode cX8_lays 38 = .ok (.iastore, 1) := by decide +kernel
theorem dX8_lays_39 : decode cX8_lays 39 = .ok (.return_, 1) := by decide +kernel
set_option maxRecDepth 20000 in
theorem ggX8_lay_X8_isApple : GoodIn wsX8_lay wsX8_isApple := goodIn_r _ [5, 6, 7, 4, 8] (by decide +kernel) (by decide +kernel)
set_option maxRecDepth 20000 in
theorem gX8_lay_X8_isApple : GoodIn wsX8_lay (va_wsS RX8 86 yX8_isApple wsX8_isApple) := goodIn_app (goodIn_of _ (by decide +kernel)) ggX8_lay_X8_isApple
set_option maxRecDepth 20000 in
theorem ggX8_lay_X8_changes : GoodIn wsX8_lay wsX8_changes := goodIn_r _ [12, 13, 14, 1, 22, 23, 24, 25, 26, 27, 28, 29, 30, 31, 32] (by decide +kernel) (by decide +kernel)
set_option maxRecDepth 20000 in
theorem gX8_lay_X8_changes : GoodIn wsX8_lay (wsV RX8 89 RX8 yX8_changes wsX8_changes) := goodIn_app (goodIn_of _ (by decide +kernel)) ggX8_lay_X8_changes
set_option maxRecDepth 20000 in
theorem ggX8_lay_X8_packed : GoodIn wsX8_lay wsX8_packed := goodIn_r _ [17] (by decide +kernel) (by decide +kernel)
set_option maxRecDepth 20000 in
theorem gX8_lay_X8_packed : GoodIn wsX8_lay (va_wsS RX8 46 yX8_packed wsX8_packed) := goodIn_app (goodIn_of _ (by decide +kernel)) ggX8_lay_X8_packed
set_option maxRecDepth 20000 in
theorem ggX8_lay_X8_lays : GoodIn wsX8_lay wsX8_lays := goodIn_r _ [21, 1, 22, 23, 24, 25, 26, 27, 28, 29, 30, 31, 32] (by decide +kernel) (by decide +kernel)
set_option maxRecDepth 20000 in
theorem gX8_lay_X8_lays : GoodIn wsX8_lay (wsV RX8 92 RX8 yX8_lays wsX8_lays) := goodIn_app (goodIn_of _ (by decide +kernel)) ggX8_lay_X8_lays
theorem dX8_lay_0 : decode cX8_lay 0 = .ok (.iload_n 1, 1) := by decide +kernel
theorem dX8_lay_1 : decode cX8_lay 1 = .ok (.iload_n 2, 1) := by decide +kernel
theorem dX8_lay_2 : decode cX8_lay 2 = .ok (.iload_n 3, 1) := by decide +kernel
theorem dX8_lay_3 : decode cX8_lay 3 = .ok (.invokestatic 86, 3) := by decide +kernel
theorem dX8_lay_6 : decode cX8_lay 6 = .ok (.ifCond .ne 5, 3) := by decide +kernel
theorem dX8_lay_9 : decode cX8_lay 9 = .ok (.iconst (-1), 1) := by decide +kernel
theorem dX8_lay_10 : decode cX8_lay 10 = .ok (.ireturn, 1) := by decide +kernel
theorem dX8_lay_11 : decode cX8_lay 11 = .ok (.aload_n 0, 1) := by decide +kernel
theorem dX8_lay_12 : decode cX8_lay 12 = .ok (.getfield 7, 3) := by decide +kernel
theorem dX8_lay_15 : decode cX8_lay 15 = .ok (.bipush 37, 2) := by decide +kernel
theorem dX8_lay_17 : decode cX8_lay 17 = .ok (.iaload, 1) := by decide +kernel
theorem dX8_lay_18 : decode cX8_lay 18 = .ok (.iconst 2, 1) := by decide +kernel
theorem dX8_lay_19 : decode cX8_lay 19 = .ok (.if_icmp .ne 6, 3) := by decide +kernel
theorem dX8_lay_22 : decode cX8_lay 22 = .ok (.bipush (-3), 2) := by decide +kernel
theorem dX8_lay_24 : decode cX8_lay 24 = .ok (.ireturn, 1) := by decide +kernel
theorem dX8_lay_25 : decode cX8_lay 25 = .ok (.aload_n 0, 1) := by decide +kernel
theorem dX8_lay_26 : decode cX8_lay 26 = .ok (.invokevirtual 89, 3) := by decide +kernel
theorem dX8_lay_29 : decode cX8_lay 29 = .ok (.aload_n 0, 1) := by decide +kernel
theorem dX8_lay_30 : decode cX8_lay 30 = .ok (.iload_n 1, 1) := by decide +kernel
theorem dX8_lay_31 : decode cX8_lay 31 = .ok (.iload_n 2, 1) := by decide +kernel
theorem dX8_lay_32 : decode cX8_lay 32 = .ok (.iload_n 3, 1) := by decide +kernel
theorem dX8_lay_33 : decode cX8_lay 33 = .ok (.invokestatic 46, 3) := by decide +kernel
theorem dX8_lay_36 : decode cX8_lay 36 = .ok (.invokevirtual 92, 3) := by decide +kernel
theorem dX8_lay_39 : decode cX8_lay 39 = .ok (.aload_n 0, 1) := by decide +kernel
theorem dX8_lay_40 : decode cX8_lay 40 = .ok (.getfield 7, 3) := by decide +kernel
theorem dX8_lay_43 : decode cX8_lay 43 = .ok (.bipush 37, 2) := by decide +kernel
theorem dX8_lay_45 : decode cX8_lay 45 = .ok (.iaload, 1) := by decide +kernel
theorem dX8_lay_46 : decode cX8_lay 46 = .ok (.ireturn, 1) := by decide +kernel
set_option maxRecDepth 20000 in
theorem ggX8_pass_X8_in : GoodIn wsX8_pass wsX8_in := goodIn_r _ [4] (by decide +kernel) (by decide +kernel)
set_option maxRecDepth 20000 in
theorem gX8_pass_X8_in : GoodIn wsX8_pass (va_wsS RX8 32 yX8_in wsX8_in) := goodIn_app (goodIn_of _ (by decide +kernel)) ggX8_pass_X8_in
set_option maxRecDepth 20000 in
theorem ggX8_pass_X8_changes : GoodIn wsX8_pass wsX8_changes := goodIn_r _ [8, 9, 10, 11, 69, 70, 71, 72, 73, 74, 75, 76, 77, 78, 79] (by decide +kernel) (by decide +kernel)
set_option maxRecDepth 20000 in
theorem gX8_pass_X8_changes : GoodIn wsX8_pass (wsV RX8 89 RX8 yX8_changes wsX8_changes) := goodIn_app (goodIn_of _ (by decide +kernel)) ggX8_pass_X8_changes
set_option maxRecDepth 20000 in
theorem ggX8_pass_X8_tick : GoodIn wsX8_pass wsX8_tick := goodIn_r _ [15, 11, 16, 17, 18, 3, 19, 20, 21, 22, 23, 24, 25, 26, 27, 28, 29, 30, 31, 32, 33, 34, 35, 36, 37, 38, 39, 40, 41, 42, 43, 44, 45, 46, 47, 48, 49, 50, 51, 52, 53, 54, 55, 56, 57, 58, 59, 60, 61, 62, 63, 64, 65, 66, 67, 68, 69, 70, 71, 72, 73, 74, 75, 76, 77, 78, 79] (by decide +kernel) (by decide +kernel)
set_option maxRecDepth 20000 in
theorem gX8_pass_X8_tick : GoodIn wsX8_pass (wsV RX8 96 RX8 yX8_tick wsX8_tick) := goodIn_app (goodIn_of _ (by decide +kernel)) ggX8_pass_X8_tick
theorem dX8_pass_0 : decode cX8_pass 0 = .ok (.iload_n 1, 1) := by decide +kernel
theorem dX8_pass_1 : decode cX8_pass 1 = .ok (.iconst 1, 1) := by decide +kernel
theorem dX8_pass_2 : decode cX8_pass 2 = .ok (.bipush 30, 2) := by decide +kernel
theorem dX8_pass_4 : decode cX8_pass 4 = .ok (.invokestatic 32, 3) := by decide +kernel
theorem dX8_pass_7 : decode cX8_pass 7 = .ok (.ifCond .ne 5, 3) := by decide +kernel
theorem dX8_pass_10 : decode cX8_pass 10 = .ok (.iconst (-1), 1) := by decide +kernel
theorem dX8_pass_11 : decode cX8_pass 11 = .ok (.ireturn, 1) := by decide +kernel
theorem dX8_pass_12 : decode cX8_pass 12 = .ok (.aload_n 0, 1) := by decide +kernel
theorem dX8_pass_13 : decode cX8_pass 13 = .ok (.invokevirtual 89, 3) := by decide +kernel
theorem dX8_pass_16 : decode cX8_pass 16 = .ok (.iconst 0, 1) := by decide +kernel
theorem dX8_pass_17 : decode cX8_pass 17 = .ok (.istore_n 2, 1) := by decide +kernel
theorem dX8_pass_18 : decode cX8_pass 18 = .ok (.iconst 0, 1) := by decide +kernel
theorem dX8_pass_19 : decode cX8_pass 19 = .ok (.istore_n 3, 1) := by decide +kernel
theorem dX8_pass_20 : decode cX8_pass 20 = .ok (.iload_n 3, 1) := by decide +kernel
theorem dX8_pass_21 : decode cX8_pass 21 = .ok (.iload_n 1, 1) := by decide +kernel
theorem dX8_pass_22 : decode cX8_pass 22 = .ok (.if_icmp .ge 16, 3) := by decide +kernel
theorem dX8_pass_25 : decode cX8_pass 25 = .ok (.iload_n 2, 1) := by decide +kernel
theorem dX8_pass_26 : decode cX8_pass 26 = .ok (.aload_n 0, 1) := by decide +kernel
theorem dX8_pass_27 : decode cX8_pass 27 = .ok (.invokevirtual 96, 3) := by decide +kernel
theorem dX8_pass_30 : decode cX8_pass 30 = .ok (.iadd, 1) := by decide +kernel
theorem dX8_pass_31 : decode cX8_pass 31 = .ok (.istore_n 2, 1) := by decide +kernel
theorem dX8_pass_32 : decode cX8_pass 32 = .ok (.iinc 3 1, 3) := by decide +kernel
theorem dX8_pass_35 : decode cX8_pass 35 = .ok (.goto (-15), 3) := by decide +kernel
theorem dX8_pass_38 : decode cX8_pass 38 = .ok (.iload_n 2, 1) := by decide +kernel
theorem dX8_pass_39 : decode cX8_pass 39 = .ok (.ireturn, 1) := by decide +kernel
set_option maxRecDepth 20000 in
theorem ggX8_rule_X8_in : GoodIn wsX8_rule wsX8_in := goodIn_r _ [5] (by decide +kernel) (by decide +kernel)
set_option maxRecDepth 20000 in
theorem gX8_rule_X8_in : GoodIn wsX8_rule (va_wsS RX8 32 yX8_in wsX8_in) := goodIn_app (goodIn_of _ (by decide +kernel)) ggX8_rule_X8_in
set_option maxRecDepth 20000 in
theorem ggX8_rule_X8_isApple : GoodIn wsX8_rule wsX8_isApple := goodIn_r _ [8, 2, 3, 4, 5] (by decide +kernel) (by decide +kernel)
set_option maxRecDepth 20000 in
theorem gX8_rule_X8_isApple : GoodIn wsX8_rule (va_wsS RX8 86 yX8_isApple wsX8_isApple) := goodIn_app (goodIn_of _ (by decide +kernel)) ggX8_rule_X8_isApple
set_option maxRecDepth 20000 in
theorem ggX8_rule_X8_changes : GoodIn wsX8_rule wsX8_changes := goodIn_r _ [12, 13, 14, 1, 18, 19, 20, 21, 22, 23, 24, 25, 26, 27, 28] (by decide +kernel) (by decide +kernel)
set_option maxRecDepth 20000 in
theorem gX8_rule_X8_changes : GoodIn wsX8_rule (wsV RX8 89 RX8 yX8_changes wsX8_changes) := goodIn_app (goodIn_of _ (by decide +kernel)) ggX8_rule_X8_changes
set_option maxRecDepth 20000 in
theorem ggX8_rule_X8_ruleAt : GoodIn wsX8_rule wsX8_ruleAt := goodIn_r _ [17] (by decide +kernel) (by decide +kernel)
set_option maxRecDepth 20000 in
theorem gX8_rule_X8_ruleAt : GoodIn wsX8_rule (va_wsS RX8 50 yX8_ruleAt wsX8_ruleAt) := goodIn_app (goodIn_of _ (by decide +kernel)) ggX8_rule_X8_ruleAt
theorem dX8_rule_0 : decode cX8_rule 0 = .ok (.iload_n 1, 1) := by decide +kernel
theorem dX8_rule_1 : decode cX8_rule 1 = .ok (.iconst 0, 1) := by decide +kernel
theorem dX8_rule_2 : decode cX8_rule 2 = .ok (.aload_n 0, 1) := by decide +kernel
theorem dX8_rule_3 : decode cX8_rule 3 = .ok (.getfield 7, 3) := by decide +kernel
theorem dX8_rule_6 : decode cX8_rule 6 = .ok (.iconst 4, 1) := by decide +kernel
theorem dX8_rule_7 : decode cX8_rule 7 = .ok (.iaload, 1) := by decide +kernel
theorem dX8_rule_8 : decode cX8_rule 8 = .ok (.invokestatic 32, 3) := by decide +kernel
theorem dX8_rule_11 : decode cX8_rule 11 = .ok (.ifCond .eq 23, 3) := by decide +kernel
theorem dX8_rule_14 : decode cX8_rule 14 = .ok (.iload_n 2, 1) := by decide +kernel
theorem dX8_rule_15 : decode cX8_rule 15 = .ok (.iload_n 3, 1) := by decide +kernel
theorem dX8_rule_16 : decode cX8_rule 16 = .ok (.iload 4, 2) := by decide +kernel
theorem dX8_rule_18 : decode cX8_rule 18 = .ok (.invokestatic 86, 3) := by decide +kernel
theorem dX8_rule_21 : decode cX8_rule 21 = .ok (.ifCond .eq 13, 3) := by decide +kernel
theorem dX8_rule_24 : decode cX8_rule 24 = .ok (.iload 5, 2) := by decide +kernel
theorem dX8_rule_26 : decode cX8_rule 26 = .ok (.iconst 0, 1) := by decide +kernel
theorem dX8_rule_27 : decode cX8_rule 27 = .ok (.iconst 3, 1) := by decide +kernel
theorem dX8_rule_28 : decode cX8_rule 28 = .ok (.invokestatic 32, 3) := by decide +kernel
theorem dX8_rule_31 : decode cX8_rule 31 = .ok (.ifCond .ne 5, 3) := by decide +kernel
theorem dX8_rule_34 : decode cX8_rule 34 = .ok (.iconst (-1), 1) := by decide +kernel
theorem dX8_rule_35 : decode cX8_rule 35 = .ok (.ireturn, 1) := by decide +kernel
theorem dX8_rule_36 : decode cX8_rule 36 = .ok (.aload_n 0, 1) := by decide +kernel
theorem dX8_rule_37 : decode cX8_rule 37 = .ok (.getfield 7, 3) := by decide +kernel
theorem dX8_rule_40 : decode cX8_rule 40 = .ok (.iconst 4, 1) := by decide +kernel
theorem dX8_rule_41 : decode cX8_rule 41 = .ok (.iaload, 1) := by decide +kernel
theorem dX8_rule_42 : decode cX8_rule 42 = .ok (.bipush 8, 2) := by decide +kernel
theorem dX8_rule_44 : decode cX8_rule 44 = .ok (.if_icmp .ne 6, 3) := by decide +kernel
theorem dX8_rule_47 : decode cX8_rule 47 = .ok (.bipush (-3), 2) := by decide +kernel
theorem dX8_rule_49 : decode cX8_rule 49 = .ok (.ireturn, 1) := by decide +kernel
theorem dX8_rule_50 : decode cX8_rule 50 = .ok (.aload_n 0, 1) := by decide +kernel
theorem dX8_rule_51 : decode cX8_rule 51 = .ok (.invokevirtual 89, 3) := by decide +kernel
theorem dX8_rule_54 : decode cX8_rule 54 = .ok (.iload_n 1, 1) := by decide +kernel
theorem dX8_rule_55 : decode cX8_rule 55 = .ok (.invokestatic 50, 3) := by decide +kernel
theorem dX8_rule_58 : decode cX8_rule 58 = .ok (.istore 6, 2) := by decide +kernel
theorem dX8_rule_60 : decode cX8_rule 60 = .ok (.aload_n 0, 1) := by decide +kernel
theorem dX8_rule_61 : decode cX8_rule 61 = .ok (.getfield 7, 3) := by decide +kernel
theorem dX8_rule_64 : decode cX8_rule 64 = .ok (.iconst 4, 1) := by decide +kernel
theorem dX8_rule_65 : decode cX8_rule 65 = .ok (.iaload, 1) := by decide +kernel
theorem dX8_rule_66 : decode cX8_rule 66 = .ok (.invokestatic 50, 3) := by decide +kernel
theorem dX8_rule_69 : decode cX8_rule 69 = .ok (.iconst 3, 1) := by decide +kernel
theorem dX8_rule_70 : decode cX8_rule 70 = .ok (.iadd, 1) := by decide +kernel
theorem dX8_rule_71 : decode cX8_rule 71 = .ok (.istore 7, 2) := by decide +kernel
theorem dX8_rule_73 : decode cX8_rule 73 = .ok (.iload 7, 2) := by decide +kernel
theorem dX8_rule_75 : decode cX8_rule 75 = .ok (.iload 6, 2) := by decide +kernel
theorem dX8_rule_77 : decode cX8_rule 77 = .ok (.iconst 4, 1) := by decide +kernel
theorem dX8_rule_78 : decode cX8_rule 78 = .ok (.iadd, 1) := by decide +kernel
theorem dX8_rule_79 : decode cX8_rule 79 = .ok (.if_icmp .lt 25, 3) := by decide +kernel
theorem dX8_rule_82 : decode cX8_rule 82 = .ok (.aload_n 0, 1) := by decide +kernel
theorem dX8_rule_83 : decode cX8_rule 83 = .ok (.getfield 7, 3) := by decide +kernel
theorem dX8_rule_86 : decode cX8_rule 86 = .ok (.iload 7, 2) := by decide +kernel
theorem dX8_rule_88 : decode cX8_rule 88 = .ok (.aload_n 0, 1) := by decide +kernel
theorem dX8_rule_89 : decode cX8_rule 89 = .ok (.getfield 7, 3) := by decide +kernel
theorem dX8_rule_92 : decode cX8_rule 92 = .ok (.iload 7, 2) := by decide +kernel
theorem dX8_rule_94 : decode cX8_rule 94 = .ok (.iconst 4, 1) := by decide +kernel
theorem dX8_rule_95 : decode cX8_rule 95 = .ok (.isub, 1) := by decide +kernel
theorem dX8_rule_96 : decode cX8_rule 96 = .ok (.iaload, 1) := by decide +kernel
theorem dX8_rule_97 : decode cX8_rule 97 = .ok (.iastore, 1) := by decide +kernel
theorem dX8_rule_98 : decode cX8_rule 98 = .ok (.iinc 7 (-1), 3) := by decide +kernel
theorem dX8_rule_101 : decode cX8_rule 101 = .ok (.goto (-28), 3) := by decide +kernel
theorem dX8_rule_104 : decode cX8_rule 104 = .ok (.aload_n 0, 1) := by decide +kernel
theorem dX8_rule_105 : decode cX8_rule 105 = .ok (.getfield 7, 3) := by decide +kernel
theorem dX8_rule_108 : decode cX8_rule 108 = .ok (.iload 6, 2) := by decide +kernel
theorem dX8_rule_110 : decode cX8_rule 110 = .ok (.iload_n 2, 1) := by decide +kernel
theorem dX8_rule_111 : decode cX8_rule 111 = .ok (.iastore, 1) := by decide +kernel
theorem dX8_rule_112 : decode cX8_rule 112 = .ok (.aload_n 0, 1) := by decide +kernel
theorem dX8_rule_113 : decode cX8_rule 113 = .ok (.getfield 7, 3) := by decide +kernel
theorem dX8_rule_116 : decode cX8_rule 116 = .ok (.iload 6, 2) := by decide +kernel
theorem dX8_rule_118 : decode cX8_rule 118 = .ok (.iconst 1, 1) := by decide +kernel
theorem dX8_rule_119 : decode cX8_rule 119 = .ok (.iadd, 1) := by decide +kernel
theorem dX8_rule_120 : decode cX8_rule 120 = .ok (.iload_n 3, 1) := by decide +kernel
theorem dX8_rule_121 : decode cX8_rule 121 = .ok (.iastore, 1) := by decide +kernel
theorem dX8_rule_122 : decode cX8_rule 122 = .ok (.aload_n 0, 1) := by decide +kernel
theorem dX8_rule_123 : decode cX8_rule 123 = .ok (.getfield 7, 3) := by decide +kernel
theorem dX8_rule_126 : decode cX8_rule 126 = .ok (.iload 6, 2) := by decide +kernel
theorem dX8_rule_128 : decode cX8_rule 128 = .ok (.iconst 2, 1) := by decide +kernel
theorem dX8_rule_129 : decode cX8_rule 129 = .ok (.iadd, 1) := by decide +kernel
theorem dX8_rule_130 : decode cX8_rule 130 = .ok (.iload 4, 2) := by decide +kernel
theorem dX8_rule_132 : decode cX8_rule 132 = .ok (.iastore, 1) := by decide +kernel
theorem dX8_rule_133 : decode cX8_rule 133 = .ok (.aload_n 0, 1) := by decide +kernel
theorem dX8_rule_134 : decode cX8_rule 134 = .ok (.getfield 7, 3) := by decide +kernel
theorem dX8_rule_137 : decode cX8_rule 137 = .ok (.iload 6, 2) := by decide +kernel
theorem dX8_rule_139 : decode cX8_rule 139 = .ok (.iconst 3, 1) := by decide +kernel
theorem dX8_rule_140 : decode cX8_rule 140 = .ok (.iadd, 1) := by decide +kernel
theorem dX8_rule_141 : decode cX8_rule 141 = .ok (.iload 5, 2) := by decide +kernel
theorem dX8_rule_143 : decode cX8_rule 143 = .ok (.iastore, 1) := by decide +kernel
theorem dX8_rule_144 : decode cX8_rule 144 = .ok (.aload_n 0, 1) := by decide +kernel
theorem dX8_rule_145 : decode cX8_rule 145 = .ok (.getfield 7, 3) := by decide +kernel
theorem dX8_rule_148 : decode cX8_rule 148 = .ok (.iconst 4, 1) := by decide +kernel
theorem dX8_rule_149 : decode cX8_rule 149 = .ok (.dup2, 1) := by decide +kernel
theorem dX8_rule_150 : decode cX8_rule 150 = .ok (.iaload, 1) := by decide +kernel
theorem dX8_rule_151 : decode cX8_rule 151 = .ok (.iconst 1, 1) := by decide +kernel
theorem dX8_rule_152 : decode cX8_rule 152 = .ok (.iadd, 1) := by decide +kernel
theorem dX8_rule_153 : decode cX8_rule 153 = .ok (.iastore, 1) := by decide +kernel
theorem dX8_rule_154 : decode cX8_rule 154 = .ok (.aload_n 0, 1) := by decide +kernel
theorem dX8_rule_155 : decode cX8_rule 155 = .ok (.getfield 7, 3) := by decide +kernel
theorem dX8_rule_158 : decode cX8_rule 158 = .ok (.iconst 4, 1) := by decide +kernel
theorem dX8_rule_159 : decode cX8_rule 159 = .ok (.iaload, 1) := by decide +kernel
theorem dX8_rule_160 : decode cX8_rule 160 = .ok (.ireturn, 1) := by decide +kernel
set_option maxRecDepth 20000 in
theorem ggX8_isRule_X8_in : GoodIn wsX8_isRule wsX8_in := goodIn_r _ [5] (by decide +kernel) (by decide +kernel)
set_option maxRecDepth 20000 in
theorem gX8_isRule_X8_in : GoodIn wsX8_isRule (va_wsS RX8 32 yX8_in wsX8_in) := goodIn_app (goodIn_of _ (by decide +kernel)) ggX8_isRule_X8_in
theorem dX8_isRule_0 : decode cX8_isRule 0 = .ok (.iload_n 1, 1) := by decide +kernel
theorem dX8_isRule_1 : decode cX8_isRule 1 = .ok (.iconst 0, 1) := by decide +kernel
theorem dX8_isRule_2 : decode cX8_isRule 2 = .ok (.aload_n 0, 1) := by decide +kernel
theorem dX8_isRule_3 : decode cX8_isRule 3 = .ok (.getfield 7, 3) := by decide +kernel
theorem dX8_isRule_6 : decode cX8_isRule 6 = .ok (.iconst 4, 1) := by decide +kernel
theorem dX8_isRule_7 : decode cX8_isRule 7 = .ok (.iaload, 1) := by decide +kernel
theorem dX8_isRule_8 : decode cX8_isRule 8 = .ok (.iconst 1, 1) := by decide +kernel
theorem dX8_isRule_9 : decode cX8_isRule 9 = .ok (.isub, 1) := by decide +kernel
theorem dX8_isRule_10 : decode cX8_isRule 10 = .ok (.invokestatic 32, 3) := by decide +kernel
theorem dX8_isRule_13 : decode cX8_isRule 13 = .ok (.ireturn, 1) := by decide +kernel
set_option maxRecDepth 20000 in
theorem ggX8_drop_X8_isRule : GoodIn wsX8_drop wsX8_isRule := goodIn_r _ [6, 1, 7, 8, 5, 9, 19, 20, 21, 22, 23, 24, 25, 26, 27, 28, 29] (by decide +kernel) (by decide +kernel)
set_option maxRecDepth 20000 in
theorem gX8_drop_X8_isRule : GoodIn wsX8_drop (wsV RX8 99 RX8 yX8_isRule wsX8_isRule) := goodIn_app (goodIn_of _ (by decide +kernel)) ggX8_drop_X8_isRule
set_option maxRecDepth 20000 in
theorem ggX8_drop_X8_changes : GoodIn wsX8_drop wsX8_changes := goodIn_r _ [13, 14, 15, 1, 19, 20, 21, 22, 23, 24, 25, 26, 27, 28, 29] (by decide +kernel) (by decide +kernel)
set_option maxRecDepth 20000 in
theorem gX8_drop_X8_changes : GoodIn wsX8_drop (wsV RX8 89 RX8 yX8_changes wsX8_changes) := goodIn_app (goodIn_of _ (by decide +kernel)) ggX8_drop_X8_changes
set_option maxRecDepth 20000 in
theorem ggX8_drop_X8_ruleAt : GoodIn wsX8_drop wsX8_ruleAt := goodIn_r _ [18] (by decide +kernel) (by decide +kernel)
set_option maxRecDepth 20000 in
theorem gX8_drop_X8_ruleAt : GoodIn wsX8_drop (va_wsS RX8 50 yX8_ruleAt wsX8_ruleAt) := goodIn_app (goodIn_of _ (by decide +kernel)) ggX8_drop_X8_ruleAt
theorem dX8_drop_0 : decode cX8_drop 0 = .ok (.aload_n 0, 1) := by decide +kernel
theorem dX8_drop_1 : decode cX8_drop 1 = .ok (.iload_n 1, 1) := by decide +kernel
theorem dX8_drop_2 : decode cX8_drop 2 = .ok (.invokevirtual 99, 3) := by decide +kernel
theorem dX8_drop_5 : decode cX8_drop 5 = .ok (.ifCond .ne 5, 3) := by decide +kernel
theorem dX8_drop_8 : decode cX8_drop 8 = .ok (.iconst (-1), 1) := by decide +kernel
theorem dX8_drop_9 : decode cX8_drop 9 = .ok (.ireturn, 1) := by decide +kernel
theorem dX8_drop_10 : decode cX8_drop 10 = .ok (.aload_n 0, 1) := by decide +kernel
theorem dX8_drop_11 : decode cX8_drop 11 = .ok (.invokevirtual 89, 3) := by decide +kernel
theorem dX8_drop_14 : decode cX8_drop 14 = .ok (.aload_n 0, 1) := by decide +kernel
theorem dX8_drop_15 : decode cX8_drop 15 = .ok (.getfield 7, 3) := by decide +kernel
theorem dX8_drop_18 : decode cX8_drop 18 = .ok (.iconst 4, 1) := by decide +kernel
theorem dX8_drop_19 : decode cX8_drop 19 = .ok (.dup2, 1) := by decide +kernel
theorem dX8_drop_20 : decode cX8_drop 20 = .ok (.iaload, 1) := by decide +kernel
theorem dX8_drop_21 : decode cX8_drop 21 = .ok (.iconst 1, 1) := by decide +kernel
theorem dX8_drop_22 : decode cX8_drop 22 = .ok (.isub, 1) := by decide +kernel
theorem dX8_drop_23 : decode cX8_drop 23 = .ok (.iastore, 1) := by decide +kernel
theorem dX8_drop_24 : decode cX8_drop 24 = .ok (.iload_n 1, 1) := by decide +kernel
theorem dX8_drop_25 : decode cX8_drop 25 = .ok (.invokestatic 50, 3) := by decide +kernel
theorem dX8_drop_28 : decode cX8_drop 28 = .ok (.istore_n 2, 1) := by decide +kernel
theorem dX8_drop_29 : decode cX8_drop 29 = .ok (.iload_n 2, 1) := by decide +kernel
theorem dX8_drop_30 : decode cX8_drop 30 = .ok (.aload_n 0, 1) := by decide +kernel
theorem dX8_drop_31 : decode cX8_drop 31 = .ok (.getfield 7, 3) := by decide +kernel
theorem dX8_drop_34 : decode cX8_drop 34 = .ok (.iconst 4, 1) := by decide +kernel
theorem dX8_drop_35 : decode cX8_drop 35 = .ok (.iaload, 1) := by decide +kernel
theorem dX8_drop_36 : decode cX8_drop 36 = .ok (.invokestatic 50, 3) := by decide +kernel
theorem dX8_drop_39 : decode cX8_drop 39 = .ok (.if_icmp .ge 23, 3) := by decide +kernel
theorem dX8_drop_42 : decode cX8_drop 42 = .ok (.aload_n 0, 1) := by decide +kernel
theorem dX8_drop_43 : decode cX8_drop 43 = .ok (.getfield 7, 3) := by decide +kernel
theorem dX8_drop_46 : decode cX8_drop 46 = .ok (.iload_n 2, 1) := by decide +kernel
theorem dX8_drop_47 : decode cX8_drop 47 = .ok (.aload_n 0, 1) := by decide +kernel
theorem dX8_drop_48 : decode cX8_drop 48 = .ok (.getfield 7, 3) := by decide +kernel
theorem dX8_drop_51 : decode cX8_drop 51 = .ok (.iload_n 2, 1) := by decide +kernel
theorem dX8_drop_52 : decode cX8_drop 52 = .ok (.iconst 4, 1) := by decide +kernel
theorem dX8_drop_53 : decode cX8_drop 53 = .ok (.iadd, 1) := by decide +kernel
theorem dX8_drop_54 : decode cX8_drop 54 = .ok (.iaload, 1) := by decide +kernel
theorem dX8_drop_55 : decode cX8_drop 55 = .ok (.iastore, 1) := by decide +kernel
theorem dX8_drop_56 : decode cX8_drop 56 = .ok (.iinc 2 1, 3) := by decide +kernel
theorem dX8_drop_59 : decode cX8_drop 59 = .ok (.goto (-30), 3) := by decide +kernel
theorem dX8_drop_62 : decode cX8_drop 62 = .ok (.aload_n 0, 1) := by decide +kernel
theorem dX8_drop_63 : decode cX8_drop 63 = .ok (.getfield 7, 3) := by decide +kernel
theorem dX8_drop_66 : decode cX8_drop 66 = .ok (.iconst 4, 1) := by decide +kernel
theorem dX8_drop_67 : decode cX8_drop 67 = .ok (.iaload, 1) := by decide +kernel
theorem dX8_drop_68 : decode cX8_drop 68 = .ok (.ireturn, 1) := by decide +kernel
set_option maxRecDepth 20000 in
theorem ggX8_water_X8_in : GoodIn wsX8_water wsX8_in := goodIn_r _ [5] (by decide +kernel) (by decide +kernel)
set_option maxRecDepth 20000 in
theorem gX8_water_X8_in : GoodIn wsX8_water (va_wsS RX8 32 yX8_in wsX8_in) := goodIn_app (goodIn_of _ (by decide +kernel)) ggX8_water_X8_in
set_option maxRecDepth 20000 in
theorem ggX8_water_X8_changes : GoodIn wsX8_water wsX8_changes := goodIn_r _ [9, 10, 11, 1, 12, 13, 14, 15, 16, 17, 18, 19, 20, 21, 22] (by decide +kernel) (by decide +kernel)
set_option maxRecDepth 20000 in
theorem gX8_water_X8_changes : GoodIn wsX8_water (wsV RX8 89 RX8 yX8_changes wsX8_changes) := goodIn_app (goodIn_of _ (by decide +kernel)) ggX8_water_X8_changes
theorem dX8_water_0 : decode cX8_water 0 = .ok (.iload_n 1, 1) := by decide +kernel
theorem dX8_water_1 : decode cX8_water 1 = .ok (.iconst 0, 1) := by decide +kernel
theorem dX8_water_2 : decode cX8_water 2 = .ok (.iconst 3, 1) := by decide +kernel
theorem dX8_water_3 : decode cX8_water 3 = .ok (.invokestatic 32, 3) := by decide +kernel
theorem dX8_water_6 : decode cX8_water 6 = .ok (.ifCond .ne 5, 3) := by decide +kernel
theorem dX8_water_9 : decode cX8_water 9 = .ok (.iconst (-1), 1) := by decide +kernel
theorem dX8_water_10 : decode cX8_water 10 = .ok (.ireturn, 1) := by decide +kernel
theorem dX8_water_11 : decode cX8_water 11 = .ok (.aload_n 0, 1) := by decide +kernel
theorem dX8_water_12 : decode cX8_water 12 = .ok (.invokevirtual 89, 3) := by decide +kernel
theorem dX8_water_15 : decode cX8_water 15 = .ok (.aload_n 0, 1) := by decide +kernel
theorem dX8_water_16 : decode cX8_water 16 = .ok (.getfield 7, 3) := by decide +kernel
theorem dX8_water_19 : decode cX8_water 19 = .ok (.iconst 3, 1) := by decide +kernel
theorem dX8_water_20 : decode cX8_water 20 = .ok (.dup2, 1) := by decide +kernel
theorem dX8_water_21 : decode cX8_water 21 = .ok (.iaload, 1) := by decide +kernel
theorem dX8_water_22 : decode cX8_water 22 = .ok (.iconst 1, 1) := by decide +kernel
theorem dX8_water_23 : decode cX8_water 23 = .ok (.iload_n 1, 1) := by decide +kernel
theorem dX8_water_24 : decode cX8_water 24 = .ok (.ishl, 1) := by decide +kernel
theorem dX8_water_25 : decode cX8_water 25 = .ok (.ixor, 1) := by decide +kernel
theorem dX8_water_26 : decode cX8_water 26 = .ok (.iastore, 1) := by decide +kernel
theorem dX8_water_27 : decode cX8_water 27 = .ok (.aload_n 0, 1) := by decide +kernel
theorem dX8_water_28 : decode cX8_water 28 = .ok (.getfield 7, 3) := by decide +kernel
theorem dX8_water_31 : decode cX8_water 31 = .ok (.iconst 3, 1) := by decide +kernel
theorem dX8_water_32 : decode cX8_water 32 = .ok (.iaload, 1) := by decide +kernel
theorem dX8_water_33 : decode cX8_water 33 = .ok (.iload_n 1, 1) := by decide +kernel
theorem dX8_water_34 : decode cX8_water 34 = .ok (.ishr, 1) := by decide +kernel
theorem dX8_water_35 : decode cX8_water 35 = .ok (.iconst 1, 1) := by decide +kernel
theorem dX8_water_36 : decode cX8_water 36 = .ok (.iand, 1) := by decide +kernel
theorem dX8_water_37 : decode cX8_water 37 = .ok (.ireturn, 1) := by decide +kernel
set_option maxRecDepth 20000 in
theorem ggX8_empty_X8_in : GoodIn wsX8_empty wsX8_in := goodIn_r _ [5] (by decide +kernel) (by decide +kernel)
set_option maxRecDepth 20000 in
theorem gX8_empty_X8_in : GoodIn wsX8_empty (va_wsS RX8 32 yX8_in wsX8_in) := goodIn_app (goodIn_of _ (by decide +kernel)) ggX8_empty_X8_in
set_option maxRecDepth 20000 in
theorem ggX8_empty_X8_changes : GoodIn wsX8_empty wsX8_changes := goodIn_r _ [9, 10, 11, 1, 12, 13, 14, 15, 16, 17, 18, 19, 20, 21, 22] (by decide +kernel) (by decide +kernel)
set_option maxRecDepth 20000 in
theorem gX8_empty_X8_changes : GoodIn wsX8_empty (wsV RX8 89 RX8 yX8_changes wsX8_changes) := goodIn_app (goodIn_of _ (by decide +kernel)) ggX8_empty_X8_changes
theorem dX8_empty_0 : decode cX8_empty 0 = .ok (.iload_n 1, 1) := by decide +kernel
theorem dX8_empty_1 : decode cX8_empty 1 = .ok (.iconst 0, 1) := by decide +kernel
theorem dX8_empty_2 : decode cX8_empty 2 = .ok (.iconst 4, 1) := by decide +kernel
theorem dX8_empty_3 : decode cX8_empty 3 = .ok (.invokestatic 32, 3) := by decide +kernel
theorem dX8_empty_6 : decode cX8_empty 6 = .ok (.ifCond .ne 5, 3) := by decide +kernel
theorem dX8_empty_9 : decode cX8_empty 9 = .ok (.iconst (-1), 1) := by decide +kernel
theorem dX8_empty_10 : decode cX8_empty 10 = .ok (.ireturn, 1) := by decide +kernel
theorem dX8_empty_11 : decode cX8_empty 11 = .ok (.aload_n 0, 1) := by decide +kernel
theorem dX8_empty_12 : decode cX8_empty 12 = .ok (.invokevirtual 89, 3) := by decide +kernel
theorem dX8_empty_15 : decode cX8_empty 15 = .ok (.aload_n 0, 1) := by decide +kernel
theorem dX8_empty_16 : decode cX8_empty 16 = .ok (.getfield 7, 3) := by decide +kernel
theorem dX8_empty_19 : decode cX8_empty 19 = .ok (.bipush 85, 2) := by decide +kernel
theorem dX8_empty_21 : decode cX8_empty 21 = .ok (.iload_n 1, 1) := by decide +kernel
theorem dX8_empty_22 : decode cX8_empty 22 = .ok (.iadd, 1) := by decide +kernel
theorem dX8_empty_23 : decode cX8_empty 23 = .ok (.iaload, 1) := by decide +kernel
theorem dX8_empty_24 : decode cX8_empty 24 = .ok (.istore_n 2, 1) := by decide +kernel
theorem dX8_empty_25 : decode cX8_empty 25 = .ok (.aload_n 0, 1) := by decide +kernel
theorem dX8_empty_26 : decode cX8_empty 26 = .ok (.getfield 7, 3) := by decide +kernel
theorem dX8_empty_29 : decode cX8_empty 29 = .ok (.bipush 85, 2) := by decide +kernel
theorem dX8_empty_31 : decode cX8_empty 31 = .ok (.iload_n 1, 1) := by decide +kernel
theorem dX8_empty_32 : decode cX8_empty 32 = .ok (.iadd, 1) := by decide +kernel
theorem dX8_empty_33 : decode cX8_empty 33 = .ok (.iconst 0, 1) := by decide +kernel
theorem dX8_empty_34 : decode cX8_empty 34 = .ok (.iastore, 1) := by decide +kernel
theorem dX8_empty_35 : decode cX8_empty 35 = .ok (.aload_n 0, 1) := by decide +kernel
theorem dX8_empty_36 : decode cX8_empty 36 = .ok (.getfield 7, 3) := by decide +kernel
theorem dX8_empty_39 : decode cX8_empty 39 = .ok (.sipush 175, 3) := by decide +kernel
theorem dX8_empty_42 : decode cX8_empty 42 = .ok (.dup2, 1) := by decide +kernel
theorem dX8_empty_43 : decode cX8_empty 43 = .ok (.iaload, 1) := by decide +kernel
theorem dX8_empty_44 : decode cX8_empty 44 = .ok (.iload_n 2, 1) := by decide +kernel
theorem dX8_empty_45 : decode cX8_empty 45 = .ok (.iadd, 1) := by decide +kernel
theorem dX8_empty_46 : decode cX8_empty 46 = .ok (.iastore, 1) := by decide +kernel
theorem dX8_empty_47 : decode cX8_empty 47 = .ok (.iload_n 2, 1) := by decide +kernel
theorem dX8_empty_48 : decode cX8_empty 48 = .ok (.ireturn, 1) := by decide +kernel
set_option maxRecDepth 20000 in
theorem ggX8_set_X8_in : GoodIn wsX8_set wsX8_in := goodIn_r _ [5] (by decide +kernel) (by decide +kernel)
set_option maxRecDepth 20000 in
theorem gX8_set_X8_in : GoodIn wsX8_set (va_wsS RX8 32 yX8_in wsX8_in) := goodIn_app (goodIn_of _ (by decide +kernel)) ggX8_set_X8_in
set_option maxRecDepth 20000 in
theorem ggX8_set_X8_changes : GoodIn wsX8_set wsX8_changes := goodIn_r _ [9, 10, 11, 1, 12, 13, 14, 15, 16, 17, 18, 19, 20, 21, 22] (by decide +kernel) (by decide +kernel)
set_option maxRecDepth 20000 in
theorem gX8_set_X8_changes : GoodIn wsX8_set (wsV RX8 89 RX8 yX8_changes wsX8_changes) := goodIn_app (goodIn_of _ (by decide +kernel)) ggX8_set_X8_changes
theorem dX8_set_0 : decode cX8_set 0 = .ok (.iload_n 1, 1) := by decide +kernel
theorem dX8_set_1 : decode cX8_set 1 = .ok (.iconst 0, 1) := by decide +kernel
theorem dX8_set_2 : decode cX8_set 2 = .ok (.iconst 2, 1) := by decide +kernel
theorem dX8_set_3 : decode cX8_set 3 = .ok (.invokestatic 32, 3) := by decide +kernel
theorem dX8_set_6 : decode cX8_set 6 = .ok (.ifCond .eq 41, 3) := by decide +kernel
theorem dX8_set_9 : decode cX8_set 9 = .ok (.iload_n 2, 1) := by decide +kernel
theorem dX8_set_10 : decode cX8_set 10 = .ok (.iload_n 1, 1) := by decide +kernel
theorem dX8_set_11 : decode cX8_set 11 = .ok (.ifCond .ne 8, 3) := by decide +kernel
theorem dX8_set_14 : decode cX8_set 14 = .ok (.bipush (-20), 2) := by decide +kernel
theorem dX8_set_16 : decode cX8_set 16 = .ok (.goto 13, 3) := by decide +kernel
theorem dX8_set_19 : decode cX8_set 19 = .ok (.iload_n 1, 1) := by decide +kernel
theorem dX8_set_20 : decode cX8_set 20 = .ok (.iconst 1, 1) := by decide +kernel
theorem dX8_set_21 : decode cX8_set 21 = .ok (.if_icmp .ne 7, 3) := by decide +kernel
theorem dX8_set_24 : decode cX8_set 24 = .ok (.iconst 0, 1) := by decide +kernel
theorem dX8_set_25 : decode cX8_set 25 = .ok (.goto 4, 3) := by decide +kernel
theorem dX8_set_28 : decode cX8_set 28 = .ok (.iconst 1, 1) := by decide +kernel
theorem dX8_set_29 : decode cX8_set 29 = .ok (.iload_n 1, 1) := by decide +kernel
theorem dX8_set_30 : decode cX8_set 30 = .ok (.iconst 1, 1) := by decide +kernel
theorem dX8_set_31 : decode cX8_set 31 = .ok (.if_icmp .ne 8, 3) := by decide +kernel
theorem dX8_set_34 : decode cX8_set 34 = .ok (.bipush 9, 2) := by decide +kernel
theorem dX8_set_36 : decode cX8_set 36 = .ok (.goto 5, 3) := by decide +kernel
theorem dX8_set_39 : decode cX8_set 39 = .ok (.bipush 20, 2) := by decide +kernel
theorem dX8_set_41 : decode cX8_set 41 = .ok (.invokestatic 32, 3) := by decide +kernel
theorem dX8_set_44 : decode cX8_set 44 = .ok (.ifCond .ne 5, 3) := by decide +kernel
theorem dX8_set_47 : decode cX8_set 47 = .ok (.iconst (-1), 1) := by decide +kernel
theorem dX8_set_48 : decode cX8_set 48 = .ok (.ireturn, 1) := by decide +kernel
theorem dX8_set_49 : decode cX8_set 49 = .ok (.aload_n 0, 1) := by decide +kernel
theorem dX8_set_50 : decode cX8_set 50 = .ok (.invokevirtual 89, 3) := by decide +kernel
theorem dX8_set_53 : decode cX8_set 53 = .ok (.aload_n 0, 1) := by decide +kernel
theorem dX8_set_54 : decode cX8_set 54 = .ok (.getfield 7, 3) := by decide +kernel
theorem dX8_set_57 : decode cX8_set 57 = .ok (.iload_n 1, 1) := by decide +kernel
theorem dX8_set_58 : decode cX8_set 58 = .ok (.iaload, 1) := by decide +kernel
theorem dX8_set_59 : decode cX8_set 59 = .ok (.istore_n 3, 1) := by decide +kernel
theorem dX8_set_60 : decode cX8_set 60 = .ok (.aload_n 0, 1) := by decide +kernel
theorem dX8_set_61 : decode cX8_set 61 = .ok (.getfield 7, 3) := by decide +kernel
theorem dX8_set_64 : decode cX8_set 64 = .ok (.iload_n 1, 1) := by decide +kernel
theorem dX8_set_65 : decode cX8_set 65 = .ok (.iload_n 2, 1) := by decide +kernel
theorem dX8_set_66 : decode cX8_set 66 = .ok (.iastore, 1) := by decide +kernel
theorem dX8_set_67 : decode cX8_set 67 = .ok (.iload_n 1, 1) := by decide +kernel
theorem dX8_set_68 : decode cX8_set 68 = .ok (.ifCond .ne 10, 3) := by decide +kernel
theorem dX8_set_71 : decode cX8_set 71 = .ok (.iload_n 3, 1) := by decide +kernel
theorem dX8_set_72 : decode cX8_set 72 = .ok (.bipush 20, 2) := by decide +kernel
theorem dX8_set_74 : decode cX8_set 74 = .ok (.iadd, 1) := by decide +kernel
theorem dX8_set_75 : decode cX8_set 75 = .ok (.goto 4, 3) := by decide +kernel
theorem dX8_set_78 : decode cX8_set 78 = .ok (.iload_n 3, 1) := by decide +kernel
theorem dX8_set_79 : decode cX8_set 79 = .ok (.ireturn, 1) := by decide +kernel
set_option maxRecDepth 20000 in
theorem ggX8_append_X8_in : GoodIn wsX8_append wsX8_in := goodIn_r _ [6] (by decide +kernel) (by decide +kernel)
set_option maxRecDepth 20000 in
theorem gX8_append_X8_in : GoodIn wsX8_append (va_wsS RX8 32 yX8_in wsX8_in) := goodIn_app (goodIn_of _ (by decide +kernel)) ggX8_append_X8_in
theorem dX8_append_0 : decode cX8_append 0 = .ok (.iload_n 1, 1) := by decide +kernel
theorem dX8_append_1 : decode cX8_append 1 = .ok (.bipush 33, 2) := by decide +kernel
theorem dX8_append_3 : decode cX8_append 3 = .ok (.bipush 126, 2) := by decide +kernel
theorem dX8_append_5 : decode cX8_append 5 = .ok (.invokestatic 32, 3) := by decide +kernel
theorem dX8_append_8 : decode cX8_append 8 = .ok (.ifCond .ne 5, 3) := by decide +kernel
theorem dX8_append_11 : decode cX8_append 11 = .ok (.iconst (-1), 1) := by decide +kernel
theorem dX8_append_12 : decode cX8_append 12 = .ok (.ireturn, 1) := by decide +kernel
theorem dX8_append_13 : decode cX8_append 13 = .ok (.aload_n 0, 1) := by decide +kernel
theorem dX8_append_14 : decode cX8_append 14 = .ok (.getfield 103, 3) := by decide +kernel
theorem dX8_append_17 : decode cX8_append 17 = .ok (.bipush 60, 2) := by decide +kernel
theorem dX8_append_19 : decode cX8_append 19 = .ok (.if_icmp .ne 6, 3) := by decide +kernel
theorem dX8_append_22 : decode cX8_append 22 = .ok (.bipush (-3), 2) := by decide +kernel
theorem dX8_append_24 : decode cX8_append 24 = .ok (.ireturn, 1) := by decide +kernel
theorem dX8_append_25 : decode cX8_append 25 = .ok (.aload_n 0, 1) := by decide +kernel
theorem dX8_append_26 : decode cX8_append 26 = .ok (.getfield 22, 3) := by decide +kernel
theorem dX8_append_29 : decode cX8_append 29 = .ok (.aload_n 0, 1) := by decide +kernel
theorem dX8_append_30 : decode cX8_append 30 = .ok (.getfield 103, 3) := by decide +kernel
theorem dX8_append_33 : decode cX8_append 33 = .ok (.iload_n 1, 1) := by decide +kernel
theorem dX8_append_34 : decode cX8_append 34 = .ok (.iastore, 1) := by decide +kernel
theorem dX8_append_35 : decode cX8_append 35 = .ok (.aload_n 0, 1) := by decide +kernel
theorem dX8_append_36 : decode cX8_append 36 = .ok (.dup, 1) := by decide +kernel
theorem dX8_append_37 : decode cX8_append 37 = .ok (.getfield 103, 3) := by decide +kernel
theorem dX8_append_40 : decode cX8_append 40 = .ok (.iconst 1, 1) := by decide +kernel
theorem dX8_append_41 : decode cX8_append 41 = .ok (.iadd, 1) := by decide +kernel
theorem dX8_append_42 : decode cX8_append 42 = .ok (.putfield 103, 3) := by decide +kernel
theorem dX8_append_45 : decode cX8_append 45 = .ok (.aload_n 0, 1) := by decide +kernel
theorem dX8_append_46 : decode cX8_append 46 = .ok (.getfield 103, 3) := by decide +kernel
theorem dX8_append_49 : decode cX8_append 49 = .ok (.ireturn, 1) := by decide +kernel
theorem dX8_clear_0 : decode cX8_clear 0 = .ok (.aload_n 0, 1) := by decide +kernel
theorem dX8_clear_1 : decode cX8_clear 1 = .ok (.getfield 103, 3) := by decide +kernel
theorem dX8_clear_4 : decode cX8_clear 4 = .ok (.istore_n 1, 1) := by decide +kernel
theorem dX8_clear_5 : decode cX8_clear 5 = .ok (.aload_n 0, 1) := by decide +kernel
theorem dX8_clear_6 : decode cX8_clear 6 = .ok (.iconst 0, 1) := by decide +kernel
theorem dX8_clear_7 : decode cX8_clear 7 = .ok (.putfield 103, 3) := by decide +kernel
theorem dX8_clear_10 : decode cX8_clear 10 = .ok (.iload_n 1, 1) := by decide +kernel
theorem dX8_clear_11 : decode cX8_clear 11 = .ok (.ireturn, 1) := by decide +kernel
set_option maxRecDepth 20000 in
theorem ggX8_isAt_X8_in : GoodIn wsX8_isAt wsX8_in := goodIn_r _ [7] (by decide +kernel) (by decide +kernel)
set_option maxRecDepth 20000 in
theorem gX8_isAt_X8_in : GoodIn wsX8_isAt (va_wsS RX8 32 yX8_in wsX8_in) := goodIn_app (goodIn_of _ (by decide +kernel)) ggX8_isAt_X8_in
theorem dX8_isAt_0 : decode cX8_isAt 0 = .ok (.aload_n 0, 1) := by decide +kernel
theorem dX8_isAt_1 : decode cX8_isAt 1 = .ok (.getfield 106, 3) := by decide +kernel
theorem dX8_isAt_4 : decode cX8_isAt 4 = .ok (.aload_n 0, 1) := by decide +kernel
theorem dX8_isAt_5 : decode cX8_isAt 5 = .ok (.getfield 103, 3) := by decide +kernel
theorem dX8_isAt_8 : decode cX8_isAt 8 = .ok (.if_icmp .ge 24, 3) := by decide +kernel
theorem dX8_isAt_11 : decode cX8_isAt 11 = .ok (.aload_n 0, 1) := by decide +kernel
theorem dX8_isAt_12 : decode cX8_isAt 12 = .ok (.getfield 22, 3) := by decide +kernel
theorem dX8_isAt_15 : decode cX8_isAt 15 = .ok (.aload_n 0, 1) := by decide +kernel
theorem dX8_isAt_16 : decode cX8_isAt 16 = .ok (.getfield 106, 3) := by decide +kernel
theorem dX8_isAt_19 : decode cX8_isAt 19 = .ok (.iaload, 1) := by decide +kernel
theorem dX8_isAt_20 : decode cX8_isAt 20 = .ok (.iload_n 1, 1) := by decide +kernel
theorem dX8_isAt_21 : decode cX8_isAt 21 = .ok (.iload_n 2, 1) := by decide +kernel
theorem dX8_isAt_22 : decode cX8_isAt 22 = .ok (.invokestatic 32, 3) := by decide +kernel
theorem dX8_isAt_25 : decode cX8_isAt 25 = .ok (.ifCond .eq 7, 3) := by decide +kernel
theorem dX8_isAt_28 : decode cX8_isAt 28 = .ok (.iconst 1, 1) := by decide +kernel
theorem dX8_isAt_29 : decode cX8_isAt 29 = .ok (.goto 4, 3) := by decide +kernel
theorem dX8_isAt_32 : decode cX8_isAt 32 = .ok (.iconst 0, 1) := by decide +kernel
theorem dX8_isAt_33 : decode cX8_isAt 33 = .ok (.ireturn, 1) := by decide +kernel
set_option maxRecDepth 20000 in
theorem ggX8_sign_X8_isAt : GoodIn wsX8_sign wsX8_isAt := goodIn_r _ [6, 1, 7, 8, 9, 10, 5, 11, 12, 13, 14, 15, 16, 17, 18, 19, 20, 21, 22] (by decide +kernel) (by decide +kernel)
set_option maxRecDepth 20000 in
theorem gX8_sign_X8_isAt : GoodIn wsX8_sign (wsV RX8 109 RX8 yX8_isAt wsX8_isAt) := goodIn_app (goodIn_of _ (by decide +kernel)) ggX8_sign_X8_isAt
theorem dX8_sign_0 : decode cX8_sign 0 = .ok (.aload_n 0, 1) := by decide +kernel
theorem dX8_sign_1 : decode cX8_sign 1 = .ok (.iload_n 1, 1) := by decide +kernel
theorem dX8_sign_2 : decode cX8_sign 2 = .ok (.iload_n 1, 1) := by decide +kernel
theorem dX8_sign_3 : decode cX8_sign 3 = .ok (.invokevirtual 109, 3) := by decide +kernel
theorem dX8_sign_6 : decode cX8_sign 6 = .ok (.istore_n 2, 1) := by decide +kernel
theorem dX8_sign_7 : decode cX8_sign 7 = .ok (.aload_n 0, 1) := by decide +kernel
theorem dX8_sign_8 : decode cX8_sign 8 = .ok (.dup, 1) := by decide +kernel
theorem dX8_sign_9 : decode cX8_sign 9 = .ok (.getfield 106, 3) := by decide +kernel
theorem dX8_sign_12 : decode cX8_sign 12 = .ok (.iload_n 2, 1) := by decide +kernel
theorem dX8_sign_13 : decode cX8_sign 13 = .ok (.ifCond .eq 7, 3) := by decide +kernel
theorem dX8_sign_16 : decode cX8_sign 16 = .ok (.iconst 1, 1) := by decide +kernel
theorem dX8_sign_17 : decode cX8_sign 17 = .ok (.goto 4, 3) := by decide +kernel
theorem dX8_sign_20 : decode cX8_sign 20 = .ok (.iconst 0, 1) := by decide +kernel
theorem dX8_sign_21 : decode cX8_sign 21 = .ok (.iadd, 1) := by decide +kernel
theorem dX8_sign_22 : decode cX8_sign 22 = .ok (.putfield 106, 3) := by decide +kernel
theorem dX8_sign_25 : decode cX8_sign 25 = .ok (.iload_n 2, 1) := by decide +kernel
theorem dX8_sign_26 : decode cX8_sign 26 = .ok (.ireturn, 1) := by decide +kernel
theorem dX8_begins_0 : decode cX8_begins 0 = .ok (.iload_n 0, 1) := by decide +kernel
theorem dX8_begins_1 : decode cX8_begins 1 = .ok (.istore_n 3, 1) := by decide +kernel
theorem dX8_begins_2 : decode cX8_begins 2 = .ok (.iload_n 0, 1) := by decide +kernel
theorem dX8_begins_3 : decode cX8_begins 3 = .ok (.istore 4, 2) := by decide +kernel
theorem dX8_begins_5 : decode cX8_begins 5 = .ok (.iconst 0, 1) := by decide +kernel
theorem dX8_begins_6 : decode cX8_begins 6 = .ok (.istore 5, 2) := by decide +kernel
theorem dX8_begins_8 : decode cX8_begins 8 = .ok (.iload 5, 2) := by decide +kernel
theorem dX8_begins_10 : decode cX8_begins 10 = .ok (.iconst 3, 1) := by decide +kernel
theorem dX8_begins_11 : decode cX8_begins 11 = .ok (.if_icmp .ge 37, 3) := by decide +kernel
theorem dX8_begins_14 : decode cX8_begins 14 = .ok (.iload_n 3, 1) := by decide +kernel
theorem dX8_begins_15 : decode cX8_begins 15 = .ok (.iload_n 2, 1) := by decide +kernel
theorem dX8_begins_16 : decode cX8_begins 16 = .ok (.if_icmp .gt 11, 3) := by decide +kernel
theorem dX8_begins_19 : decode cX8_begins 19 = .ok (.iload 4, 2) := by decide +kernel
theorem dX8_begins_21 : decode cX8_begins 21 = .ok (.iload_n 1, 1) := by decide +kernel
theorem dX8_begins_22 : decode cX8_begins 22 = .ok (.if_icmp .lt 5, 3) := by decide +kernel
theorem dX8_begins_25 : decode cX8_begins 25 = .ok (.iconst 1, 1) := by decide +kernel
theorem dX8_begins_26 : decode cX8_begins 26 = .ok (.ireturn, 1) := by decide +kernel
theorem dX8_begins_27 : decode cX8_begins 27 = .ok (.bipush 10, 2) := by decide +kernel
theorem dX8_begins_29 : decode cX8_begins 29 = .ok (.iload_n 3, 1) := by decide +kernel
theorem dX8_begins_30 : decode cX8_begins 30 = .ok (.imul, 1) := by decide +kernel
theorem dX8_begins_31 : decode cX8_begins 31 = .ok (.istore_n 3, 1) := by decide +kernel
theorem dX8_begins_32 : decode cX8_begins 32 = .ok (.bipush 10, 2) := by decide +kernel
theorem dX8_begins_34 : decode cX8_begins 34 = .ok (.iload 4, 2) := by decide +kernel
theorem dX8_begins_36 : decode cX8_begins 36 = .ok (.imul, 1) := by decide +kernel
theorem dX8_begins_37 : decode cX8_begins 37 = .ok (.bipush 9, 2) := by decide +kernel
theorem dX8_begins_39 : decode cX8_begins 39 = .ok (.iadd, 1) := by decide +kernel
theorem dX8_begins_40 : decode cX8_begins 40 = .ok (.istore 4, 2) := by decide +kernel
theorem dX8_begins_42 : decode cX8_begins 42 = .ok (.iinc 5 1, 3) := by decide +kernel
theorem dX8_begins_45 : decode cX8_begins 45 = .ok (.goto (-37), 3) := by decide +kernel
theorem dX8_begins_48 : decode cX8_begins 48 = .ok (.iconst 0, 1) := by decide +kernel
theorem dX8_begins_49 : decode cX8_begins 49 = .ok (.ireturn, 1) := by decide +kernel
set_option maxRecDepth 20000 in
theorem ggX8_number_X8_isAt : GoodIn wsX8_number wsX8_isAt := goodIn_r _ [9, 2, 10, 1, 11, 12, 8, 13, 17, 18, 19, 20, 21, 22, 23, 24, 25, 26, 27] (by decide +kernel) (by decide +kernel)
set_option maxRecDepth 20000 in
theorem gX8_number_X8_isAt : GoodIn wsX8_number (wsV RX8 109 RX8 yX8_isAt wsX8_isAt) := goodIn_app (goodIn_of _ (by decide +kernel)) ggX8_number_X8_isAt
set_option maxRecDepth 20000 in
theorem ggX8_number_X8_begins : GoodIn wsX8_number wsX8_begins := goodIn_r _ [16] (by decide +kernel) (by decide +kernel)
set_option maxRecDepth 20000 in
theorem gX8_number_X8_begins : GoodIn wsX8_number (va_wsS RX8 113 yX8_begins wsX8_begins) := goodIn_app (goodIn_of _ (by decide +kernel)) ggX8_number_X8_begins
set_option maxRecDepth 20000 in
theorem ggX8_number_X8_in : GoodIn wsX8_number wsX8_in := goodIn_r _ [13] (by decide +kernel) (by decide +kernel)
set_option maxRecDepth 20000 in
theorem gX8_number_X8_in : GoodIn wsX8_number (va_wsS RX8 32 yX8_in wsX8_in) := goodIn_app (goodIn_of _ (by decide +kernel)) ggX8_number_X8_in
theorem dX8_number_0 : decode cX8_number 0 = .ok (.iconst 0, 1) := by decide +kernel
theorem dX8_number_1 : decode cX8_number 1 = .ok (.istore 4, 2) := by decide +kernel
theorem dX8_number_3 : decode cX8_number 3 = .ok (.iconst 0, 1) := by decide +kernel
theorem dX8_number_4 : decode cX8_number 4 = .ok (.istore 5, 2) := by decide +kernel
theorem dX8_number_6 : decode cX8_number 6 = .ok (.iconst 1, 1) := by decide +kernel
theorem dX8_number_7 : decode cX8_number 7 = .ok (.istore 6, 2) := by decide +kernel
theorem dX8_number_9 : decode cX8_number 9 = .ok (.iload 6, 2) := by decide +kernel
theorem dX8_number_11 : decode cX8_number 11 = .ok (.ifCond .eq 124, 3) := by decide +kernel
theorem dX8_number_14 : decode cX8_number 14 = .ok (.aload_n 0, 1) := by decide +kernel
theorem dX8_number_15 : decode cX8_number 15 = .ok (.bipush 48, 2) := by decide +kernel
theorem dX8_number_17 : decode cX8_number 17 = .ok (.bipush 57, 2) := by decide +kernel
theorem dX8_number_19 : decode cX8_number 19 = .ok (.invokevirtual 109, 3) := by decide +kernel
theorem dX8_number_22 : decode cX8_number 22 = .ok (.ifCond .eq 113, 3) := by decide +kernel
theorem dX8_number_25 : decode cX8_number 25 = .ok (.bipush 10, 2) := by decide +kernel
theorem dX8_number_27 : decode cX8_number 27 = .ok (.iload 4, 2) := by decide +kernel
theorem dX8_number_29 : decode cX8_number 29 = .ok (.imul, 1) := by decide +kernel
theorem dX8_number_30 : decode cX8_number 30 = .ok (.aload_n 0, 1) := by decide +kernel
theorem dX8_number_31 : decode cX8_number 31 = .ok (.getfield 22, 3) := by decide +kernel
theorem dX8_number_34 : decode cX8_number 34 = .ok (.aload_n 0, 1) := by decide +kernel
theorem dX8_number_35 : decode cX8_number 35 = .ok (.getfield 106, 3) := by decide +kernel
theorem dX8_number_38 : decode cX8_number 38 = .ok (.iaload, 1) := by decide +kernel
theorem dX8_number_39 : decode cX8_number 39 = .ok (.iadd, 1) := by decide +kernel
theorem dX8_number_40 : decode cX8_number 40 = .ok (.bipush 48, 2) := by decide +kernel
theorem dX8_number_42 : decode cX8_number 42 = .ok (.isub, 1) := by decide +kernel
theorem dX8_number_43 : decode cX8_number 43 = .ok (.istore 7, 2) := by decide +kernel
theorem dX8_number_45 : decode cX8_number 45 = .ok (.iload 5, 2) := by decide +kernel
theorem dX8_number_47 : decode cX8_number 47 = .ok (.ifCond .eq 8, 3) := by decide +kernel
theorem dX8_number_50 : decode cX8_number 50 = .ok (.iload 4, 2) := by decide +kernel
theorem dX8_number_52 : decode cX8_number 52 = .ok (.ifCond .le 29, 3) := by decide +kernel
theorem dX8_number_55 : decode cX8_number 55 = .ok (.iload 7, 2) := by decide +kernel
theorem dX8_number_57 : decode cX8_number 57 = .ok (.ifCond .ne 10, 3) := by decide +kernel
theorem dX8_number_60 : decode cX8_number 60 = .ok (.iload_n 2, 1) := by decide +kernel
theorem dX8_number_61 : decode cX8_number 61 = .ok (.ifCond .ne 20, 3) := by decide +kernel
theorem dX8_number_64 : decode cX8_number 64 = .ok (.goto 13, 3) := by decide +kernel
theorem dX8_number_67 : decode cX8_number 67 = .ok (.iload 7, 2) := by decide +kernel
theorem dX8_number_69 : decode cX8_number 69 = .ok (.iload_n 2, 1) := by decide +kernel
theorem dX8_number_70 : decode cX8_number 70 = .ok (.iload_n 3, 1) := by decide +kernel
theorem dX8_number_71 : decode cX8_number 71 = .ok (.invokestatic 113, 3) := by decide +kernel
theorem dX8_number_74 : decode cX8_number 74 = .ok (.ifCond .eq 7, 3) := by decide +kernel
theorem dX8_number_77 : decode cX8_number 77 = .ok (.iconst 1, 1) := by decide +kernel
theorem dX8_number_78 : decode cX8_number 78 = .ok (.goto 4, 3) := by decide +kernel
theorem dX8_number_81 : decode cX8_number 81 = .ok (.iconst 0, 1) := by decide +kernel
theorem dX8_number_82 : decode cX8_number 82 = .ok (.istore 6, 2) := by decide +kernel
theorem dX8_number_84 : decode cX8_number 84 = .ok (.iload 6, 2) := by decide +kernel
theorem dX8_number_86 : decode cX8_number 86 = .ok (.ifCond .eq 8, 3) := by decide +kernel
theorem dX8_number_89 : decode cX8_number 89 = .ok (.iload 7, 2) := by decide +kernel
theorem dX8_number_91 : decode cX8_number 91 = .ok (.goto 5, 3) := by decide +kernel
theorem dX8_number_94 : decode cX8_number 94 = .ok (.iload 4, 2) := by decide +kernel
theorem dX8_number_96 : decode cX8_number 96 = .ok (.istore 4, 2) := by decide +kernel
theorem dX8_number_98 : decode cX8_number 98 = .ok (.iload 5, 2) := by decide +kernel
theorem dX8_number_100 : decode cX8_number 100 = .ok (.iload 6, 2) := by decide +kernel
theorem dX8_number_102 : decode cX8_number 102 = .ok (.ifCond .eq 7, 3) := by decide +kernel
theorem dX8_number_105 : decode cX8_number 105 = .ok (.iconst 1, 1) := by decide +kernel
theorem dX8_number_106 : decode cX8_number 106 = .ok (.goto 4, 3) := by decide +kernel
theorem dX8_number_109 : decode cX8_number 109 = .ok (.iconst 0, 1) := by decide +kernel
theorem dX8_number_110 : decode cX8_number 110 = .ok (.iadd, 1) := by decide +kernel
theorem dX8_number_111 : decode cX8_number 111 = .ok (.istore 5, 2) := by decide +kernel
theorem dX8_number_113 : decode cX8_number 113 = .ok (.aload_n 0, 1) := by decide +kernel
theorem dX8_number_114 : decode cX8_number 114 = .ok (.dup, 1) := by decide +kernel
theorem dX8_number_115 : decode cX8_number 115 = .ok (.getfield 106, 3) := by decide +kernel
theorem dX8_number_118 : decode cX8_number 118 = .ok (.iload 6, 2) := by decide +kernel
theorem dX8_number_120 : decode cX8_number 120 = .ok (.ifCond .eq 7, 3) := by decide +kernel
theorem dX8_number_123 : decode cX8_number 123 = .ok (.iconst 1, 1) := by decide +kernel
theorem dX8_number_124 : decode cX8_number 124 = .ok (.goto 4, 3) := by decide +kernel
theorem dX8_number_127 : decode cX8_number 127 = .ok (.iconst 0, 1) := by decide +kernel
theorem dX8_number_128 : decode cX8_number 128 = .ok (.iadd, 1) := by decide +kernel
theorem dX8_number_129 : decode cX8_number 129 = .ok (.putfield 106, 3) := by decide +kernel
theorem dX8_number_132 : decode cX8_number 132 = .ok (.goto (-123), 3) := by decide +kernel
theorem dX8_number_135 : decode cX8_number 135 = .ok (.aload_n 0, 1) := by decide +kernel
theorem dX8_number_136 : decode cX8_number 136 = .ok (.getfield 25, 3) := by decide +kernel
theorem dX8_number_139 : decode cX8_number 139 = .ok (.iconst 5, 1) := by decide +kernel
theorem dX8_number_140 : decode cX8_number 140 = .ok (.aload_n 0, 1) := by decide +kernel
theorem dX8_number_141 : decode cX8_number 141 = .ok (.getfield 116, 3) := by decide +kernel
theorem dX8_number_144 : decode cX8_number 144 = .ok (.imul, 1) := by decide +kernel
theorem dX8_number_145 : decode cX8_number 145 = .ok (.iload_n 1, 1) := by decide +kernel
theorem dX8_number_146 : decode cX8_number 146 = .ok (.iadd, 1) := by decide +kernel
theorem dX8_number_147 : decode cX8_number 147 = .ok (.iload 4, 2) := by decide +kernel
theorem dX8_number_149 : decode cX8_number 149 = .ok (.iastore, 1) := by decide +kernel
theorem dX8_number_150 : decode cX8_number 150 = .ok (.iload 5, 2) := by decide +kernel
theorem dX8_number_152 : decode cX8_number 152 = .ok (.ifCond .le 17, 3) := by decide +kernel
theorem dX8_number_155 : decode cX8_number 155 = .ok (.iload 4, 2) := by decide +kernel
theorem dX8_number_157 : decode cX8_number 157 = .ok (.iload_n 2, 1) := by decide +kernel
theorem dX8_number_158 : decode cX8_number 158 = .ok (.iload_n 3, 1) := by decide +kernel
theorem dX8_number_159 : decode cX8_number 159 = .ok (.invokestatic 32, 3) := by decide +kernel
theorem dX8_number_162 : decode cX8_number 162 = .ok (.ifCond .eq 7, 3) := by decide +kernel
theorem dX8_number_165 : decode cX8_number 165 = .ok (.iconst 1, 1) := by decide +kernel
theorem dX8_number_166 : decode cX8_number 166 = .ok (.goto 4, 3) := by decide +kernel
theorem dX8_number_169 : decode cX8_number 169 = .ok (.iconst 0, 1) := by decide +kernel
theorem dX8_number_170 : decode cX8_number 170 = .ok (.ireturn, 1) := by decide +kernel
set_option maxRecDepth 20000 in
theorem ggX8_threes_X8_sign : GoodIn wsX8_threes wsX8_sign := goodIn_r _ [5, 6, 7, 8, 9, 4, 10, 11, 12, 13, 14, 15, 25, 26, 27, 28, 29, 30, 31, 32, 33, 34, 35] (by decide +kernel) (by decide +kernel)
set_option maxRecDepth 20000 in
theorem gX8_threes_X8_sign : GoodIn wsX8_threes (wsV RX8 119 RX8 yX8_sign wsX8_sign) := goodIn_app (goodIn_of _ (by decide +kernel)) ggX8_threes_X8_sign
set_option maxRecDepth 20000 in
theorem ggX8_threes_X8_number : GoodIn wsX8_threes wsX8_number := goodIn_r _ [19, 12, 6, 20, 21, 7, 8, 9, 4, 10, 11, 13, 14, 15, 22, 23, 24, 25, 26, 27, 28, 29, 30, 31, 32, 33, 34, 35] (by decide +kernel) (by decide +kernel)
set_option maxRecDepth 20000 in
theorem gX8_threes_X8_number : GoodIn wsX8_threes (wsV RX8 122 RX8 yX8_number wsX8_number) := goodIn_app (goodIn_of _ (by decide +kernel)) ggX8_threes_X8_number
theorem dX8_threes_0 : decode cX8_threes 0 = .ok (.aload_n 0, 1) := by decide +kernel
theorem dX8_threes_1 : decode cX8_threes 1 = .ok (.bipush 119, 2) := by decide +kernel
theorem dX8_threes_3 : decode cX8_threes 3 = .ok (.invokevirtual 119, 3) := by decide +kernel
theorem dX8_threes_6 : decode cX8_threes 6 = .ok (.ifCond .eq 60, 3) := by decide +kernel
theorem dX8_threes_9 : decode cX8_threes 9 = .ok (.aload_n 0, 1) := by decide +kernel
theorem dX8_threes_10 : decode cX8_threes 10 = .ok (.iconst 1, 1) := by decide +kernel
theorem dX8_threes_11 : decode cX8_threes 11 = .ok (.bipush 50, 2) := by decide +kernel
theorem dX8_threes_13 : decode cX8_threes 13 = .ok (.sipush 300, 3) := by decide +kernel
theorem dX8_threes_16 : decode cX8_threes 16 = .ok (.invokevirtual 122, 3) := by decide +kernel
theorem dX8_threes_19 : decode cX8_threes 19 = .ok (.ifCond .eq 47, 3) := by decide +kernel
theorem dX8_threes_22 : decode cX8_threes 22 = .ok (.aload_n 0, 1) := by decide +kernel
theorem dX8_threes_23 : decode cX8_threes 23 = .ok (.bipush 114, 2) := by decide +kernel
theorem dX8_threes_25 : decode cX8_threes 25 = .ok (.invokevirtual 119, 3) := by decide +kernel
theorem dX8_threes_28 : decode cX8_threes 28 = .ok (.ifCond .eq 38, 3) := by decide +kernel
theorem dX8_threes_31 : decode cX8_threes 31 = .ok (.aload_n 0, 1) := by decide +kernel
theorem dX8_threes_32 : decode cX8_threes 32 = .ok (.iconst 2, 1) := by decide +kernel
theorem dX8_threes_33 : decode cX8_threes 33 = .ok (.iconst 0, 1) := by decide +kernel
theorem dX8_threes_34 : decode cX8_threes 34 = .ok (.bipush 100, 2) := by decide +kernel
theorem dX8_threes_36 : decode cX8_threes 36 = .ok (.invokevirtual 122, 3) := by decide +kernel
theorem dX8_threes_39 : decode cX8_threes 39 = .ok (.ifCond .eq 27, 3) := by decide +kernel
theorem dX8_threes_42 : decode cX8_threes 42 = .ok (.aload_n 0, 1) := by decide +kernel
theorem dX8_threes_43 : decode cX8_threes 43 = .ok (.bipush 98, 2) := by decide +kernel
theorem dX8_threes_45 : decode cX8_threes 45 = .ok (.invokevirtual 119, 3) := by decide +kernel
theorem dX8_threes_48 : decode cX8_threes 48 = .ok (.ifCond .eq 18, 3) := by decide +kernel
theorem dX8_threes_51 : decode cX8_threes 51 = .ok (.aload_n 0, 1) := by decide +kernel
theorem dX8_threes_52 : decode cX8_threes 52 = .ok (.iconst 3, 1) := by decide +kernel
theorem dX8_threes_53 : decode cX8_threes 53 = .ok (.iconst 0, 1) := by decide +kernel
theorem dX8_threes_54 : decode cX8_threes 54 = .ok (.bipush 9, 2) := by decide +kernel
theorem dX8_threes_56 : decode cX8_threes 56 = .ok (.invokevirtual 122, 3) := by decide +kernel
theorem dX8_threes_59 : decode cX8_threes 59 = .ok (.ifCond .eq 7, 3) := by decide +kernel
theorem dX8_threes_62 : decode cX8_threes 62 = .ok (.iconst 1, 1) := by decide +kernel
theorem dX8_threes_63 : decode cX8_threes 63 = .ok (.goto 4, 3) := by decide +kernel
theorem dX8_threes_66 : decode cX8_threes 66 = .ok (.iconst 0, 1) := by decide +kernel
theorem dX8_threes_67 : decode cX8_threes 67 = .ok (.ireturn, 1) := by decide +kernel
set_option maxRecDepth 20000 in
theorem ggX8_part_X8_isAt : GoodIn wsX8_part wsX8_isAt := goodIn_r _ [9, 4, 10, 3, 11, 12, 8, 13, 29, 30, 31, 32, 33, 34, 35, 36, 37, 38, 39] (by decide +kernel) (by decide +kernel)
set_option maxRecDepth 20000 in
theorem gX8_part_X8_isAt : GoodIn wsX8_part (wsV RX8 109 RX8 yX8_isAt wsX8_isAt) := goodIn_app (goodIn_of _ (by decide +kernel)) ggX8_part_X8_isAt
set_option maxRecDepth 20000 in
theorem ggX8_part_X8_threes : GoodIn wsX8_part wsX8_threes := goodIn_r _ [17, 18, 19, 20, 8, 21, 4, 5, 6, 7, 9, 10, 3, 11, 12, 13, 22, 23, 24, 25, 1, 2, 26, 27, 28, 29, 30, 31, 32, 33, 34, 35, 36, 37, 38, 39] (by decide +kernel) (by decide +kernel)
set_option maxRecDepth 20000 in
theorem gX8_part_X8_threes : GoodIn wsX8_part (wsV RX8 125 RX8 yX8_threes wsX8_threes) := goodIn_app (goodIn_of _ (by decide +kernel)) ggX8_part_X8_threes
theorem dX8_part_0 : decode cX8_part 0 = .ok (.aload_n 0, 1) := by decide +kernel
theorem dX8_part_1 : decode cX8_part 1 = .ok (.bipush 120, 2) := by decide +kernel
theorem dX8_part_3 : decode cX8_part 3 = .ok (.bipush 120, 2) := by decide +kernel
theorem dX8_part_5 : decode cX8_part 5 = .ok (.invokevirtual 109, 3) := by decide +kernel
theorem dX8_part_8 : decode cX8_part 8 = .ok (.ifCond .ne 20, 3) := by decide +kernel
theorem dX8_part_11 : decode cX8_part 11 = .ok (.iload_n 1, 1) := by decide +kernel
theorem dX8_part_12 : decode cX8_part 12 = .ok (.bipush 119, 2) := by decide +kernel
theorem dX8_part_14 : decode cX8_part 14 = .ok (.if_icmp .ne 73, 3) := by decide +kernel
theorem dX8_part_17 : decode cX8_part 17 = .ok (.aload_n 0, 1) := by decide +kernel
theorem dX8_part_18 : decode cX8_part 18 = .ok (.bipush 38, 2) := by decide +kernel
theorem dX8_part_20 : decode cX8_part 20 = .ok (.bipush 38, 2) := by decide +kernel
theorem dX8_part_22 : decode cX8_part 22 = .ok (.invokevirtual 109, 3) := by decide +kernel
theorem dX8_part_25 : decode cX8_part 25 = .ok (.ifCond .eq 62, 3) := by decide +kernel
theorem dX8_part_28 : decode cX8_part 28 = .ok (.aload_n 0, 1) := by decide +kernel
theorem dX8_part_29 : decode cX8_part 29 = .ok (.getfield 25, 3) := by decide +kernel
theorem dX8_part_32 : decode cX8_part 32 = .ok (.iconst 5, 1) := by decide +kernel
theorem dX8_part_33 : decode cX8_part 33 = .ok (.aload_n 0, 1) := by decide +kernel
theorem dX8_part_34 : decode cX8_part 34 = .ok (.getfield 116, 3) := by decide +kernel
theorem dX8_part_37 : decode cX8_part 37 = .ok (.imul, 1) := by decide +kernel
theorem dX8_part_38 : decode cX8_part 38 = .ok (.aload_n 0, 1) := by decide +kernel
theorem dX8_part_39 : decode cX8_part 39 = .ok (.getfield 22, 3) := by decide +kernel
theorem dX8_part_42 : decode cX8_part 42 = .ok (.aload_n 0, 1) := by decide +kernel
theorem dX8_part_43 : decode cX8_part 43 = .ok (.getfield 106, 3) := by decide +kernel
theorem dX8_part_46 : decode cX8_part 46 = .ok (.iaload, 1) := by decide +kernel
theorem dX8_part_47 : decode cX8_part 47 = .ok (.iastore, 1) := by decide +kernel
theorem dX8_part_48 : decode cX8_part 48 = .ok (.aload_n 0, 1) := by decide +kernel
theorem dX8_part_49 : decode cX8_part 49 = .ok (.dup, 1) := by decide +kernel
theorem dX8_part_50 : decode cX8_part 50 = .ok (.getfield 106, 3) := by decide +kernel
theorem dX8_part_53 : decode cX8_part 53 = .ok (.iconst 1, 1) := by decide +kernel
theorem dX8_part_54 : decode cX8_part 54 = .ok (.iadd, 1) := by decide +kernel
theorem dX8_part_55 : decode cX8_part 55 = .ok (.putfield 106, 3) := by decide +kernel
theorem dX8_part_58 : decode cX8_part 58 = .ok (.aload_n 0, 1) := by decide +kernel
theorem dX8_part_59 : decode cX8_part 59 = .ok (.getfield 25, 3) := by decide +kernel
theorem dX8_part_62 : decode cX8_part 62 = .ok (.iconst 5, 1) := by decide +kernel
theorem dX8_part_63 : decode cX8_part 63 = .ok (.aload_n 0, 1) := by decide +kernel
theorem dX8_part_64 : decode cX8_part 64 = .ok (.getfield 116, 3) := by decide +kernel
theorem dX8_part_67 : decode cX8_part 67 = .ok (.imul, 1) := by decide +kernel
theorem dX8_part_68 : decode cX8_part 68 = .ok (.iaload, 1) := by decide +kernel
theorem dX8_part_69 : decode cX8_part 69 = .ok (.bipush 120, 2) := by decide +kernel
theorem dX8_part_71 : decode cX8_part 71 = .ok (.if_icmp .eq 10, 3) := by decide +kernel
theorem dX8_part_74 : decode cX8_part 74 = .ok (.aload_n 0, 1) := by decide +kernel
theorem dX8_part_75 : decode cX8_part 75 = .ok (.invokevirtual 125, 3) := by decide +kernel
theorem dX8_part_78 : decode cX8_part 78 = .ok (.ifCond .eq 7, 3) := by decide +kernel
theorem dX8_part_81 : decode cX8_part 81 = .ok (.iconst 1, 1) := by decide +kernel
theorem dX8_part_82 : decode cX8_part 82 = .ok (.goto 4, 3) := by decide +kernel
theorem dX8_part_85 : decode cX8_part 85 = .ok (.iconst 0, 1) := by decide +kernel
theorem dX8_part_86 : decode cX8_part 86 = .ok (.ireturn, 1) := by decide +kernel
theorem dX8_part_87 : decode cX8_part 87 = .ok (.aload_n 0, 1) := by decide +kernel
theorem dX8_part_88 : decode cX8_part 88 = .ok (.getfield 25, 3) := by decide +kernel
theorem dX8_part_91 : decode cX8_part 91 = .ok (.iconst 5, 1) := by decide +kernel
theorem dX8_part_92 : decode cX8_part 92 = .ok (.aload_n 0, 1) := by decide +kernel
theorem dX8_part_93 : decode cX8_part 93 = .ok (.getfield 116, 3) := by decide +kernel
theorem dX8_part_96 : decode cX8_part 96 = .ok (.imul, 1) := by decide +kernel
theorem dX8_part_97 : decode cX8_part 97 = .ok (.bipush 119, 2) := by decide +kernel
theorem dX8_part_99 : decode cX8_part 99 = .ok (.iastore, 1) := by decide +kernel
theorem dX8_part_100 : decode cX8_part 100 = .ok (.aload_n 0, 1) := by decide +kernel
theorem dX8_part_101 : decode cX8_part 101 = .ok (.invokevirtual 125, 3) := by decide +kernel
theorem dX8_part_104 : decode cX8_part 104 = .ok (.ireturn, 1) := by decide +kernel
set_option maxRecDepth 20000 in
theorem ggX8_ruled_X8_threes : GoodIn wsX8_ruled wsX8_threes := goodIn_r _ [5, 6, 7, 8, 4, 9, 10, 11, 12, 13, 14, 15, 16, 17, 18, 19, 20, 21, 22, 23, 24, 25, 26, 27, 28, 29, 30, 31, 32, 33, 34, 35, 36, 37, 38, 39] (by decide +kernel) (by decide +kernel)
set_option maxRecDepth 20000 in
theorem gX8_ruled_X8_threes : GoodIn wsX8_ruled (wsV RX8 125 RX8 yX8_threes wsX8_threes) := goodIn_app (goodIn_of _ (by decide +kernel)) ggX8_ruled_X8_threes
set_option maxRecDepth 20000 in
theorem ggX8_ruled_X8_sign : GoodIn wsX8_ruled wsX8_sign := goodIn_r _ [9, 10, 11, 12, 13, 4, 14, 15, 16, 17, 18, 19, 29, 30, 31, 32, 33, 34, 35, 36, 37, 38, 39] (by decide +kernel) (by decide +kernel)
set_option maxRecDepth 20000 in
theorem gX8_ruled_X8_sign : GoodIn wsX8_ruled (wsV RX8 119 RX8 yX8_sign wsX8_sign) := goodIn_app (goodIn_of _ (by decide +kernel)) ggX8_ruled_X8_sign
set_option maxRecDepth 20000 in
theorem ggX8_ruled_X8_number : GoodIn wsX8_ruled wsX8_number := goodIn_r _ [23, 16, 10, 24, 25, 11, 12, 13, 4, 14, 15, 17, 18, 19, 26, 27, 28, 29, 30, 31, 32, 33, 34, 35, 36, 37, 38, 39] (by decide +kernel) (by decide +kernel)
set_option maxRecDepth 20000 in
theorem gX8_ruled_X8_number : GoodIn wsX8_ruled (wsV RX8 122 RX8 yX8_number wsX8_number) := goodIn_app (goodIn_of _ (by decide +kernel)) ggX8_ruled_X8_number
theorem dX8_ruled_0 : decode cX8_ruled 0 = .ok (.aload_n 0, 1) := by decide +kernel
theorem dX8_ruled_1 : decode cX8_ruled 1 = .ok (.invokevirtual 125, 3) := by decide +kernel
theorem dX8_ruled_4 : decode cX8_ruled 4 = .ok (.ifCond .eq 26, 3) := by decide +kernel
theorem dX8_ruled_7 : decode cX8_ruled 7 = .ok (.aload_n 0, 1) := by decide +kernel
theorem dX8_ruled_8 : decode cX8_ruled 8 = .ok (.bipush 62, 2) := by decide +kernel
theorem dX8_ruled_10 : decode cX8_ruled 10 = .ok (.invokevirtual 119, 3) := by decide +kernel
theorem dX8_ruled_13 : decode cX8_ruled 13 = .ok (.ifCond .eq 17, 3) := by decide +kernel
theorem dX8_ruled_16 : decode cX8_ruled 16 = .ok (.aload_n 0, 1) := by decide +kernel
theorem dX8_ruled_17 : decode cX8_ruled 17 = .ok (.iconst 4, 1) := by decide +kernel
theorem dX8_ruled_18 : decode cX8_ruled 18 = .ok (.iconst 0, 1) := by decide +kernel
theorem dX8_ruled_19 : decode cX8_ruled 19 = .ok (.iconst 3, 1) := by decide +kernel
theorem dX8_ruled_20 : decode cX8_ruled 20 = .ok (.invokevirtual 122, 3) := by decide +kernel
theorem dX8_ruled_23 : decode cX8_ruled 23 = .ok (.ifCond .eq 7, 3) := by decide +kernel
theorem dX8_ruled_26 : decode cX8_ruled 26 = .ok (.iconst 1, 1) := by decide +kernel
theorem dX8_ruled_27 : decode cX8_ruled 27 = .ok (.goto 4, 3) := by decide +kernel
theorem dX8_ruled_30 : decode cX8_ruled 30 = .ok (.iconst 0, 1) := by decide +kernel
theorem dX8_ruled_31 : decode cX8_ruled 31 = .ok (.ireturn, 1) := by decide +kernel
set_option maxRecDepth 20000 in
theorem ggX8_fault_X8_in : GoodIn wsX8_fault wsX8_in := goodIn_r _ [8] (by decide +kernel) (by decide +kernel)
set_option maxRecDepth 20000 in
theorem gX8_fault_X8_in : GoodIn wsX8_fault (va_wsS RX8 32 yX8_in wsX8_in) := goodIn_app (goodIn_of _ (by decide +kernel)) ggX8_fault_X8_in
set_option maxRecDepth 20000 in
theorem ggX8_fault_X8_part : GoodIn wsX8_fault wsX8_part := goodIn_r _ [12, 3, 2, 13, 1, 14, 15, 16, 7, 17, 4, 5, 6, 8, 18, 19, 20, 21, 22, 23, 24, 25, 26, 27, 28, 29, 30, 31, 32, 37, 38, 39, 40, 41, 42, 43, 44, 45, 46, 47] (by decide +kernel) (by decide +kernel)
set_option maxRecDepth 20000 in
theorem gX8_fault_X8_part : GoodIn wsX8_fault (wsV RX8 129 RX8 yX8_part wsX8_part) := goodIn_app (goodIn_of _ (by decide +kernel)) ggX8_fault_X8_part
set_option maxRecDepth 20000 in
theorem ggX8_fault_X8_ruled : GoodIn wsX8_fault wsX8_ruled := goodIn_r _ [36, 18, 19, 20, 7, 21, 22, 23, 24, 25, 1, 14, 15, 16, 17, 4, 13, 5, 6, 8, 26, 27, 28, 29, 3, 2, 30, 31, 32, 37, 38, 39, 40, 41, 42, 43, 44, 45, 46, 47] (by decide +kernel) (by decide +kernel)
set_option maxRecDepth 20000 in
theorem gX8_fault_X8_ruled : GoodIn wsX8_fault (wsV RX8 132 RX8 yX8_ruled wsX8_ruled) := goodIn_app (goodIn_of _ (by decide +kernel)) ggX8_fault_X8_ruled
set_option maxRecDepth 20000 in
theorem ggX8_fault_X8_sign : GoodIn wsX8_fault wsX8_sign := goodIn_r _ [25, 1, 14, 15, 16, 7, 17, 4, 13, 5, 6, 8, 37, 38, 39, 40, 41, 42, 43, 44, 45, 46, 47] (by decide +kernel) (by decide +kernel)
set_option maxRecDepth 20000 in
theorem gX8_fault_X8_sign : GoodIn wsX8_fault (wsV RX8 119 RX8 yX8_sign wsX8_sign) := goodIn_app (goodIn_of _ (by decide +kernel)) ggX8_fault_X8_sign
theorem dX8_fault_0 : decode cX8_fault 0 = .ok (.iload_n 1, 1) := by decide +kernel
theorem dX8_fault_1 : decode cX8_fault 1 = .ok (.iconst 0, 1) := by decide +kernel
theorem dX8_fault_2 : decode cX8_fault 2 = .ok (.iconst 1, 1) := by decide +kernel
theorem dX8_fault_3 : decode cX8_fault 3 = .ok (.invokestatic 32, 3) := by decide +kernel
theorem dX8_fault_6 : decode cX8_fault 6 = .ok (.ifCond .ne 5, 3) := by decide +kernel
theorem dX8_fault_9 : decode cX8_fault 9 = .ok (.iconst (-1), 1) := by decide +kernel
theorem dX8_fault_10 : decode cX8_fault 10 = .ok (.ireturn, 1) := by decide +kernel
theorem dX8_fault_11 : decode cX8_fault 11 = .ok (.aload_n 0, 1) := by decide +kernel
theorem dX8_fault_12 : decode cX8_fault 12 = .ok (.iconst 0, 1) := by decide +kernel
theorem dX8_fault_13 : decode cX8_fault 13 = .ok (.putfield 106, 3) := by decide +kernel
theorem dX8_fault_16 : decode cX8_fault 16 = .ok (.aload_n 0, 1) := by decide +kernel
theorem dX8_fault_17 : decode cX8_fault 17 = .ok (.iconst 0, 1) := by decide +kernel
theorem dX8_fault_18 : decode cX8_fault 18 = .ok (.putfield 116, 3) := by decide +kernel
theorem dX8_fault_21 : decode cX8_fault 21 = .ok (.iconst 1, 1) := by decide +kernel
theorem dX8_fault_22 : decode cX8_fault 22 = .ok (.istore_n 2, 1) := by decide +kernel
theorem dX8_fault_23 : decode cX8_fault 23 = .ok (.iload_n 2, 1) := by decide +kernel
theorem dX8_fault_24 : decode cX8_fault 24 = .ok (.ifCond .eq 76, 3) := by decide +kernel
theorem dX8_fault_27 : decode cX8_fault 27 = .ok (.aload_n 0, 1) := by decide +kernel
theorem dX8_fault_28 : decode cX8_fault 28 = .ok (.getfield 116, 3) := by decide +kernel
theorem dX8_fault_31 : decode cX8_fault 31 = .ok (.ifCond .ne 8, 3) := by decide +kernel
theorem dX8_fault_34 : decode cX8_fault 34 = .ok (.bipush 120, 2) := by decide +kernel
theorem dX8_fault_36 : decode cX8_fault 36 = .ok (.goto 16, 3) := by decide +kernel
theorem dX8_fault_39 : decode cX8_fault 39 = .ok (.aload_n 0, 1) := by decide +kernel
theorem dX8_fault_40 : decode cX8_fault 40 = .ok (.getfield 25, 3) := by decide +kernel
theorem dX8_fault_43 : decode cX8_fault 43 = .ok (.iconst 5, 1) := by decide +kernel
theorem dX8_fault_44 : decode cX8_fault 44 = .ok (.aload_n 0, 1) := by decide +kernel
theorem dX8_fault_45 : decode cX8_fault 45 = .ok (.getfield 116, 3) := by decide +kernel
theorem dX8_fault_48 : decode cX8_fault 48 = .ok (.imul, 1) := by decide +kernel
theorem dX8_fault_49 : decode cX8_fault 49 = .ok (.iconst 5, 1) := by decide +kernel
theorem dX8_fault_50 : decode cX8_fault 50 = .ok (.isub, 1) := by decide +kernel
theorem dX8_fault_51 : decode cX8_fault 51 = .ok (.iaload, 1) := by decide +kernel
theorem dX8_fault_52 : decode cX8_fault 52 = .ok (.istore_n 3, 1) := by decide +kernel
theorem dX8_fault_53 : decode cX8_fault 53 = .ok (.iload_n 1, 1) := by decide +kernel
theorem dX8_fault_54 : decode cX8_fault 54 = .ok (.ifCond .ne 14, 3) := by decide +kernel
theorem dX8_fault_57 : decode cX8_fault 57 = .ok (.aload_n 0, 1) := by decide +kernel
theorem dX8_fault_58 : decode cX8_fault 58 = .ok (.iload_n 3, 1) := by decide +kernel
theorem dX8_fault_59 : decode cX8_fault 59 = .ok (.invokevirtual 129, 3) := by decide +kernel
theorem dX8_fault_62 : decode cX8_fault 62 = .ok (.ifCond .eq 13, 3) := by decide +kernel
theorem dX8_fault_65 : decode cX8_fault 65 = .ok (.goto 15, 3) := by decide +kernel
theorem dX8_fault_68 : decode cX8_fault 68 = .ok (.aload_n 0, 1) := by decide +kernel
theorem dX8_fault_69 : decode cX8_fault 69 = .ok (.invokevirtual 132, 3) := by decide +kernel
theorem dX8_fault_72 : decode cX8_fault 72 = .ok (.ifCond .ne 8, 3) := by decide +kernel
theorem dX8_fault_75 : decode cX8_fault 75 = .ok (.aload_n 0, 1) := by decide +kernel
theorem dX8_fault_76 : decode cX8_fault 76 = .ok (.getfield 106, 3) := by decide +kernel
theorem dX8_fault_79 : decode cX8_fault 79 = .ok (.ireturn, 1) := by decide +kernel
theorem dX8_fault_80 : decode cX8_fault 80 = .ok (.aload_n 0, 1) := by decide +kernel
theorem dX8_fault_81 : decode cX8_fault 81 = .ok (.dup, 1) := by decide +kernel
theorem dX8_fault_82 : decode cX8_fault 82 = .ok (.getfield 116, 3) := by decide +kernel
theorem dX8_fault_85 : decode cX8_fault 85 = .ok (.iconst 1, 1) := by decide +kernel
theorem dX8_fault_86 : decode cX8_fault 86 = .ok (.iadd, 1) := by decide +kernel
theorem dX8_fault_87 : decode cX8_fault 87 = .ok (.putfield 116, 3) := by decide +kernel
theorem dX8_fault_90 : decode cX8_fault 90 = .ok (.aload_n 0, 1) := by decide +kernel
theorem dX8_fault_91 : decode cX8_fault 91 = .ok (.bipush 44, 2) := by decide +kernel
theorem dX8_fault_93 : decode cX8_fault 93 = .ok (.invokevirtual 119, 3) := by decide +kernel
theorem dX8_fault_96 : decode cX8_fault 96 = .ok (.istore_n 2, 1) := by decide +kernel
theorem dX8_fault_97 : decode cX8_fault 97 = .ok (.goto (-74), 3) := by decide +kernel
theorem dX8_fault_100 : decode cX8_fault 100 = .ok (.aload_n 0, 1) := by decide +kernel
theorem dX8_fault_101 : decode cX8_fault 101 = .ok (.getfield 106, 3) := by decide +kernel
theorem dX8_fault_104 : decode cX8_fault 104 = .ok (.aload_n 0, 1) := by decide +kernel
theorem dX8_fault_105 : decode cX8_fault 105 = .ok (.getfield 103, 3) := by decide +kernel
theorem dX8_fault_108 : decode cX8_fault 108 = .ok (.if_icmp .ne 8, 3) := by decide +kernel
theorem dX8_fault_111 : decode cX8_fault 111 = .ok (.bipush (-4), 2) := by decide +kernel
theorem dX8_fault_113 : decode cX8_fault 113 = .ok (.goto 7, 3) := by decide +kernel
theorem dX8_fault_116 : decode cX8_fault 116 = .ok (.aload_n 0, 1) := by decide +kernel
theorem dX8_fault_117 : decode cX8_fault 117 = .ok (.getfield 106, 3) := by decide +kernel
theorem dX8_fault_120 : decode cX8_fault 120 = .ok (.ireturn, 1) := by decide +kernel
set_option maxRecDepth 20000 in
theorem ggX8_rules_X8_fault : GoodIn wsX8_rules wsX8_fault := goodIn_r _ [9, 10, 1, 3, 4, 11, 12, 8, 13, 14, 15, 16, 17, 18, 19, 20, 21, 22, 23, 24, 25, 26, 27, 28, 29, 30, 31, 32, 33, 34, 35, 36, 37, 38, 39, 40, 41, 51, 52, 53, 54, 55, 56, 57, 58, 59, 60, 61] (by decide +kernel) (by decide +kernel)
set_option maxRecDepth 20000 in
theorem gX8_rules_X8_fault : GoodIn wsX8_rules (wsV RX8 135 RX8 yX8_fault wsX8_fault) := goodIn_app (goodIn_of _ (by decide +kernel)) ggX8_rules_X8_fault
set_option maxRecDepth 20000 in
theorem ggX8_rules_X8_changes : GoodIn wsX8_rules wsX8_changes := goodIn_r _ [45, 46, 47, 2, 51, 52, 53, 54, 55, 56, 57, 58, 59, 60, 61] (by decide +kernel) (by decide +kernel)
set_option maxRecDepth 20000 in
theorem gX8_rules_X8_changes : GoodIn wsX8_rules (wsV RX8 89 RX8 yX8_changes wsX8_changes) := goodIn_app (goodIn_of _ (by decide +kernel)) ggX8_rules_X8_changes
set_option maxRecDepth 20000 in
theorem ggX8_rules_X8_ruleAt : GoodIn wsX8_rules wsX8_ruleAt := goodIn_r _ [50] (by decide +kernel) (by decide +kernel)
set_option maxRecDepth 20000 in
theorem gX8_rules_X8_ruleAt : GoodIn wsX8_rules (va_wsS RX8 50 yX8_ruleAt wsX8_ruleAt) := goodIn_app (goodIn_of _ (by decide +kernel)) ggX8_rules_X8_ruleAt
