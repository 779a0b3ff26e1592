theorem dX8_rules_0 : decode cX8_rules 0 = .ok (.aload_n 0, 1) := by decide +kernel
theorem dX8_rules_1 : decode cX8_rules 1 = .ok (.iconst 1, 1) := by decide +kernel
theorem dX8_rules_2 : decode cX8_rules 2 = .ok (.invokevirtual 135, 3) := by decide +kernel
theorem dX8_rules_5 : decode cX8_rules 5 = .ok (.bipush (-4), 2) := by decide +kernel
theorem dX8_rules_7 : decode cX8_rules 7 = .ok (.if_icmp .eq 6, 3) := by decide +kernel
theorem dX8_rules_10 : decode cX8_rules 10 = .ok (.bipush (-2), 2) := by decide +kernel
theorem dX8_rules_12 : decode cX8_rules 12 = .ok (.ireturn, 1) := by decide +kernel
theorem dX8_rules_13 : decode cX8_rules 13 = .ok (.aload_n 0, 1) := by decide +kernel
theorem dX8_rules_14 : decode cX8_rules 14 = .ok (.getfield 116, 3) := by decide +kernel
theorem dX8_rules_17 : decode cX8_rules 17 = .ok (.bipush 8, 2) := by decide +kernel
theorem dX8_rules_19 : decode cX8_rules 19 = .ok (.if_icmp .le 6, 3) := by decide +kernel
theorem dX8_rules_22 : decode cX8_rules 22 = .ok (.bipush (-3), 2) := by decide +kernel
theorem dX8_rules_24 : decode cX8_rules 24 = .ok (.ireturn, 1) := by decide +kernel
theorem dX8_rules_25 : decode cX8_rules 25 = .ok (.aload_n 0, 1) := by decide +kernel
theorem dX8_rules_26 : decode cX8_rules 26 = .ok (.invokevirtual 89, 3) := by decide +kernel
theorem dX8_rules_29 : decode cX8_rules 29 = .ok (.iconst 0, 1) := by decide +kernel
theorem dX8_rules_30 : decode cX8_rules 30 = .ok (.istore_n 1, 1) := by decide +kernel
theorem dX8_rules_31 : decode cX8_rules 31 = .ok (.iload_n 1, 1) := by decide +kernel
theorem dX8_rules_32 : decode cX8_rules 32 = .ok (.aload_n 0, 1) := by decide +kernel
theorem dX8_rules_33 : decode cX8_rules 33 = .ok (.getfield 116, 3) := by decide +kernel
theorem dX8_rules_36 : decode cX8_rules 36 = .ok (.if_icmp .ge 45, 3) := by decide +kernel
theorem dX8_rules_39 : decode cX8_rules 39 = .ok (.iconst 0, 1) := by decide +kernel
theorem dX8_rules_40 : decode cX8_rules 40 = .ok (.istore_n 2, 1) := by decide +kernel
theorem dX8_rules_41 : decode cX8_rules 41 = .ok (.iload_n 2, 1) := by decide +kernel
theorem dX8_rules_42 : decode cX8_rules 42 = .ok (.iconst 4, 1) := by decide +kernel
theorem dX8_rules_43 : decode cX8_rules 43 = .ok (.if_icmp .ge 32, 3) := by decide +kernel
theorem dX8_rules_46 : decode cX8_rules 46 = .ok (.aload_n 0, 1) := by decide +kernel
theorem dX8_rules_47 : decode cX8_rules 47 = .ok (.getfield 7, 3) := by decide +kernel
theorem dX8_rules_50 : decode cX8_rules 50 = .ok (.iload_n 1, 1) := by decide +kernel
theorem dX8_rules_51 : decode cX8_rules 51 = .ok (.invokestatic 50, 3) := by decide +kernel
theorem dX8_rules_54 : decode cX8_rules 54 = .ok (.iload_n 2, 1) := by decide +kernel
theorem dX8_rules_55 : decode cX8_rules 55 = .ok (.iadd, 1) := by decide +kernel
theorem dX8_rules_56 : decode cX8_rules 56 = .ok (.aload_n 0, 1) := by decide +kernel
theorem dX8_rules_57 : decode cX8_rules 57 = .ok (.getfield 25, 3) := by decide +kernel
theorem dX8_rules_60 : decode cX8_rules 60 = .ok (.iconst 5, 1) := by decide +kernel
theorem dX8_rules_61 : decode cX8_rules 61 = .ok (.iload_n 1, 1) := by decide +kernel
theorem dX8_rules_62 : decode cX8_rules 62 = .ok (.imul, 1) := by decide +kernel
theorem dX8_rules_63 : decode cX8_rules 63 = .ok (.iconst 1, 1) := by decide +kernel
theorem dX8_rules_64 : decode cX8_rules 64 = .ok (.iadd, 1) := by decide +kernel
theorem dX8_rules_65 : decode cX8_rules 65 = .ok (.iload_n 2, 1) := by decide +kernel
theorem dX8_rules_66 : decode cX8_rules 66 = .ok (.iadd, 1) := by decide +kernel
theorem dX8_rules_67 : decode cX8_rules 67 = .ok (.iaload, 1) := by decide +kernel
theorem dX8_rules_68 : decode cX8_rules 68 = .ok (.iastore, 1) := by decide +kernel
theorem dX8_rules_69 : decode cX8_rules 69 = .ok (.iinc 2 1, 3) := by decide +kernel
theorem dX8_rules_72 : decode cX8_rules 72 = .ok (.goto (-31), 3) := by decide +kernel
theorem dX8_rules_75 : decode cX8_rules 75 = .ok (.iinc 1 1, 3) := by decide +kernel
theorem dX8_rules_78 : decode cX8_rules 78 = .ok (.goto (-47), 3) := by decide +kernel
theorem dX8_rules_81 : decode cX8_rules 81 = .ok (.aload_n 0, 1) := by decide +kernel
theorem dX8_rules_82 : decode cX8_rules 82 = .ok (.getfield 7, 3) := by decide +kernel
theorem dX8_rules_85 : decode cX8_rules 85 = .ok (.iconst 4, 1) := by decide +kernel
theorem dX8_rules_86 : decode cX8_rules 86 = .ok (.aload_n 0, 1) := by decide +kernel
theorem dX8_rules_87 : decode cX8_rules 87 = .ok (.getfield 116, 3) := by decide +kernel
theorem dX8_rules_90 : decode cX8_rules 90 = .ok (.iastore, 1) := by decide +kernel
theorem dX8_rules_91 : decode cX8_rules 91 = .ok (.aload_n 0, 1) := by decide +kernel
theorem dX8_rules_92 : decode cX8_rules 92 = .ok (.iconst 0, 1) := by decide +kernel
theorem dX8_rules_93 : decode cX8_rules 93 = .ok (.putfield 103, 3) := by decide +kernel
theorem dX8_rules_96 : decode cX8_rules 96 = .ok (.aload_n 0, 1) := by decide +kernel
theorem dX8_rules_97 : decode cX8_rules 97 = .ok (.getfield 116, 3) := by decide +kernel
theorem dX8_rules_100 : decode cX8_rules 100 = .ok (.ireturn, 1) := by decide +kernel
set_option maxRecDepth 20000 in
theorem ggX8_run_X8_fault : GoodIn wsX8_run wsX8_fault := goodIn_r _ [9, 10, 3, 4, 2, 11, 12, 8, 13, 14, 15, 16, 17, 18, 19, 20, 21, 22, 23, 24, 25, 26, 27, 28, 29, 30, 31, 32, 33, 34, 35, 36, 37, 38, 39, 40, 41, 109, 110, 111, 112, 113, 114, 115, 116, 117, 118, 119] (by decide +kernel) (by decide +kernel)
set_option maxRecDepth 20000 in
theorem gX8_run_X8_fault : GoodIn wsX8_run (wsV RX8 135 RX8 yX8_fault wsX8_fault) := goodIn_app (goodIn_of _ (by decide +kernel)) ggX8_run_X8_fault
set_option maxRecDepth 20000 in
theorem ggX8_run_X8_changes : GoodIn wsX8_run wsX8_changes := goodIn_r _ [45, 46, 47, 1, 109, 110, 111, 112, 113, 114, 115, 116, 117, 118, 119] (by decide +kernel) (by decide +kernel)
set_option maxRecDepth 20000 in
theorem gX8_run_X8_changes : GoodIn wsX8_run (wsV RX8 89 RX8 yX8_changes wsX8_changes) := goodIn_app (goodIn_of _ (by decide +kernel)) ggX8_run_X8_changes
set_option maxRecDepth 20000 in
theorem ggX8_run_X8_packed : GoodIn wsX8_run wsX8_packed := goodIn_r _ [50] (by decide +kernel) (by decide +kernel)
set_option maxRecDepth 20000 in
theorem gX8_run_X8_packed : GoodIn wsX8_run (va_wsS RX8 46 yX8_packed wsX8_packed) := goodIn_app (goodIn_of _ (by decide +kernel)) ggX8_run_X8_packed
set_option maxRecDepth 20000 in
theorem ggX8_run_X8_lays : GoodIn wsX8_run wsX8_lays := goodIn_r _ [54, 1, 109, 110, 111, 112, 113, 114, 115, 116, 117, 118, 119] (by decide +kernel) (by decide +kernel)
set_option maxRecDepth 20000 in
theorem gX8_run_X8_lays : GoodIn wsX8_run (wsV RX8 92 RX8 yX8_lays wsX8_lays) := goodIn_app (goodIn_of _ (by decide +kernel)) ggX8_run_X8_lays
set_option maxRecDepth 20000 in
theorem ggX8_run_X8_tick : GoodIn wsX8_run wsX8_tick := goodIn_r _ [58, 1, 59, 60, 61, 8, 62, 63, 64, 65, 66, 67, 68, 69, 70, 71, 72, 73, 74, 75, 76, 77, 78, 79, 80, 81, 82, 48, 49, 50, 83, 84, 85, 86, 87, 88, 89, 90, 91, 92, 93, 94, 95, 96, 97, 98, 99, 100, 101, 102, 103, 104, 105, 106, 107, 108, 109, 110, 111, 112, 113, 114, 115, 116, 117, 118, 119] (by decide +kernel) (by decide +kernel)
set_option maxRecDepth 20000 in
theorem gX8_run_X8_tick : GoodIn wsX8_run (wsV RX8 96 RX8 yX8_tick wsX8_tick) := goodIn_app (goodIn_of _ (by decide +kernel)) ggX8_run_X8_tick
theorem dX8_run_0 : decode cX8_run 0 = .ok (.aload_n 0, 1) := by decide +kernel
theorem dX8_run_1 : decode cX8_run 1 = .ok (.iconst 0, 1) := by decide +kernel
theorem dX8_run_2 : decode cX8_run 2 = .ok (.invokevirtual 135, 3) := by decide +kernel
theorem dX8_run_5 : decode cX8_run 5 = .ok (.bipush (-4), 2) := by decide +kernel
theorem dX8_run_7 : decode cX8_run 7 = .ok (.if_icmp .eq 6, 3) := by decide +kernel
theorem dX8_run_10 : decode cX8_run 10 = .ok (.bipush (-2), 2) := by decide +kernel
theorem dX8_run_12 : decode cX8_run 12 = .ok (.ireturn, 1) := by decide +kernel
theorem dX8_run_13 : decode cX8_run 13 = .ok (.aload_n 0, 1) := by decide +kernel
theorem dX8_run_14 : decode cX8_run 14 = .ok (.getfield 7, 3) := by decide +kernel
theorem dX8_run_17 : decode cX8_run 17 = .ok (.bipush 37, 2) := by decide +kernel
theorem dX8_run_19 : decode cX8_run 19 = .ok (.iaload, 1) := by decide +kernel
theorem dX8_run_20 : decode cX8_run 20 = .ok (.ifCond .le 6, 3) := by decide +kernel
theorem dX8_run_23 : decode cX8_run 23 = .ok (.bipush (-3), 2) := by decide +kernel
theorem dX8_run_25 : decode cX8_run 25 = .ok (.ireturn, 1) := by decide +kernel
theorem dX8_run_26 : decode cX8_run 26 = .ok (.aload_n 0, 1) := by decide +kernel
theorem dX8_run_27 : decode cX8_run 27 = .ok (.invokevirtual 89, 3) := by decide +kernel
theorem dX8_run_30 : decode cX8_run 30 = .ok (.aload_n 0, 1) := by decide +kernel
theorem dX8_run_31 : decode cX8_run 31 = .ok (.iconst 0, 1) := by decide +kernel
theorem dX8_run_32 : decode cX8_run 32 = .ok (.putfield 103, 3) := by decide +kernel
theorem dX8_run_35 : decode cX8_run 35 = .ok (.iconst 0, 1) := by decide +kernel
theorem dX8_run_36 : decode cX8_run 36 = .ok (.istore_n 1, 1) := by decide +kernel
theorem dX8_run_37 : decode cX8_run 37 = .ok (.iconst 0, 1) := by decide +kernel
theorem dX8_run_38 : decode cX8_run 38 = .ok (.istore_n 2, 1) := by decide +kernel
theorem dX8_run_39 : decode cX8_run 39 = .ok (.iload_n 2, 1) := by decide +kernel
theorem dX8_run_40 : decode cX8_run 40 = .ok (.aload_n 0, 1) := by decide +kernel
theorem dX8_run_41 : decode cX8_run 41 = .ok (.getfield 116, 3) := by decide +kernel
theorem dX8_run_44 : decode cX8_run 44 = .ok (.if_icmp .ge 105, 3) := by decide +kernel
theorem dX8_run_47 : decode cX8_run 47 = .ok (.aload_n 0, 1) := by decide +kernel
theorem dX8_run_48 : decode cX8_run 48 = .ok (.getfield 25, 3) := by decide +kernel
theorem dX8_run_51 : decode cX8_run 51 = .ok (.iconst 5, 1) := by decide +kernel
theorem dX8_run_52 : decode cX8_run 52 = .ok (.iload_n 2, 1) := by decide +kernel
theorem dX8_run_53 : decode cX8_run 53 = .ok (.imul, 1) := by decide +kernel
theorem dX8_run_54 : decode cX8_run 54 = .ok (.iaload, 1) := by decide +kernel
theorem dX8_run_55 : decode cX8_run 55 = .ok (.bipush 120, 2) := by decide +kernel
theorem dX8_run_57 : decode cX8_run 57 = .ok (.if_icmp .eq 40, 3) := by decide +kernel
theorem dX8_run_60 : decode cX8_run 60 = .ok (.aload_n 0, 1) := by decide +kernel
theorem dX8_run_61 : decode cX8_run 61 = .ok (.aload_n 0, 1) := by decide +kernel
theorem dX8_run_62 : decode cX8_run 62 = .ok (.getfield 25, 3) := by decide +kernel
theorem dX8_run_65 : decode cX8_run 65 = .ok (.iconst 5, 1) := by decide +kernel
theorem dX8_run_66 : decode cX8_run 66 = .ok (.iload_n 2, 1) := by decide +kernel
theorem dX8_run_67 : decode cX8_run 67 = .ok (.imul, 1) := by decide +kernel
theorem dX8_run_68 : decode cX8_run 68 = .ok (.iconst 1, 1) := by decide +kernel
theorem dX8_run_69 : decode cX8_run 69 = .ok (.iadd, 1) := by decide +kernel
theorem dX8_run_70 : decode cX8_run 70 = .ok (.iaload, 1) := by decide +kernel
theorem dX8_run_71 : decode cX8_run 71 = .ok (.aload_n 0, 1) := by decide +kernel
theorem dX8_run_72 : decode cX8_run 72 = .ok (.getfield 25, 3) := by decide +kernel
theorem dX8_run_75 : decode cX8_run 75 = .ok (.iconst 5, 1) := by decide +kernel
theorem dX8_run_76 : decode cX8_run 76 = .ok (.iload_n 2, 1) := by decide +kernel
theorem dX8_run_77 : decode cX8_run 77 = .ok (.imul, 1) := by decide +kernel
theorem dX8_run_78 : decode cX8_run 78 = .ok (.iconst 2, 1) := by decide +kernel
theorem dX8_run_79 : decode cX8_run 79 = .ok (.iadd, 1) := by decide +kernel
theorem dX8_run_80 : decode cX8_run 80 = .ok (.iaload, 1) := by decide +kernel
theorem dX8_run_81 : decode cX8_run 81 = .ok (.aload_n 0, 1) := by decide +kernel
theorem dX8_run_82 : decode cX8_run 82 = .ok (.getfield 25, 3) := by decide +kernel
theorem dX8_run_85 : decode cX8_run 85 = .ok (.iconst 5, 1) := by decide +kernel
theorem dX8_run_86 : decode cX8_run 86 = .ok (.iload_n 2, 1) := by decide +kernel
theorem dX8_run_87 : decode cX8_run 87 = .ok (.imul, 1) := by decide +kernel
theorem dX8_run_88 : decode cX8_run 88 = .ok (.iconst 3, 1) := by decide +kernel
theorem dX8_run_89 : decode cX8_run 89 = .ok (.iadd, 1) := by decide +kernel
theorem dX8_run_90 : decode cX8_run 90 = .ok (.iaload, 1) := by decide +kernel
theorem dX8_run_91 : decode cX8_run 91 = .ok (.invokestatic 46, 3) := by decide +kernel
theorem dX8_run_94 : decode cX8_run 94 = .ok (.invokevirtual 92, 3) := by decide +kernel
theorem dX8_run_97 : decode cX8_run 97 = .ok (.iload_n 2, 1) := by decide +kernel
theorem dX8_run_98 : decode cX8_run 98 = .ok (.iconst 1, 1) := by decide +kernel
theorem dX8_run_99 : decode cX8_run 99 = .ok (.iadd, 1) := by decide +kernel
theorem dX8_run_100 : decode cX8_run 100 = .ok (.aload_n 0, 1) := by decide +kernel
theorem dX8_run_101 : decode cX8_run 101 = .ok (.getfield 116, 3) := by decide +kernel
theorem dX8_run_104 : decode cX8_run 104 = .ok (.if_icmp .ge 22, 3) := by decide +kernel
theorem dX8_run_107 : decode cX8_run 107 = .ok (.aload_n 0, 1) := by decide +kernel
theorem dX8_run_108 : decode cX8_run 108 = .ok (.getfield 25, 3) := by decide +kernel
theorem dX8_run_111 : decode cX8_run 111 = .ok (.iconst 5, 1) := by decide +kernel
theorem dX8_run_112 : decode cX8_run 112 = .ok (.iload_n 2, 1) := by decide +kernel
theorem dX8_run_113 : decode cX8_run 113 = .ok (.imul, 1) := by decide +kernel
theorem dX8_run_114 : decode cX8_run 114 = .ok (.iconst 5, 1) := by decide +kernel
theorem dX8_run_115 : decode cX8_run 115 = .ok (.iadd, 1) := by decide +kernel
theorem dX8_run_116 : decode cX8_run 116 = .ok (.iaload, 1) := by decide +kernel
theorem dX8_run_117 : decode cX8_run 117 = .ok (.bipush 38, 2) := by decide +kernel
theorem dX8_run_119 : decode cX8_run 119 = .ok (.if_icmp .ne 7, 3) := by decide +kernel
theorem dX8_run_122 : decode cX8_run 122 = .ok (.iconst 1, 1) := by decide +kernel
theorem dX8_run_123 : decode cX8_run 123 = .ok (.goto 4, 3) := by decide +kernel
theorem dX8_run_126 : decode cX8_run 126 = .ok (.iconst 0, 1) := by decide +kernel
theorem dX8_run_127 : decode cX8_run 127 = .ok (.istore_n 3, 1) := by decide +kernel
theorem dX8_run_128 : decode cX8_run 128 = .ok (.iload_n 1, 1) := by decide +kernel
theorem dX8_run_129 : decode cX8_run 129 = .ok (.iload_n 3, 1) := by decide +kernel
theorem dX8_run_130 : decode cX8_run 130 = .ok (.ifCond .eq 7, 3) := by decide +kernel
theorem dX8_run_133 : decode cX8_run 133 = .ok (.iconst 0, 1) := by decide +kernel
theorem dX8_run_134 : decode cX8_run 134 = .ok (.goto 7, 3) := by decide +kernel
theorem dX8_run_137 : decode cX8_run 137 = .ok (.aload_n 0, 1) := by decide +kernel
theorem dX8_run_138 : decode cX8_run 138 = .ok (.invokevirtual 96, 3) := by decide +kernel
theorem dX8_run_141 : decode cX8_run 141 = .ok (.iadd, 1) := by decide +kernel
theorem dX8_run_142 : decode cX8_run 142 = .ok (.istore_n 1, 1) := by decide +kernel
theorem dX8_run_143 : decode cX8_run 143 = .ok (.iinc 2 1, 3) := by decide +kernel
theorem dX8_run_146 : decode cX8_run 146 = .ok (.goto (-107), 3) := by decide +kernel
theorem dX8_run_149 : decode cX8_run 149 = .ok (.iload_n 1, 1) := by decide +kernel
theorem dX8_run_150 : decode cX8_run 150 = .ok (.ireturn, 1) := by decide +kernel
set_option maxRecDepth 20000 in
theorem ggX8_ticksOf_X8_gradeOf : GoodIn wsX8_ticksOf wsX8_gradeOf := goodIn_r _ [6, 1, 7, 8, 5, 9, 10, 11, 12, 13, 14, 15, 16, 17, 18, 19, 20, 21, 22, 23, 24, 25, 26, 27, 28, 29, 30, 31, 32, 33, 34, 35, 36, 37, 38, 39, 40, 41, 42, 43, 44, 45, 46, 47] (by decide +kernel) (by decide +kernel)
set_option maxRecDepth 20000 in
theorem gX8_ticksOf_X8_gradeOf : GoodIn wsX8_ticksOf (wsV RX8 69 RX8 yX8_gradeOf wsX8_gradeOf) := goodIn_app (goodIn_of _ (by decide +kernel)) ggX8_ticksOf_X8_gradeOf
set_option maxRecDepth 20000 in
theorem ggX8_ticksOf_X8_cupAt : GoodIn wsX8_ticksOf wsX8_cupAt := goodIn_r _ [9] (by decide +kernel) (by decide +kernel)
set_option maxRecDepth 20000 in
theorem gX8_ticksOf_X8_cupAt : GoodIn wsX8_ticksOf (va_wsS RX8 60 yX8_cupAt wsX8_cupAt) := goodIn_app (goodIn_of _ (by decide +kernel)) ggX8_ticksOf_X8_cupAt
theorem dX8_ticksOf_0 : decode cX8_ticksOf 0 = .ok (.iload_n 1, 1) := by decide +kernel
theorem dX8_ticksOf_1 : decode cX8_ticksOf 1 = .ok (.ifCond .ne 11, 3) := by decide +kernel
theorem dX8_ticksOf_4 : decode cX8_ticksOf 4 = .ok (.aload_n 0, 1) := by decide +kernel
theorem dX8_ticksOf_5 : decode cX8_ticksOf 5 = .ok (.iconst 0, 1) := by decide +kernel
theorem dX8_ticksOf_6 : decode cX8_ticksOf 6 = .ok (.invokevirtual 69, 3) := by decide +kernel
theorem dX8_ticksOf_9 : decode cX8_ticksOf 9 = .ok (.goto 16, 3) := by decide +kernel
theorem dX8_ticksOf_12 : decode cX8_ticksOf 12 = .ok (.aload_n 0, 1) := by decide +kernel
theorem dX8_ticksOf_13 : decode cX8_ticksOf 13 = .ok (.getfield 7, 3) := by decide +kernel
theorem dX8_ticksOf_16 : decode cX8_ticksOf 16 = .ok (.iload_n 1, 1) := by decide +kernel
theorem dX8_ticksOf_17 : decode cX8_ticksOf 17 = .ok (.invokestatic 60, 3) := by decide +kernel
theorem dX8_ticksOf_20 : decode cX8_ticksOf 20 = .ok (.iconst 3, 1) := by decide +kernel
theorem dX8_ticksOf_21 : decode cX8_ticksOf 21 = .ok (.iadd, 1) := by decide +kernel
theorem dX8_ticksOf_22 : decode cX8_ticksOf 22 = .ok (.iaload, 1) := by decide +kernel
theorem dX8_ticksOf_23 : decode cX8_ticksOf 23 = .ok (.iconst 1, 1) := by decide +kernel
theorem dX8_ticksOf_24 : decode cX8_ticksOf 24 = .ok (.isub, 1) := by decide +kernel
theorem dX8_ticksOf_25 : decode cX8_ticksOf 25 = .ok (.istore_n 2, 1) := by decide +kernel
theorem dX8_ticksOf_26 : decode cX8_ticksOf 26 = .ok (.iload_n 2, 1) := by decide +kernel
theorem dX8_ticksOf_27 : decode cX8_ticksOf 27 = .ok (.iconst 4, 1) := by decide +kernel
theorem dX8_ticksOf_28 : decode cX8_ticksOf 28 = .ok (.if_icmp .ne 10, 3) := by decide +kernel
theorem dX8_ticksOf_31 : decode cX8_ticksOf 31 = .ok (.bipush 12, 2) := by decide +kernel
theorem dX8_ticksOf_33 : decode cX8_ticksOf 33 = .ok (.iload_n 1, 1) := by decide +kernel
theorem dX8_ticksOf_34 : decode cX8_ticksOf 34 = .ok (.isub, 1) := by decide +kernel
theorem dX8_ticksOf_35 : decode cX8_ticksOf 35 = .ok (.goto 10, 3) := by decide +kernel
theorem dX8_ticksOf_38 : decode cX8_ticksOf 38 = .ok (.iconst 2, 1) := by decide +kernel
theorem dX8_ticksOf_39 : decode cX8_ticksOf 39 = .ok (.iconst 2, 1) := by decide +kernel
theorem dX8_ticksOf_40 : decode cX8_ticksOf 40 = .ok (.iload_n 2, 1) := by decide +kernel
theorem dX8_ticksOf_41 : decode cX8_ticksOf 41 = .ok (.imul, 1) := by decide +kernel
theorem dX8_ticksOf_42 : decode cX8_ticksOf 42 = .ok (.iadd, 1) := by decide +kernel
theorem dX8_ticksOf_43 : decode cX8_ticksOf 43 = .ok (.iload_n 1, 1) := by decide +kernel
theorem dX8_ticksOf_44 : decode cX8_ticksOf 44 = .ok (.isub, 1) := by decide +kernel
theorem dX8_ticksOf_45 : decode cX8_ticksOf 45 = .ok (.ireturn, 1) := by decide +kernel
set_option maxRecDepth 20000 in
theorem ggX8_cup_X8_in : GoodIn wsX8_cup wsX8_in := goodIn_r _ [5] (by decide +kernel) (by decide +kernel)
set_option maxRecDepth 20000 in
theorem gX8_cup_X8_in : GoodIn wsX8_cup (va_wsS RX8 32 yX8_in wsX8_in) := goodIn_app (goodIn_of _ (by decide +kernel)) ggX8_cup_X8_in
set_option maxRecDepth 20000 in
theorem ggX8_cup_X8_cupAt : GoodIn wsX8_cup wsX8_cupAt := goodIn_r _ [8] (by decide +kernel) (by decide +kernel)
set_option maxRecDepth 20000 in
theorem gX8_cup_X8_cupAt : GoodIn wsX8_cup (va_wsS RX8 60 yX8_cupAt wsX8_cupAt) := goodIn_app (goodIn_of _ (by decide +kernel)) ggX8_cup_X8_cupAt
set_option maxRecDepth 20000 in
theorem ggX8_cup_X8_weightOf : GoodIn wsX8_cup wsX8_weightOf := goodIn_r _ [11] (by decide +kernel) (by decide +kernel)
set_option maxRecDepth 20000 in
theorem gX8_cup_X8_weightOf : GoodIn wsX8_cup (va_wsS RX8 43 yX8_weightOf wsX8_weightOf) := goodIn_app (goodIn_of _ (by decide +kernel)) ggX8_cup_X8_weightOf
set_option maxRecDepth 20000 in
theorem ggX8_cup_X8_ticksOf : GoodIn wsX8_cup wsX8_ticksOf := goodIn_r _ [15, 1, 16, 17, 18, 4, 19, 6, 7, 8, 20, 21, 22, 23, 24, 25, 26, 27, 28, 29, 9, 10, 11, 30, 31, 32, 33, 34, 35, 36, 37, 38, 39, 40, 41, 42, 43, 44, 45, 46, 47, 48, 49, 50, 51, 52, 53, 54] (by decide +kernel) (by decide +kernel)
set_option maxRecDepth 20000 in
theorem gX8_cup_X8_ticksOf : GoodIn wsX8_cup (wsV RX8 138 RX8 yX8_ticksOf wsX8_ticksOf) := goodIn_app (goodIn_of _ (by decide +kernel)) ggX8_cup_X8_ticksOf
theorem dX8_cup_0 : decode cX8_cup 0 = .ok (.iload_n 1, 1) := by decide +kernel
theorem dX8_cup_1 : decode cX8_cup 1 = .ok (.iconst 0, 1) := by decide +kernel
theorem dX8_cup_2 : decode cX8_cup 2 = .ok (.bipush 11, 2) := by decide +kernel
theorem dX8_cup_4 : decode cX8_cup 4 = .ok (.invokestatic 32, 3) := by decide +kernel
theorem dX8_cup_7 : decode cX8_cup 7 = .ok (.ifCond .eq 12, 3) := by decide +kernel
theorem dX8_cup_10 : decode cX8_cup 10 = .ok (.iload_n 2, 1) := by decide +kernel
theorem dX8_cup_11 : decode cX8_cup 11 = .ok (.iconst 0, 1) := by decide +kernel
theorem dX8_cup_12 : decode cX8_cup 12 = .ok (.iconst 3, 1) := by decide +kernel
theorem dX8_cup_13 : decode cX8_cup 13 = .ok (.invokestatic 32, 3) := by decide +kernel
theorem dX8_cup_16 : decode cX8_cup 16 = .ok (.ifCond .ne 5, 3) := by decide +kernel
theorem dX8_cup_19 : decode cX8_cup 19 = .ok (.iconst (-1), 1) := by decide +kernel
theorem dX8_cup_20 : decode cX8_cup 20 = .ok (.ireturn, 1) := by decide +kernel
theorem dX8_cup_21 : decode cX8_cup 21 = .ok (.iload_n 1, 1) := by decide +kernel
theorem dX8_cup_22 : decode cX8_cup 22 = .ok (.invokestatic 60, 3) := by decide +kernel
theorem dX8_cup_25 : decode cX8_cup 25 = .ok (.istore_n 3, 1) := by decide +kernel
theorem dX8_cup_26 : decode cX8_cup 26 = .ok (.iconst 0, 1) := by decide +kernel
theorem dX8_cup_27 : decode cX8_cup 27 = .ok (.istore 4, 2) := by decide +kernel
theorem dX8_cup_29 : decode cX8_cup 29 = .ok (.iconst 0, 1) := by decide +kernel
theorem dX8_cup_30 : decode cX8_cup 30 = .ok (.istore 5, 2) := by decide +kernel
theorem dX8_cup_32 : decode cX8_cup 32 = .ok (.iload 5, 2) := by decide +kernel
theorem dX8_cup_34 : decode cX8_cup 34 = .ok (.aload_n 0, 1) := by decide +kernel
theorem dX8_cup_35 : decode cX8_cup 35 = .ok (.getfield 7, 3) := by decide +kernel
theorem dX8_cup_38 : decode cX8_cup 38 = .ok (.iload_n 3, 1) := by decide +kernel
theorem dX8_cup_39 : decode cX8_cup 39 = .ok (.iaload, 1) := by decide +kernel
theorem dX8_cup_40 : decode cX8_cup 40 = .ok (.if_icmp .ge 28, 3) := by decide +kernel
theorem dX8_cup_43 : decode cX8_cup 43 = .ok (.iload 4, 2) := by decide +kernel
theorem dX8_cup_45 : decode cX8_cup 45 = .ok (.aload_n 0, 1) := by decide +kernel
theorem dX8_cup_46 : decode cX8_cup 46 = .ok (.getfield 7, 3) := by decide +kernel
theorem dX8_cup_49 : decode cX8_cup 49 = .ok (.iload_n 3, 1) := by decide +kernel
theorem dX8_cup_50 : decode cX8_cup 50 = .ok (.iconst 1, 1) := by decide +kernel
theorem dX8_cup_51 : decode cX8_cup 51 = .ok (.iadd, 1) := by decide +kernel
theorem dX8_cup_52 : decode cX8_cup 52 = .ok (.iload 5, 2) := by decide +kernel
theorem dX8_cup_54 : decode cX8_cup 54 = .ok (.iadd, 1) := by decide +kernel
theorem dX8_cup_55 : decode cX8_cup 55 = .ok (.iaload, 1) := by decide +kernel
theorem dX8_cup_56 : decode cX8_cup 56 = .ok (.invokestatic 43, 3) := by decide +kernel
theorem dX8_cup_59 : decode cX8_cup 59 = .ok (.iadd, 1) := by decide +kernel
theorem dX8_cup_60 : decode cX8_cup 60 = .ok (.istore 4, 2) := by decide +kernel
theorem dX8_cup_62 : decode cX8_cup 62 = .ok (.iinc 5 1, 3) := by decide +kernel
theorem dX8_cup_65 : decode cX8_cup 65 = .ok (.goto (-33), 3) := by decide +kernel
theorem dX8_cup_68 : decode cX8_cup 68 = .ok (.iload_n 2, 1) := by decide +kernel
theorem dX8_cup_69 : decode cX8_cup 69 = .ok (.tableswitch 64 0 2 #[27, 34, 61], 27) := by decide +kernel
theorem dX8_cup_96 : decode cX8_cup 96 = .ok (.aload_n 0, 1) := by decide +kernel
theorem dX8_cup_97 : decode cX8_cup 97 = .ok (.getfield 7, 3) := by decide +kernel
theorem dX8_cup_100 : decode cX8_cup 100 = .ok (.iload_n 3, 1) := by decide +kernel
theorem dX8_cup_101 : decode cX8_cup 101 = .ok (.iaload, 1) := by decide +kernel
theorem dX8_cup_102 : decode cX8_cup 102 = .ok (.ireturn, 1) := by decide +kernel
theorem dX8_cup_103 : decode cX8_cup 103 = .ok (.aload_n 0, 1) := by decide +kernel
theorem dX8_cup_104 : decode cX8_cup 104 = .ok (.getfield 7, 3) := by decide +kernel
theorem dX8_cup_107 : decode cX8_cup 107 = .ok (.iload_n 3, 1) := by decide +kernel
theorem dX8_cup_108 : decode cX8_cup 108 = .ok (.iconst 3, 1) := by decide +kernel
theorem dX8_cup_109 : decode cX8_cup 109 = .ok (.iadd, 1) := by decide +kernel
theorem dX8_cup_110 : decode cX8_cup 110 = .ok (.iaload, 1) := by decide +kernel
theorem dX8_cup_111 : decode cX8_cup 111 = .ok (.ifCond .le 16, 3) := by decide +kernel
theorem dX8_cup_114 : decode cX8_cup 114 = .ok (.aload_n 0, 1) := by decide +kernel
theorem dX8_cup_115 : decode cX8_cup 115 = .ok (.getfield 7, 3) := by decide +kernel
theorem dX8_cup_118 : decode cX8_cup 118 = .ok (.iload_n 3, 1) := by decide +kernel
theorem dX8_cup_119 : decode cX8_cup 119 = .ok (.iconst 3, 1) := by decide +kernel
theorem dX8_cup_120 : decode cX8_cup 120 = .ok (.iadd, 1) := by decide +kernel
theorem dX8_cup_121 : decode cX8_cup 121 = .ok (.iaload, 1) := by decide +kernel
theorem dX8_cup_122 : decode cX8_cup 122 = .ok (.iconst 1, 1) := by decide +kernel
theorem dX8_cup_123 : decode cX8_cup 123 = .ok (.isub, 1) := by decide +kernel
theorem dX8_cup_124 : decode cX8_cup 124 = .ok (.goto 5, 3) := by decide +kernel
theorem dX8_cup_127 : decode cX8_cup 127 = .ok (.bipush (-4), 2) := by decide +kernel
theorem dX8_cup_129 : decode cX8_cup 129 = .ok (.ireturn, 1) := by decide +kernel
theorem dX8_cup_130 : decode cX8_cup 130 = .ok (.iload 4, 2) := by decide +kernel
theorem dX8_cup_132 : decode cX8_cup 132 = .ok (.ireturn, 1) := by decide +kernel
theorem dX8_cup_133 : decode cX8_cup 133 = .ok (.aload_n 0, 1) := by decide +kernel
theorem dX8_cup_134 : decode cX8_cup 134 = .ok (.getfield 7, 3) := by decide +kernel
theorem dX8_cup_137 : decode cX8_cup 137 = .ok (.iload_n 3, 1) := by decide +kernel
theorem dX8_cup_138 : decode cX8_cup 138 = .ok (.iaload, 1) := by decide +kernel
theorem dX8_cup_139 : decode cX8_cup 139 = .ok (.ifCond .ne 8, 3) := by decide +kernel
theorem dX8_cup_142 : decode cX8_cup 142 = .ok (.bipush (-4), 2) := by decide +kernel
theorem dX8_cup_144 : decode cX8_cup 144 = .ok (.goto 8, 3) := by decide +kernel
theorem dX8_cup_147 : decode cX8_cup 147 = .ok (.aload_n 0, 1) := by decide +kernel
theorem dX8_cup_148 : decode cX8_cup 148 = .ok (.iload_n 1, 1) := by decide +kernel
theorem dX8_cup_149 : decode cX8_cup 149 = .ok (.invokevirtual 138, 3) := by decide +kernel
theorem dX8_cup_152 : decode cX8_cup 152 = .ok (.ireturn, 1) := by decide +kernel
set_option maxRecDepth 20000 in
theorem ggX8_isWrong_X8_laneOf : GoodIn wsX8_isWrong wsX8_laneOf := goodIn_r _ [5, 6, 7, 8, 9, 4, 10, 11, 12, 13, 14, 15, 16, 17, 18, 19, 20, 21, 22, 23, 24, 25, 26, 27, 28, 29, 30, 31, 32, 33] (by decide +kernel) (by decide +kernel)
set_option maxRecDepth 20000 in
theorem gX8_isWrong_X8_laneOf : GoodIn wsX8_isWrong (wsV RX8 66 RX8 yX8_laneOf wsX8_laneOf) := goodIn_app (goodIn_of _ (by decide +kernel)) ggX8_isWrong_X8_laneOf
theorem dX8_isWrong_0 : decode cX8_isWrong 0 = .ok (.iload_n 1, 1) := by decide +kernel
theorem dX8_isWrong_1 : decode cX8_isWrong 1 = .ok (.iconst 4, 1) := by decide +kernel
theorem dX8_isWrong_2 : decode cX8_isWrong 2 = .ok (.if_icmp .ge 16, 3) := by decide +kernel
theorem dX8_isWrong_5 : decode cX8_isWrong 5 = .ok (.aload_n 0, 1) := by decide +kernel
theorem dX8_isWrong_6 : decode cX8_isWrong 6 = .ok (.iload_n 2, 1) := by decide +kernel
theorem dX8_isWrong_7 : decode cX8_isWrong 7 = .ok (.invokevirtual 66, 3) := by decide +kernel
theorem dX8_isWrong_10 : decode cX8_isWrong 10 = .ok (.iload_n 1, 1) := by decide +kernel
theorem dX8_isWrong_11 : decode cX8_isWrong 11 = .ok (.if_icmp .eq 7, 3) := by decide +kernel
theorem dX8_isWrong_14 : decode cX8_isWrong 14 = .ok (.iconst 1, 1) := by decide +kernel
theorem dX8_isWrong_15 : decode cX8_isWrong 15 = .ok (.goto 4, 3) := by decide +kernel
theorem dX8_isWrong_18 : decode cX8_isWrong 18 = .ok (.iconst 0, 1) := by decide +kernel
theorem dX8_isWrong_19 : decode cX8_isWrong 19 = .ok (.ireturn, 1) := by decide +kernel
set_option maxRecDepth 20000 in
theorem ggX8_apple_X8_in : GoodIn wsX8_apple wsX8_in := goodIn_r _ [5] (by decide +kernel) (by decide +kernel)
set_option maxRecDepth 20000 in
theorem gX8_apple_X8_in : GoodIn wsX8_apple (va_wsS RX8 32 yX8_in wsX8_in) := goodIn_app (goodIn_of _ (by decide +kernel)) ggX8_apple_X8_in
set_option maxRecDepth 20000 in
theorem ggX8_apple_X8_boxAt : GoodIn wsX8_apple wsX8_boxAt := goodIn_r _ [8] (by decide +kernel) (by decide +kernel)
set_option maxRecDepth 20000 in
theorem gX8_apple_X8_boxAt : GoodIn wsX8_apple (va_wsS RX8 57 yX8_boxAt wsX8_boxAt) := goodIn_app (goodIn_of _ (by decide +kernel)) ggX8_apple_X8_boxAt
set_option maxRecDepth 20000 in
theorem ggX8_apple_X8_weightOf : GoodIn wsX8_apple wsX8_weightOf := goodIn_r _ [11] (by decide +kernel) (by decide +kernel)
set_option maxRecDepth 20000 in
theorem gX8_apple_X8_weightOf : GoodIn wsX8_apple (va_wsS RX8 43 yX8_weightOf wsX8_weightOf) := goodIn_app (goodIn_of _ (by decide +kernel)) ggX8_apple_X8_weightOf
set_option maxRecDepth 20000 in
theorem ggX8_apple_X8_redOf : GoodIn wsX8_apple wsX8_redOf := goodIn_r _ [14] (by decide +kernel) (by decide +kernel)
set_option maxRecDepth 20000 in
theorem gX8_apple_X8_redOf : GoodIn wsX8_apple (va_wsS RX8 36 yX8_redOf wsX8_redOf) := goodIn_app (goodIn_of _ (by decide +kernel)) ggX8_apple_X8_redOf
set_option maxRecDepth 20000 in
theorem ggX8_apple_X8_bruiseOf : GoodIn wsX8_apple wsX8_bruiseOf := goodIn_r _ [17] (by decide +kernel) (by decide +kernel)
set_option maxRecDepth 20000 in
theorem gX8_apple_X8_bruiseOf : GoodIn wsX8_apple (va_wsS RX8 40 yX8_bruiseOf wsX8_bruiseOf) := goodIn_app (goodIn_of _ (by decide +kernel)) ggX8_apple_X8_bruiseOf
set_option maxRecDepth 20000 in
theorem ggX8_apple_X8_isWrong : GoodIn wsX8_apple wsX8_isWrong := goodIn_r _ [21, 22, 23, 24, 4, 25, 1, 26, 27, 28, 29, 30, 31, 32, 9, 10, 11, 12, 13, 14, 15, 16, 17, 33, 34, 35, 36, 37, 38, 39, 40, 41, 42, 43] (by decide +kernel) (by decide +kernel)
set_option maxRecDepth 20000 in
theorem gX8_apple_X8_isWrong : GoodIn wsX8_apple (wsV RX8 141 RX8 yX8_isWrong wsX8_isWrong) := goodIn_app (goodIn_of _ (by decide +kernel)) ggX8_apple_X8_isWrong
theorem dX8_apple_0 : decode cX8_apple 0 = .ok (.iload_n 1, 1) := by decide +kernel
theorem dX8_apple_1 : decode cX8_apple 1 = .ok (.iconst 0, 1) := by decide +kernel
theorem dX8_apple_2 : decode cX8_apple 2 = .ok (.iconst 4, 1) := by decide +kernel
theorem dX8_apple_3 : decode cX8_apple 3 = .ok (.invokestatic 32, 3) := by decide +kernel
theorem dX8_apple_6 : decode cX8_apple 6 = .ok (.ifCond .eq 16, 3) := by decide +kernel
theorem dX8_apple_9 : decode cX8_apple 9 = .ok (.iload_n 2, 1) := by decide +kernel
theorem dX8_apple_10 : decode cX8_apple 10 = .ok (.ifCond .lt 12, 3) := by decide +kernel
theorem dX8_apple_13 : decode cX8_apple 13 = .ok (.iload_n 3, 1) := by decide +kernel
theorem dX8_apple_14 : decode cX8_apple 14 = .ok (.iconst 0, 1) := by decide +kernel
theorem dX8_apple_15 : decode cX8_apple 15 = .ok (.iconst 3, 1) := by decide +kernel
theorem dX8_apple_16 : decode cX8_apple 16 = .ok (.invokestatic 32, 3) := by decide +kernel
theorem dX8_apple_19 : decode cX8_apple 19 = .ok (.ifCond .ne 5, 3) := by decide +kernel
theorem dX8_apple_22 : decode cX8_apple 22 = .ok (.iconst (-1), 1) := by decide +kernel
theorem dX8_apple_23 : decode cX8_apple 23 = .ok (.ireturn, 1) := by decide +kernel
theorem dX8_apple_24 : decode cX8_apple 24 = .ok (.iload_n 2, 1) := by decide +kernel
theorem dX8_apple_25 : decode cX8_apple 25 = .ok (.aload_n 0, 1) := by decide +kernel
theorem dX8_apple_26 : decode cX8_apple 26 = .ok (.getfield 7, 3) := by decide +kernel
theorem dX8_apple_29 : decode cX8_apple 29 = .ok (.bipush 85, 2) := by decide +kernel
theorem dX8_apple_31 : decode cX8_apple 31 = .ok (.iload_n 1, 1) := by decide +kernel
theorem dX8_apple_32 : decode cX8_apple 32 = .ok (.iadd, 1) := by decide +kernel
theorem dX8_apple_33 : decode cX8_apple 33 = .ok (.iaload, 1) := by decide +kernel
theorem dX8_apple_34 : decode cX8_apple 34 = .ok (.if_icmp .lt 6, 3) := by decide +kernel
theorem dX8_apple_37 : decode cX8_apple 37 = .ok (.bipush (-4), 2) := by decide +kernel
theorem dX8_apple_39 : decode cX8_apple 39 = .ok (.ireturn, 1) := by decide +kernel
theorem dX8_apple_40 : decode cX8_apple 40 = .ok (.aload_n 0, 1) := by decide +kernel
theorem dX8_apple_41 : decode cX8_apple 41 = .ok (.getfield 7, 3) := by decide +kernel
theorem dX8_apple_44 : decode cX8_apple 44 = .ok (.iload_n 1, 1) := by decide +kernel
theorem dX8_apple_45 : decode cX8_apple 45 = .ok (.invokestatic 57, 3) := by decide +kernel
theorem dX8_apple_48 : decode cX8_apple 48 = .ok (.iload_n 2, 1) := by decide +kernel
theorem dX8_apple_49 : decode cX8_apple 49 = .ok (.iadd, 1) := by decide +kernel
theorem dX8_apple_50 : decode cX8_apple 50 = .ok (.iaload, 1) := by decide +kernel
theorem dX8_apple_51 : decode cX8_apple 51 = .ok (.istore 4, 2) := by decide +kernel
theorem dX8_apple_53 : decode cX8_apple 53 = .ok (.iload_n 3, 1) := by decide +kernel
theorem dX8_apple_54 : decode cX8_apple 54 = .ok (.ifCond .ne 11, 3) := by decide +kernel
theorem dX8_apple_57 : decode cX8_apple 57 = .ok (.iload 4, 2) := by decide +kernel
theorem dX8_apple_59 : decode cX8_apple 59 = .ok (.invokestatic 43, 3) := by decide +kernel
theorem dX8_apple_62 : decode cX8_apple 62 = .ok (.goto 44, 3) := by decide +kernel
theorem dX8_apple_65 : decode cX8_apple 65 = .ok (.iload_n 3, 1) := by decide +kernel
theorem dX8_apple_66 : decode cX8_apple 66 = .ok (.iconst 1, 1) := by decide +kernel
theorem dX8_apple_67 : decode cX8_apple 67 = .ok (.if_icmp .ne 11, 3) := by decide +kernel
theorem dX8_apple_70 : decode cX8_apple 70 = .ok (.iload 4, 2) := by decide +kernel
theorem dX8_apple_72 : decode cX8_apple 72 = .ok (.invokestatic 36, 3) := by decide +kernel
theorem dX8_apple_75 : decode cX8_apple 75 = .ok (.goto 31, 3) := by decide +kernel
theorem dX8_apple_78 : decode cX8_apple 78 = .ok (.iload_n 3, 1) := by decide +kernel
theorem dX8_apple_79 : decode cX8_apple 79 = .ok (.iconst 2, 1) := by decide +kernel
theorem dX8_apple_80 : decode cX8_apple 80 = .ok (.if_icmp .ne 11, 3) := by decide +kernel
theorem dX8_apple_83 : decode cX8_apple 83 = .ok (.iload 4, 2) := by decide +kernel
theorem dX8_apple_85 : decode cX8_apple 85 = .ok (.invokestatic 40, 3) := by decide +kernel
theorem dX8_apple_88 : decode cX8_apple 88 = .ok (.goto 18, 3) := by decide +kernel
theorem dX8_apple_91 : decode cX8_apple 91 = .ok (.aload_n 0, 1) := by decide +kernel
theorem dX8_apple_92 : decode cX8_apple 92 = .ok (.iload_n 1, 1) := by decide +kernel
theorem dX8_apple_93 : decode cX8_apple 93 = .ok (.iload 4, 2) := by decide +kernel
theorem dX8_apple_95 : decode cX8_apple 95 = .ok (.invokevirtual 141, 3) := by decide +kernel
theorem dX8_apple_98 : decode cX8_apple 98 = .ok (.ifCond .eq 7, 3) := by decide +kernel
theorem dX8_apple_101 : decode cX8_apple 101 = .ok (.iconst 1, 1) := by decide +kernel
theorem dX8_apple_102 : decode cX8_apple 102 = .ok (.goto 4, 3) := by decide +kernel
theorem dX8_apple_105 : decode cX8_apple 105 = .ok (.iconst 0, 1) := by decide +kernel
theorem dX8_apple_106 : decode cX8_apple 106 = .ok (.ireturn, 1) := by decide +kernel
set_option maxRecDepth 20000 in
theorem ggX8_wrongIn_X8_boxAt : GoodIn wsX8_wrongIn wsX8_boxAt := goodIn_r _ [5] (by decide +kernel) (by decide +kernel)
set_option maxRecDepth 20000 in
theorem gX8_wrongIn_X8_boxAt : GoodIn wsX8_wrongIn (va_wsS RX8 57 yX8_boxAt wsX8_boxAt) := goodIn_app (goodIn_of _ (by decide +kernel)) ggX8_wrongIn_X8_boxAt
set_option maxRecDepth 20000 in
theorem ggX8_wrongIn_X8_isWrong : GoodIn wsX8_wrongIn wsX8_isWrong := goodIn_r _ [9, 10, 11, 12, 4, 13, 1, 14, 15, 16, 17, 18, 19, 20, 21, 22, 23, 24, 25, 26, 27, 28, 29, 30, 31, 32, 33, 34, 35, 36, 37, 38, 39, 40] (by decide +kernel) (by decide +kernel)
set_option maxRecDepth 20000 in
theorem gX8_wrongIn_X8_isWrong : GoodIn wsX8_wrongIn (wsV RX8 141 RX8 yX8_isWrong wsX8_isWrong) := goodIn_app (goodIn_of _ (by decide +kernel)) ggX8_wrongIn_X8_isWrong
theorem dX8_wrongIn_0 : decode cX8_wrongIn 0 = .ok (.iconst 0, 1) := by decide +kernel
theorem dX8_wrongIn_1 : decode cX8_wrongIn 1 = .ok (.istore_n 2, 1) := by decide +kernel
theorem dX8_wrongIn_2 : decode cX8_wrongIn 2 = .ok (.iconst 0, 1) := by decide +kernel
theorem dX8_wrongIn_3 : decode cX8_wrongIn 3 = .ok (.istore_n 3, 1) := by decide +kernel
theorem dX8_wrongIn_4 : decode cX8_wrongIn 4 = .ok (.iload_n 3, 1) := by decide +kernel
theorem dX8_wrongIn_5 : decode cX8_wrongIn 5 = .ok (.aload_n 0, 1) := by decide +kernel
theorem dX8_wrongIn_6 : decode cX8_wrongIn 6 = .ok (.getfield 7, 3) := by decide +kernel
theorem dX8_wrongIn_9 : decode cX8_wrongIn 9 = .ok (.bipush 85, 2) := by decide +kernel
theorem dX8_wrongIn_11 : decode cX8_wrongIn 11 = .ok (.iload_n 1, 1) := by decide +kernel
theorem dX8_wrongIn_12 : decode cX8_wrongIn 12 = .ok (.iadd, 1) := by decide +kernel
theorem dX8_wrongIn_13 : decode cX8_wrongIn 13 = .ok (.iaload, 1) := by decide +kernel
theorem dX8_wrongIn_14 : decode cX8_wrongIn 14 = .ok (.if_icmp .ge 36, 3) := by decide +kernel
theorem dX8_wrongIn_17 : decode cX8_wrongIn 17 = .ok (.iload_n 2, 1) := by decide +kernel
theorem dX8_wrongIn_18 : decode cX8_wrongIn 18 = .ok (.aload_n 0, 1) := by decide +kernel
theorem dX8_wrongIn_19 : decode cX8_wrongIn 19 = .ok (.iload_n 1, 1) := by decide +kernel
theorem dX8_wrongIn_20 : decode cX8_wrongIn 20 = .ok (.aload_n 0, 1) := by decide +kernel
theorem dX8_wrongIn_21 : decode cX8_wrongIn 21 = .ok (.getfield 7, 3) := by decide +kernel
theorem dX8_wrongIn_24 : decode cX8_wrongIn 24 = .ok (.iload_n 1, 1) := by decide +kernel
theorem dX8_wrongIn_25 : decode cX8_wrongIn 25 = .ok (.invokestatic 57, 3) := by decide +kernel
theorem dX8_wrongIn_28 : decode cX8_wrongIn 28 = .ok (.iload_n 3, 1) := by decide +kernel
theorem dX8_wrongIn_29 : decode cX8_wrongIn 29 = .ok (.iadd, 1) := by decide +kernel
theorem dX8_wrongIn_30 : decode cX8_wrongIn 30 = .ok (.iaload, 1) := by decide +kernel
theorem dX8_wrongIn_31 : decode cX8_wrongIn 31 = .ok (.invokevirtual 141, 3) := by decide +kernel
theorem dX8_wrongIn_34 : decode cX8_wrongIn 34 = .ok (.ifCond .eq 7, 3) := by decide +kernel
theorem dX8_wrongIn_37 : decode cX8_wrongIn 37 = .ok (.iconst 1, 1) := by decide +kernel
theorem dX8_wrongIn_38 : decode cX8_wrongIn 38 = .ok (.goto 4, 3) := by decide +kernel
theorem dX8_wrongIn_41 : decode cX8_wrongIn 41 = .ok (.iconst 0, 1) := by decide +kernel
theorem dX8_wrongIn_42 : decode cX8_wrongIn 42 = .ok (.iadd, 1) := by decide +kernel
theorem dX8_wrongIn_43 : decode cX8_wrongIn 43 = .ok (.istore_n 2, 1) := by decide +kernel
theorem dX8_wrongIn_44 : decode cX8_wrongIn 44 = .ok (.iinc 3 1, 3) := by decide +kernel
theorem dX8_wrongIn_47 : decode cX8_wrongIn 47 = .ok (.goto (-43), 3) := by decide +kernel
theorem dX8_wrongIn_50 : decode cX8_wrongIn 50 = .ok (.iload_n 2, 1) := by decide +kernel
theorem dX8_wrongIn_51 : decode cX8_wrongIn 51 = .ok (.ireturn, 1) := by decide +kernel
set_option maxRecDepth 20000 in
theorem ggX8_weightIn_X8_boxAt : GoodIn wsX8_weightIn wsX8_boxAt := goodIn_r _ [5] (by decide +kernel) (by decide +kernel)
set_option maxRecDepth 20000 in
theorem gX8_weightIn_X8_boxAt : GoodIn wsX8_weightIn (va_wsS RX8 57 yX8_boxAt wsX8_boxAt) := goodIn_app (goodIn_of _ (by decide +kernel)) ggX8_weightIn_X8_boxAt
set_option maxRecDepth 20000 in
theorem ggX8_weightIn_X8_weightOf : GoodIn wsX8_weightIn wsX8_weightOf := goodIn_r _ [8] (by decide +kernel) (by decide +kernel)
set_option maxRecDepth 20000 in
theorem gX8_weightIn_X8_weightOf : GoodIn wsX8_weightIn (va_wsS RX8 43 yX8_weightOf wsX8_weightOf) := goodIn_app (goodIn_of _ (by decide +kernel)) ggX8_weightIn_X8_weightOf
theorem dX8_weightIn_0 : decode cX8_weightIn 0 = .ok (.iconst 0, 1) := by decide +kernel
theorem dX8_weightIn_1 : decode cX8_weightIn 1 = .ok (.istore_n 2, 1) := by decide +kernel
theorem dX8_weightIn_2 : decode cX8_weightIn 2 = .ok (.iconst 0, 1) := by decide +kernel
theorem dX8_weightIn_3 : decode cX8_weightIn 3 = .ok (.istore_n 3, 1) := by decide +kernel
theorem dX8_weightIn_4 : decode cX8_weightIn 4 = .ok (.iload_n 3, 1) := by decide +kernel
theorem dX8_weightIn_5 : decode cX8_weightIn 5 = .ok (.aload_n 0, 1) := by decide +kernel
theorem dX8_weightIn_6 : decode cX8_weightIn 6 = .ok (.getfield 7, 3) := by decide +kernel
theorem dX8_weightIn_9 : decode cX8_weightIn 9 = .ok (.bipush 85, 2) := by decide +kernel
theorem dX8_weightIn_11 : decode cX8_weightIn 11 = .ok (.iload_n 1, 1) := by decide +kernel
theorem dX8_weightIn_12 : decode cX8_weightIn 12 = .ok (.iadd, 1) := by decide +kernel
theorem dX8_weightIn_13 : decode cX8_weightIn 13 = .ok (.iaload, 1) := by decide +kernel
theorem dX8_weightIn_14 : decode cX8_weightIn 14 = .ok (.if_icmp .ge 26, 3) := by decide +kernel
theorem dX8_weightIn_17 : decode cX8_weightIn 17 = .ok (.iload_n 2, 1) := by decide +kernel
theorem dX8_weightIn_18 : decode cX8_weightIn 18 = .ok (.aload_n 0, 1) := by decide +kernel
theorem dX8_weightIn_19 : decode cX8_weightIn 19 = .ok (.getfield 7, 3) := by decide +kernel
theorem dX8_weightIn_22 : decode cX8_weightIn 22 = .ok (.iload_n 1, 1) := by decide +kernel
theorem dX8_weightIn_23 : decode cX8_weightIn 23 = .ok (.invokestatic 57, 3) := by decide +kernel
theorem dX8_weightIn_26 : decode cX8_weightIn 26 = .ok (.iload_n 3, 1) := by decide +kernel
theorem dX8_weightIn_27 : decode cX8_weightIn 27 = .ok (.iadd, 1) := by decide +kernel
theorem dX8_weightIn_28 : decode cX8_weightIn 28 = .ok (.iaload, 1) := by decide +kernel
theorem dX8_weightIn_29 : decode cX8_weightIn 29 = .ok (.invokestatic 43, 3) := by decide +kernel
theorem dX8_weightIn_32 : decode cX8_weightIn 32 = .ok (.iadd, 1) := by decide +kernel
theorem dX8_weightIn_33 : decode cX8_weightIn 33 = .ok (.istore_n 2, 1) := by decide +kernel
theorem dX8_weightIn_34 : decode cX8_weightIn 34 = .ok (.iinc 3 1, 3) := by decide +kernel
theorem dX8_weightIn_37 : decode cX8_weightIn 37 = .ok (.goto (-33), 3) := by decide +kernel
theorem dX8_weightIn_40 : decode cX8_weightIn 40 = .ok (.iload_n 2, 1) := by decide +kernel
theorem dX8_weightIn_41 : decode cX8_weightIn 41 = .ok (.ireturn, 1) := by decide +kernel
set_option maxRecDepth 20000 in
theorem ggX8_leastRed_X8_boxAt : GoodIn wsX8_leastRed wsX8_boxAt := goodIn_r _ [5] (by decide +kernel) (by decide +kernel)
set_option maxRecDepth 20000 in
theorem gX8_leastRed_X8_boxAt : GoodIn wsX8_leastRed (va_wsS RX8 57 yX8_boxAt wsX8_boxAt) := goodIn_app (goodIn_of _ (by decide +kernel)) ggX8_leastRed_X8_boxAt
set_option maxRecDepth 20000 in
theorem ggX8_leastRed_X8_redOf : GoodIn wsX8_leastRed wsX8_redOf := goodIn_r _ [8] (by decide +kernel) (by decide +kernel)
set_option maxRecDepth 20000 in
theorem gX8_leastRed_X8_redOf : GoodIn wsX8_leastRed (va_wsS RX8 36 yX8_redOf wsX8_redOf) := goodIn_app (goodIn_of _ (by decide +kernel)) ggX8_leastRed_X8_redOf
theorem dX8_leastRed_0 : decode cX8_leastRed 0 = .ok (.bipush (-4), 2) := by decide +kernel
theorem dX8_leastRed_2 : decode cX8_leastRed 2 = .ok (.istore_n 2, 1) := by decide +kernel
theorem dX8_leastRed_3 : decode cX8_leastRed 3 = .ok (.iconst 0, 1) := by decide +kernel
theorem dX8_leastRed_4 : decode cX8_leastRed 4 = .ok (.istore_n 3, 1) := by decide +kernel
theorem dX8_leastRed_5 : decode cX8_leastRed 5 = .ok (.iload_n 3, 1) := by decide +kernel
theorem dX8_leastRed_6 : decode cX8_leastRed 6 = .ok (.aload_n 0, 1) := by decide +kernel
theorem dX8_leastRed_7 : decode cX8_leastRed 7 = .ok (.getfield 7, 3) := by decide +kernel
theorem dX8_leastRed_10 : decode cX8_leastRed 10 = .ok (.bipush 85, 2) := by decide +kernel
theorem dX8_leastRed_12 : decode cX8_leastRed 12 = .ok (.iload_n 1, 1) := by decide +kernel
theorem dX8_leastRed_13 : decode cX8_leastRed 13 = .ok (.iadd, 1) := by decide +kernel
theorem dX8_leastRed_14 : decode cX8_leastRed 14 = .ok (.iaload, 1) := by decide +kernel
theorem dX8_leastRed_15 : decode cX8_leastRed 15 = .ok (.if_icmp .ge 42, 3) := by decide +kernel
theorem dX8_leastRed_18 : decode cX8_leastRed 18 = .ok (.aload_n 0, 1) := by decide +kernel
theorem dX8_leastRed_19 : decode cX8_leastRed 19 = .ok (.getfield 7, 3) := by decide +kernel
theorem dX8_leastRed_22 : decode cX8_leastRed 22 = .ok (.iload_n 1, 1) := by decide +kernel
theorem dX8_leastRed_23 : decode cX8_leastRed 23 = .ok (.invokestatic 57, 3) := by decide +kernel
theorem dX8_leastRed_26 : decode cX8_leastRed 26 = .ok (.iload_n 3, 1) := by decide +kernel
theorem dX8_leastRed_27 : decode cX8_leastRed 27 = .ok (.iadd, 1) := by decide +kernel
theorem dX8_leastRed_28 : decode cX8_leastRed 28 = .ok (.iaload, 1) := by decide +kernel
theorem dX8_leastRed_29 : decode cX8_leastRed 29 = .ok (.invokestatic 36, 3) := by decide +kernel
theorem dX8_leastRed_32 : decode cX8_leastRed 32 = .ok (.istore 4, 2) := by decide +kernel
theorem dX8_leastRed_34 : decode cX8_leastRed 34 = .ok (.iload_n 2, 1) := by decide +kernel
theorem dX8_leastRed_35 : decode cX8_leastRed 35 = .ok (.ifCond .lt 9, 3) := by decide +kernel
theorem dX8_leastRed_38 : decode cX8_leastRed 38 = .ok (.iload 4, 2) := by decide +kernel
theorem dX8_leastRed_40 : decode cX8_leastRed 40 = .ok (.iload_n 2, 1) := by decide +kernel
theorem dX8_leastRed_41 : decode cX8_leastRed 41 = .ok (.if_icmp .ge 8, 3) := by decide +kernel
theorem dX8_leastRed_44 : decode cX8_leastRed 44 = .ok (.iload 4, 2) := by decide +kernel
theorem dX8_leastRed_46 : decode cX8_leastRed 46 = .ok (.goto 4, 3) := by decide +kernel
theorem dX8_leastRed_49 : decode cX8_leastRed 49 = .ok (.iload_n 2, 1) := by decide +kernel
theorem dX8_leastRed_50 : decode cX8_leastRed 50 = .ok (.istore_n 2, 1) := by decide +kernel
theorem dX8_leastRed_51 : decode cX8_leastRed 51 = .ok (.iinc 3 1, 3) := by decide +kernel
theorem dX8_leastRed_54 : decode cX8_leastRed 54 = .ok (.goto (-49), 3) := by decide +kernel
theorem dX8_leastRed_57 : decode cX8_leastRed 57 = .ok (.iload_n 2, 1) := by decide +kernel
theorem dX8_leastRed_58 : decode cX8_leastRed 58 = .ok (.ireturn, 1) := by decide +kernel
set_option maxRecDepth 20000 in
theorem ggX8_worstBruise_X8_boxAt : GoodIn wsX8_worstBruise wsX8_boxAt := goodIn_r _ [5] (by decide +kernel) (by decide +kernel)
set_option maxRecDepth 20000 in
theorem gX8_worstBruise_X8_boxAt : GoodIn wsX8_worstBruise (va_wsS RX8 57 yX8_boxAt wsX8_boxAt) := goodIn_app (goodIn_of _ (by decide +kernel)) ggX8_worstBruise_X8_boxAt
set_option maxRecDepth 20000 in
theorem ggX8_worstBruise_X8_bruiseOf : GoodIn wsX8_worstBruise wsX8_bruiseOf := goodIn_r _ [8] (by decide +kernel) (by decide +kernel)
set_option maxRecDepth 20000 in
theorem gX8_worstBruise_X8_bruiseOf : GoodIn wsX8_worstBruise (va_wsS RX8 40 yX8_bruiseOf wsX8_bruiseOf) := goodIn_app (goodIn_of _ (by decide +kernel)) ggX8_worstBruise_X8_bruiseOf
theorem dX8_worstBruise_0 : decode cX8_worstBruise 0 = .ok (.bipush (-4), 2) := by decide +kernel
theorem dX8_worstBruise_2 : decode cX8_worstBruise 2 = .ok (.istore_n 2, 1) := by decide +kernel
theorem dX8_worstBruise_3 : decode cX8_worstBruise 3 = .ok (.iconst 0, 1) := by decide +kernel
theorem dX8_worstBruise_4 : decode cX8_worstBruise 4 = .ok (.istore_n 3, 1) := by decide +kernel
theorem dX8_worstBruise_5 : decode cX8_worstBruise 5 = .ok (.iload_n 3, 1) := by decide +kernel
theorem dX8_worstBruise_6 : decode cX8_worstBruise 6 = .ok (.aload_n 0, 1) := by decide +kernel
theorem dX8_worstBruise_7 : decode cX8_worstBruise 7 = .ok (.getfield 7, 3) := by decide +kernel
theorem dX8_worstBruise_10 : decode cX8_worstBruise 10 = .ok (.bipush 85, 2) := by decide +kernel
theorem dX8_worstBruise_12 : decode cX8_worstBruise 12 = .ok (.iload_n 1, 1) := by decide +kernel
theorem dX8_worstBruise_13 : decode cX8_worstBruise 13 = .ok (.iadd, 1) := by decide +kernel
theorem dX8_worstBruise_14 : decode cX8_worstBruise 14 = .ok (.iaload, 1) := by decide +kernel
theorem dX8_worstBruise_15 : decode cX8_worstBruise 15 = .ok (.if_icmp .ge 38, 3) := by decide +kernel
theorem dX8_worstBruise_18 : decode cX8_worstBruise 18 = .ok (.aload_n 0, 1) := by decide +kernel
theorem dX8_worstBruise_19 : decode cX8_worstBruise 19 = .ok (.getfield 7, 3) := by decide +kernel
theorem dX8_worstBruise_22 : decode cX8_worstBruise 22 = .ok (.iload_n 1, 1) := by decide +kernel
theorem dX8_worstBruise_23 : decode cX8_worstBruise 23 = .ok (.invokestatic 57, 3) := by decide +kernel
theorem dX8_worstBruise_26 : decode cX8_worstBruise 26 = .ok (.iload_n 3, 1) := by decide +kernel
theorem dX8_worstBruise_27 : decode cX8_worstBruise 27 = .ok (.iadd, 1) := by decide +kernel
theorem dX8_worstBruise_28 : decode cX8_worstBruise 28 = .ok (.iaload, 1) := by decide +kernel
theorem dX8_worstBruise_29 : decode cX8_worstBruise 29 = .ok (.invokestatic 40, 3) := by decide +kernel
theorem dX8_worstBruise_32 : decode cX8_worstBruise 32 = .ok (.istore 4, 2) := by decide +kernel
theorem dX8_worstBruise_34 : decode cX8_worstBruise 34 = .ok (.iload 4, 2) := by decide +kernel
theorem dX8_worstBruise_36 : decode cX8_worstBruise 36 = .ok (.iload_n 2, 1) := by decide +kernel
theorem dX8_worstBruise_37 : decode cX8_worstBruise 37 = .ok (.if_icmp .le 8, 3) := by decide +kernel
theorem dX8_worstBruise_40 : decode cX8_worstBruise 40 = .ok (.iload 4, 2) := by decide +kernel
theorem dX8_worstBruise_42 : decode cX8_worstBruise 42 = .ok (.goto 4, 3) := by decide +kernel
theorem dX8_worstBruise_45 : decode cX8_worstBruise 45 = .ok (.iload_n 2, 1) := by decide +kernel
theorem dX8_worstBruise_46 : decode cX8_worstBruise 46 = .ok (.istore_n 2, 1) := by decide +kernel
theorem dX8_worstBruise_47 : decode cX8_worstBruise 47 = .ok (.iinc 3 1, 3) := by decide +kernel
theorem dX8_worstBruise_50 : decode cX8_worstBruise 50 = .ok (.goto (-45), 3) := by decide +kernel
theorem dX8_worstBruise_53 : decode cX8_worstBruise 53 = .ok (.iload_n 2, 1) := by decide +kernel
theorem dX8_worstBruise_54 : decode cX8_worstBruise 54 = .ok (.ireturn, 1) := by decide +kernel
set_option maxRecDepth 20000 in
theorem ggX8_box_X8_in : GoodIn wsX8_box wsX8_in := goodIn_r _ [5] (by decide +kernel) (by decide +kernel)
set_option maxRecDepth 20000 in
theorem gX8_box_X8_in : GoodIn wsX8_box (va_wsS RX8 32 yX8_in wsX8_in) := goodIn_app (goodIn_of _ (by decide +kernel)) ggX8_box_X8_in
set_option maxRecDepth 20000 in
theorem ggX8_box_X8_weightIn : GoodIn wsX8_box wsX8_weightIn := goodIn_r _ [9, 1, 10, 11, 4, 12, 13, 14, 15, 49, 50, 51, 52, 53, 54, 55, 56, 57, 58, 59] (by decide +kernel) (by decide +kernel)
set_option maxRecDepth 20000 in
theorem gX8_box_X8_weightIn : GoodIn wsX8_box (wsV RX8 144 RX8 yX8_weightIn wsX8_weightIn) := goodIn_app (goodIn_of _ (by decide +kernel)) ggX8_box_X8_weightIn
set_option maxRecDepth 20000 in
theorem ggX8_box_X8_wrongIn : GoodIn wsX8_box wsX8_wrongIn := goodIn_r _ [19, 1, 10, 11, 4, 12, 20, 21, 22, 23, 24, 25, 26, 27, 28, 29, 30, 31, 32, 33, 34, 13, 14, 15, 35, 36, 37, 38, 39, 40, 49, 50, 51, 52, 53, 54, 55, 56, 57, 58, 59] (by decide +kernel) (by decide +kernel)
set_option maxRecDepth 20000 in
theorem gX8_box_X8_wrongIn : GoodIn wsX8_box (wsV RX8 147 RX8 yX8_wrongIn wsX8_wrongIn) := goodIn_app (goodIn_of _ (by decide +kernel)) ggX8_box_X8_wrongIn
set_option maxRecDepth 20000 in
theorem ggX8_box_X8_leastRed : GoodIn wsX8_box wsX8_leastRed := goodIn_r _ [44, 1, 10, 11, 4, 12, 35, 36, 37, 49, 50, 51, 52, 53, 54, 55, 56, 57, 58, 59] (by decide +kernel) (by decide +kernel)
set_option maxRecDepth 20000 in
theorem gX8_box_X8_leastRed : GoodIn wsX8_box (wsV RX8 150 RX8 yX8_leastRed wsX8_leastRed) := goodIn_app (goodIn_of _ (by decide +kernel)) ggX8_box_X8_leastRed
set_option maxRecDepth 20000 in
theorem ggX8_box_X8_worstBruise : GoodIn wsX8_box wsX8_worstBruise := goodIn_r _ [48, 1, 10, 11, 4, 12, 38, 39, 40, 49, 50, 51, 52, 53, 54, 55, 56, 57, 58, 59] (by decide +kernel) (by decide +kernel)
set_option maxRecDepth 20000 in
theorem gX8_box_X8_worstBruise : GoodIn wsX8_box (wsV RX8 153 RX8 yX8_worstBruise wsX8_worstBruise) := goodIn_app (goodIn_of _ (by decide +kernel)) ggX8_box_X8_worstBruise
theorem dX8_box_0 : decode cX8_box 0 = .ok (.iload_n 1, 1) := by decide +kernel
theorem dX8_box_1 : decode cX8_box 1 = .ok (.iconst 0, 1) := by decide +kernel
theorem dX8_box_2 : decode cX8_box 2 = .ok (.iconst 4, 1) := by decide +kernel
theorem dX8_box_3 : decode cX8_box 3 = .ok (.invokestatic 32, 3) := by decide +kernel
theorem dX8_box_6 : decode cX8_box 6 = .ok (.ifCond .ne 5, 3) := by decide +kernel
theorem dX8_box_9 : decode cX8_box 9 = .ok (.iconst (-1), 1) := by decide +kernel
theorem dX8_box_10 : decode cX8_box 10 = .ok (.ireturn, 1) := by decide +kernel
theorem dX8_box_11 : decode cX8_box 11 = .ok (.iload_n 2, 1) := by decide +kernel
theorem dX8_box_12 : decode cX8_box 12 = .ok (.tableswitch 94 0 5 #[40, 50, 56, 62, 68, 74], 40) := by decide +kernel
theorem dX8_box_52 : decode cX8_box 52 = .ok (.aload_n 0, 1) := by decide +kernel
theorem dX8_box_53 : decode cX8_box 53 = .ok (.getfield 7, 3) := by decide +kernel
theorem dX8_box_56 : decode cX8_box 56 = .ok (.bipush 85, 2) := by decide +kernel
theorem dX8_box_58 : decode cX8_box 58 = .ok (.iload_n 1, 1) := by decide +kernel
theorem dX8_box_59 : decode cX8_box 59 = .ok (.iadd, 1) := by decide +kernel
theorem dX8_box_60 : decode cX8_box 60 = .ok (.iaload, 1) := by decide +kernel
theorem dX8_box_61 : decode cX8_box 61 = .ok (.ireturn, 1) := by decide +kernel
theorem dX8_box_62 : decode cX8_box 62 = .ok (.aload_n 0, 1) := by decide +kernel
theorem dX8_box_63 : decode cX8_box 63 = .ok (.iload_n 1, 1) := by decide +kernel
theorem dX8_box_64 : decode cX8_box 64 = .ok (.invokevirtual 144, 3) := by decide +kernel
theorem dX8_box_67 : decode cX8_box 67 = .ok (.ireturn, 1) := by decide +kernel
theorem dX8_box_68 : decode cX8_box 68 = .ok (.aload_n 0, 1) := by decide +kernel
theorem dX8_box_69 : decode cX8_box 69 = .ok (.iload_n 1, 1) := by decide +kernel
theorem dX8_box_70 : decode cX8_box 70 = .ok (.invokevirtual 147, 3) := by decide +kernel
theorem dX8_box_73 : decode cX8_box 73 = .ok (.ireturn, 1) := by decide +kernel
theorem dX8_box_74 : decode cX8_box 74 = .ok (.aload_n 0, 1) := by decide +kernel
theorem dX8_box_75 : decode cX8_box 75 = .ok (.iload_n 1, 1) := by decide +kernel
theorem dX8_box_76 : decode cX8_box 76 = .ok (.invokevirtual 150, 3) := by decide +kernel
theorem dX8_box_79 : decode cX8_box 79 = .ok (.ireturn, 1) := by decide +kernel
theorem dX8_box_80 : decode cX8_box 80 = .ok (.aload_n 0, 1) := by decide +kernel
theorem dX8_box_81 : decode cX8_box 81 = .ok (.iload_n 1, 1) := by decide +kernel
theorem dX8_box_82 : decode cX8_box 82 = .ok (.invokevirtual 153, 3) := by decide +kernel
theorem dX8_box_85 : decode cX8_box 85 = .ok (.ireturn, 1) := by decide +kernel
theorem dX8_box_86 : decode cX8_box 86 = .ok (.iload_n 1, 1) := by decide +kernel
theorem dX8_box_87 : decode cX8_box 87 = .ok (.iconst 4, 1) := by decide +kernel
theorem dX8_box_88 : decode cX8_box 88 = .ok (.if_icmp .ne 7, 3) := by decide +kernel
theorem dX8_box_91 : decode cX8_box 91 = .ok (.iconst 1, 1) := by decide +kernel
theorem dX8_box_92 : decode cX8_box 92 = .ok (.goto 13, 3) := by decide +kernel
theorem dX8_box_95 : decode cX8_box 95 = .ok (.aload_n 0, 1) := by decide +kernel
theorem dX8_box_96 : decode cX8_box 96 = .ok (.getfield 7, 3) := by decide +kernel
theorem dX8_box_99 : decode cX8_box 99 = .ok (.iconst 3, 1) := by decide +kernel
theorem dX8_box_100 : decode cX8_box 100 = .ok (.iaload, 1) := by decide +kernel
theorem dX8_box_101 : decode cX8_box 101 = .ok (.iload_n 1, 1) := by decide +kernel
theorem dX8_box_102 : decode cX8_box 102 = .ok (.ishr, 1) := by decide +kernel
theorem dX8_box_103 : decode cX8_box 103 = .ok (.iconst 1, 1) := by decide +kernel
theorem dX8_box_104 : decode cX8_box 104 = .ok (.iand, 1) := by decide +kernel
theorem dX8_box_105 : decode cX8_box 105 = .ok (.ireturn, 1) := by decide +kernel
theorem dX8_box_106 : decode cX8_box 106 = .ok (.iconst (-1), 1) := by decide +kernel
theorem dX8_box_107 : decode cX8_box 107 = .ok (.ireturn, 1) := by decide +kernel
set_option maxRecDepth 20000 in
theorem ggX8_isCovered_X8_ruleAt : GoodIn wsX8_isCovered wsX8_ruleAt := goodIn_r _ [5] (by decide +kernel) (by decide +kernel)
set_option maxRecDepth 20000 in
theorem gX8_isCovered_X8_ruleAt : GoodIn wsX8_isCovered (va_wsS RX8 50 yX8_ruleAt wsX8_ruleAt) := goodIn_app (goodIn_of _ (by decide +kernel)) ggX8_isCovered_X8_ruleAt
theorem dX8_isCovered_0 : decode cX8_isCovered 0 = .ok (.iload_n 1, 1) := by decide +kernel
theorem dX8_isCovered_1 : decode cX8_isCovered 1 = .ok (.invokestatic 50, 3) := by decide +kernel
theorem dX8_isCovered_4 : decode cX8_isCovered 4 = .ok (.istore_n 2, 1) := by decide +kernel
theorem dX8_isCovered_5 : decode cX8_isCovered 5 = .ok (.iconst 0, 1) := by decide +kernel
theorem dX8_isCovered_6 : decode cX8_isCovered 6 = .ok (.istore_n 3, 1) := by decide +kernel
theorem dX8_isCovered_7 : decode cX8_isCovered 7 = .ok (.iconst 0, 1) := by decide +kernel
theorem dX8_isCovered_8 : decode cX8_isCovered 8 = .ok (.istore 4, 2) := by decide +kernel
theorem dX8_isCovered_10 : decode cX8_isCovered 10 = .ok (.iload 4, 2) := by decide +kernel
theorem dX8_isCovered_12 : decode cX8_isCovered 12 = .ok (.iload_n 1, 1) := by decide +kernel
theorem dX8_isCovered_13 : decode cX8_isCovered 13 = .ok (.if_icmp .ge 82, 3) := by decide +kernel
theorem dX8_isCovered_16 : decode cX8_isCovered 16 = .ok (.iload 4, 2) := by decide +kernel
theorem dX8_isCovered_18 : decode cX8_isCovered 18 = .ok (.invokestatic 50, 3) := by decide +kernel
theorem dX8_isCovered_21 : decode cX8_isCovered 21 = .ok (.istore 5, 2) := by decide +kernel
theorem dX8_isCovered_23 : decode cX8_isCovered 23 = .ok (.iload_n 3, 1) := by decide +kernel
theorem dX8_isCovered_24 : decode cX8_isCovered 24 = .ok (.ifCond .ne 59, 3) := by decide +kernel
theorem dX8_isCovered_27 : decode cX8_isCovered 27 = .ok (.aload_n 0, 1) := by decide +kernel
theorem dX8_isCovered_28 : decode cX8_isCovered 28 = .ok (.getfield 7, 3) := by decide +kernel
theorem dX8_isCovered_31 : decode cX8_isCovered 31 = .ok (.iload 5, 2) := by decide +kernel
theorem dX8_isCovered_33 : decode cX8_isCovered 33 = .ok (.iaload, 1) := by decide +kernel
theorem dX8_isCovered_34 : decode cX8_isCovered 34 = .ok (.aload_n 0, 1) := by decide +kernel
theorem dX8_isCovered_35 : decode cX8_isCovered 35 = .ok (.getfield 7, 3) := by decide +kernel
theorem dX8_isCovered_38 : decode cX8_isCovered 38 = .ok (.iload_n 2, 1) := by decide +kernel
theorem dX8_isCovered_39 : decode cX8_isCovered 39 = .ok (.iaload, 1) := by decide +kernel
theorem dX8_isCovered_40 : decode cX8_isCovered 40 = .ok (.if_icmp .gt 47, 3) := by decide +kernel
theorem dX8_isCovered_43 : decode cX8_isCovered 43 = .ok (.aload_n 0, 1) := by decide +kernel
theorem dX8_isCovered_44 : decode cX8_isCovered 44 = .ok (.getfield 7, 3) := by decide +kernel
theorem dX8_isCovered_47 : decode cX8_isCovered 47 = .ok (.iload 5, 2) := by decide +kernel
theorem dX8_isCovered_49 : decode cX8_isCovered 49 = .ok (.iconst 1, 1) := by decide +kernel
theorem dX8_isCovered_50 : decode cX8_isCovered 50 = .ok (.iadd, 1) := by decide +kernel
theorem dX8_isCovered_51 : decode cX8_isCovered 51 = .ok (.iaload, 1) := by decide +kernel
theorem dX8_isCovered_52 : decode cX8_isCovered 52 = .ok (.aload_n 0, 1) := by decide +kernel
theorem dX8_isCovered_53 : decode cX8_isCovered 53 = .ok (.getfield 7, 3) := by decide +kernel
theorem dX8_isCovered_56 : decode cX8_isCovered 56 = .ok (.iload_n 2, 1) := by decide +kernel
theorem dX8_isCovered_57 : decode cX8_isCovered 57 = .ok (.iconst 1, 1) := by decide +kernel
theorem dX8_isCovered_58 : decode cX8_isCovered 58 = .ok (.iadd, 1) := by decide +kernel
theorem dX8_isCovered_59 : decode cX8_isCovered 59 = .ok (.iaload, 1) := by decide +kernel
theorem dX8_isCovered_60 : decode cX8_isCovered 60 = .ok (.if_icmp .gt 27, 3) := by decide +kernel
theorem dX8_isCovered_63 : decode cX8_isCovered 63 = .ok (.aload_n 0, 1) := by decide +kernel
theorem dX8_isCovered_64 : decode cX8_isCovered 64 = .ok (.getfield 7, 3) := by decide +kernel
theorem dX8_isCovered_67 : decode cX8_isCovered 67 = .ok (.iload 5, 2) := by decide +kernel
theorem dX8_isCovered_69 : decode cX8_isCovered 69 = .ok (.iconst 2, 1) := by decide +kernel
theorem dX8_isCovered_70 : decode cX8_isCovered 70 = .ok (.iadd, 1) := by decide +kernel
theorem dX8_isCovered_71 : decode cX8_isCovered 71 = .ok (.iaload, 1) := by decide +kernel
theorem dX8_isCovered_72 : decode cX8_isCovered 72 = .ok (.aload_n 0, 1) := by decide +kernel
theorem dX8_isCovered_73 : decode cX8_isCovered 73 = .ok (.getfield 7, 3) := by decide +kernel
theorem dX8_isCovered_76 : decode cX8_isCovered 76 = .ok (.iload_n 2, 1) := by decide +kernel
theorem dX8_isCovered_77 : decode cX8_isCovered 77 = .ok (.iconst 2, 1) := by decide +kernel
theorem dX8_isCovered_78 : decode cX8_isCovered 78 = .ok (.iadd, 1) := by decide +kernel
theorem dX8_isCovered_79 : decode cX8_isCovered 79 = .ok (.iaload, 1) := by decide +kernel
theorem dX8_isCovered_80 : decode cX8_isCovered 80 = .ok (.if_icmp .lt 7, 3) := by decide +kernel
theorem dX8_isCovered_83 : decode cX8_isCovered 83 = .ok (.iconst 1, 1) := by decide +kernel
theorem dX8_isCovered_84 : decode cX8_isCovered 84 = .ok (.goto 4, 3) := by decide +kernel
theorem dX8_isCovered_87 : decode cX8_isCovered 87 = .ok (.iconst 0, 1) := by decide +kernel
theorem dX8_isCovered_88 : decode cX8_isCovered 88 = .ok (.istore_n 3, 1) := by decide +kernel
theorem dX8_isCovered_89 : decode cX8_isCovered 89 = .ok (.iinc 4 1, 3) := by decide +kernel
theorem dX8_isCovered_92 : decode cX8_isCovered 92 = .ok (.goto (-82), 3) := by decide +kernel
theorem dX8_isCovered_95 : decode cX8_isCovered 95 = .ok (.iload_n 3, 1) := by decide +kernel
theorem dX8_isCovered_96 : decode cX8_isCovered 96 = .ok (.ireturn, 1) := by decide +kernel
set_option maxRecDepth 20000 in
theorem ggX8_ruleOf_X8_isRule : GoodIn wsX8_ruleOf wsX8_isRule := goodIn_r _ [6, 1, 7, 8, 5, 9, 17, 18, 19, 20, 21, 22, 23, 24, 25, 26, 27] (by decide +kernel) (by decide +kernel)
set_option maxRecDepth 20000 in
theorem gX8_ruleOf_X8_isRule : GoodIn wsX8_ruleOf (wsV RX8 99 RX8 yX8_isRule wsX8_isRule) := goodIn_app (goodIn_of _ (by decide +kernel)) ggX8_ruleOf_X8_isRule
set_option maxRecDepth 20000 in
theorem ggX8_ruleOf_X8_in : GoodIn wsX8_ruleOf wsX8_in := goodIn_r _ [9] (by decide +kernel) (by decide +kernel)
set_option maxRecDepth 20000 in
theorem gX8_ruleOf_X8_in : GoodIn wsX8_ruleOf (va_wsS RX8 32 yX8_in wsX8_in) := goodIn_app (goodIn_of _ (by decide +kernel)) ggX8_ruleOf_X8_in
set_option maxRecDepth 20000 in
theorem ggX8_ruleOf_X8_ruleAt : GoodIn wsX8_ruleOf wsX8_ruleAt := goodIn_r _ [12] (by decide +kernel) (by decide +kernel)
set_option maxRecDepth 20000 in
theorem gX8_ruleOf_X8_ruleAt : GoodIn wsX8_ruleOf (va_wsS RX8 50 yX8_ruleAt wsX8_ruleAt) := goodIn_app (goodIn_of _ (by decide +kernel)) ggX8_ruleOf_X8_ruleAt
set_option maxRecDepth 20000 in
theorem ggX8_ruleOf_X8_isCovered : GoodIn wsX8_ruleOf wsX8_isCovered := goodIn_r _ [16, 1, 10, 11, 5, 12, 17, 18, 19, 20, 21, 22, 23, 24, 25, 26, 27] (by decide +kernel) (by decide +kernel)
set_option maxRecDepth 20000 in
theorem gX8_ruleOf_X8_isCovered : GoodIn wsX8_ruleOf (wsV RX8 156 RX8 yX8_isCovered wsX8_isCovered) := goodIn_app (goodIn_of _ (by decide +kernel)) ggX8_ruleOf_X8_isCovered
theorem dX8_ruleOf_0 : decode cX8_ruleOf 0 = .ok (.aload_n 0, 1) := by decide +kernel
theorem dX8_ruleOf_1 : decode cX8_ruleOf 1 = .ok (.iload_n 1, 1) := by decide +kernel
theorem dX8_ruleOf_2 : decode cX8_ruleOf 2 = .ok (.invokevirtual 99, 3) := by decide +kernel
theorem dX8_ruleOf_5 : decode cX8_ruleOf 5 = .ok (.ifCond .eq 12, 3) := by decide +kernel
theorem dX8_ruleOf_8 : decode cX8_ruleOf 8 = .ok (.iload_n 2, 1) := by decide +kernel
theorem dX8_ruleOf_9 : decode cX8_ruleOf 9 = .ok (.iconst 0, 1) := by decide +kernel
theorem dX8_ruleOf_10 : decode cX8_ruleOf 10 = .ok (.iconst 4, 1) := by decide +kernel
theorem dX8_ruleOf_11 : decode cX8_ruleOf 11 = .ok (.invokestatic 32, 3) := by decide +kernel
theorem dX8_ruleOf_14 : decode cX8_ruleOf 14 = .ok (.ifCond .ne 5, 3) := by decide +kernel
theorem dX8_ruleOf_17 : decode cX8_ruleOf 17 = .ok (.iconst (-1), 1) := by decide +kernel
theorem dX8_ruleOf_18 : decode cX8_ruleOf 18 = .ok (.ireturn, 1) := by decide +kernel
theorem dX8_ruleOf_19 : decode cX8_ruleOf 19 = .ok (.iload_n 2, 1) := by decide +kernel
theorem dX8_ruleOf_20 : decode cX8_ruleOf 20 = .ok (.iconst 4, 1) := by decide +kernel
theorem dX8_ruleOf_21 : decode cX8_ruleOf 21 = .ok (.if_icmp .ge 17, 3) := by decide +kernel
theorem dX8_ruleOf_24 : decode cX8_ruleOf 24 = .ok (.aload_n 0, 1) := by decide +kernel
theorem dX8_ruleOf_25 : decode cX8_ruleOf 25 = .ok (.getfield 7, 3) := by decide +kernel
theorem dX8_ruleOf_28 : decode cX8_ruleOf 28 = .ok (.iload_n 1, 1) := by decide +kernel
theorem dX8_ruleOf_29 : decode cX8_ruleOf 29 = .ok (.invokestatic 50, 3) := by decide +kernel
theorem dX8_ruleOf_32 : decode cX8_ruleOf 32 = .ok (.iload_n 2, 1) := by decide +kernel
theorem dX8_ruleOf_33 : decode cX8_ruleOf 33 = .ok (.iadd, 1) := by decide +kernel
theorem dX8_ruleOf_34 : decode cX8_ruleOf 34 = .ok (.iaload, 1) := by decide +kernel
theorem dX8_ruleOf_35 : decode cX8_ruleOf 35 = .ok (.goto 16, 3) := by decide +kernel
theorem dX8_ruleOf_38 : decode cX8_ruleOf 38 = .ok (.aload_n 0, 1) := by decide +kernel
theorem dX8_ruleOf_39 : decode cX8_ruleOf 39 = .ok (.iload_n 1, 1) := by decide +kernel
theorem dX8_ruleOf_40 : decode cX8_ruleOf 40 = .ok (.invokevirtual 156, 3) := by decide +kernel
theorem dX8_ruleOf_43 : decode cX8_ruleOf 43 = .ok (.ifCond .eq 7, 3) := by decide +kernel
theorem dX8_ruleOf_46 : decode cX8_ruleOf 46 = .ok (.iconst 1, 1) := by decide +kernel
theorem dX8_ruleOf_47 : decode cX8_ruleOf 47 = .ok (.goto 4, 3) := by decide +kernel
theorem dX8_ruleOf_50 : decode cX8_ruleOf 50 = .ok (.iconst 0, 1) := by decide +kernel
theorem dX8_ruleOf_51 : decode cX8_ruleOf 51 = .ok (.ireturn, 1) := by decide +kernel
set_option maxRecDepth 20000 in
theorem ggX8_lane_X8_isApple : GoodIn wsX8_lane wsX8_isApple := goodIn_r _ [4, 5, 6, 3, 7] (by decide +kernel) (by decide +kernel)
set_option maxRecDepth 20000 in
theorem gX8_lane_X8_isApple : GoodIn wsX8_lane (va_wsS RX8 86 yX8_isApple wsX8_isApple) := goodIn_app (goodIn_of _ (by decide +kernel)) ggX8_lane_X8_isApple
set_option maxRecDepth 20000 in
theorem ggX8_lane_X8_in : GoodIn wsX8_lane wsX8_in := goodIn_r _ [7] (by decide +kernel) (by decide +kernel)
set_option maxRecDepth 20000 in
theorem gX8_lane_X8_in : GoodIn wsX8_lane (va_wsS RX8 32 yX8_in wsX8_in) := goodIn_app (goodIn_of _ (by decide +kernel)) ggX8_lane_X8_in
set_option maxRecDepth 20000 in
theorem ggX8_lane_X8_packed : GoodIn wsX8_lane wsX8_packed := goodIn_r _ [10] (by decide +kernel) (by decide +kernel)
set_option maxRecDepth 20000 in
theorem gX8_lane_X8_packed : GoodIn wsX8_lane (va_wsS RX8 46 yX8_packed wsX8_packed) := goodIn_app (goodIn_of _ (by decide +kernel)) ggX8_lane_X8_packed
set_option maxRecDepth 20000 in
theorem ggX8_lane_X8_seen : GoodIn wsX8_lane wsX8_seen := goodIn_r _ [14, 15, 16, 17, 3, 18, 19, 20, 21, 22, 23, 24, 8, 9, 10, 40, 41, 42, 43, 44, 45, 46, 47, 48, 49, 50] (by decide +kernel) (by decide +kernel)
set_option maxRecDepth 20000 in
theorem gX8_lane_X8_seen : GoodIn wsX8_lane (wsV RX8 63 RX8 yX8_seen wsX8_seen) := goodIn_app (goodIn_of _ (by decide +kernel)) ggX8_lane_X8_seen
set_option maxRecDepth 20000 in
theorem ggX8_lane_X8_laneOf : GoodIn wsX8_lane wsX8_laneOf := goodIn_r _ [28, 15, 29, 30, 31, 3, 32, 33, 34, 35, 22, 23, 24, 16, 17, 18, 19, 20, 21, 40, 41, 42, 43, 44, 45, 46, 47, 48, 49, 50] (by decide +kernel) (by decide +kernel)
set_option maxRecDepth 20000 in
theorem gX8_lane_X8_laneOf : GoodIn wsX8_lane (wsV RX8 66 RX8 yX8_laneOf wsX8_laneOf) := goodIn_app (goodIn_of _ (by decide +kernel)) ggX8_lane_X8_laneOf
set_option maxRecDepth 20000 in
theorem ggX8_lane_X8_laneFromLast : GoodIn wsX8_lane wsX8_laneFromLast := goodIn_r _ [39, 15, 29, 30, 31, 3, 32, 33, 34, 35, 22, 23, 24, 16, 17, 18, 19, 20, 21, 40, 41, 42, 43, 44, 45, 46, 47, 48, 49, 50] (by decide +kernel) (by decide +kernel)
set_option maxRecDepth 20000 in
theorem gX8_lane_X8_laneFromLast : GoodIn wsX8_lane (wsV RX8 159 RX8 yX8_laneFromLast wsX8_laneFromLast) := goodIn_app (goodIn_of _ (by decide +kernel)) ggX8_lane_X8_laneFromLast
theorem dX8_lane_0 : decode cX8_lane 0 = .ok (.iload_n 1, 1) := by decide +kernel
theorem dX8_lane_1 : decode cX8_lane 1 = .ok (.iload_n 2, 1) := by decide +kernel
theorem dX8_lane_2 : decode cX8_lane 2 = .ok (.iload_n 3, 1) := by decide +kernel
theorem dX8_lane_3 : decode cX8_lane 3 = .ok (.invokestatic 86, 3) := by decide +kernel
theorem dX8_lane_6 : decode cX8_lane 6 = .ok (.ifCond .eq 13, 3) := by decide +kernel
theorem dX8_lane_9 : decode cX8_lane 9 = .ok (.iload 4, 2) := by decide +kernel
theorem dX8_lane_11 : decode cX8_lane 11 = .ok (.iconst 0, 1) := by decide +kernel
theorem dX8_lane_12 : decode cX8_lane 12 = .ok (.iconst 1, 1) := by decide +kernel
theorem dX8_lane_13 : decode cX8_lane 13 = .ok (.invokestatic 32, 3) := by decide +kernel
theorem dX8_lane_16 : decode cX8_lane 16 = .ok (.ifCond .ne 5, 3) := by decide +kernel
theorem dX8_lane_19 : decode cX8_lane 19 = .ok (.iconst (-1), 1) := by decide +kernel
theorem dX8_lane_20 : decode cX8_lane 20 = .ok (.ireturn, 1) := by decide +kernel
theorem dX8_lane_21 : decode cX8_lane 21 = .ok (.aload_n 0, 1) := by decide +kernel
theorem dX8_lane_22 : decode cX8_lane 22 = .ok (.iload_n 1, 1) := by decide +kernel
theorem dX8_lane_23 : decode cX8_lane 23 = .ok (.iload_n 2, 1) := by decide +kernel
theorem dX8_lane_24 : decode cX8_lane 24 = .ok (.iload_n 3, 1) := by decide +kernel
theorem dX8_lane_25 : decode cX8_lane 25 = .ok (.invokestatic 46, 3) := by decide +kernel
theorem dX8_lane_28 : decode cX8_lane 28 = .ok (.invokevirtual 63, 3) := by decide +kernel
theorem dX8_lane_31 : decode cX8_lane 31 = .ok (.istore 5, 2) := by decide +kernel
theorem dX8_lane_33 : decode cX8_lane 33 = .ok (.iload 4, 2) := by decide +kernel
theorem dX8_lane_35 : decode cX8_lane 35 = .ok (.ifCond .ne 12, 3) := by decide +kernel
theorem dX8_lane_38 : decode cX8_lane 38 = .ok (.aload_n 0, 1) := by decide +kernel
theorem dX8_lane_39 : decode cX8_lane 39 = .ok (.iload 5, 2) := by decide +kernel
theorem dX8_lane_41 : decode cX8_lane 41 = .ok (.invokevirtual 66, 3) := by decide +kernel
theorem dX8_lane_44 : decode cX8_lane 44 = .ok (.goto 9, 3) := by decide +kernel
theorem dX8_lane_47 : decode cX8_lane 47 = .ok (.aload_n 0, 1) := by decide +kernel
theorem dX8_lane_48 : decode cX8_lane 48 = .ok (.iload 5, 2) := by decide +kernel
theorem dX8_lane_50 : decode cX8_lane 50 = .ok (.invokevirtual 159, 3) := by decide +kernel
theorem dX8_lane_53 : decode cX8_lane 53 = .ok (.ireturn, 1) := by decide +kernel
set_option maxRecDepth 20000 in
theorem ggX8_misses_X8_isRule : GoodIn wsX8_misses wsX8_isRule := goodIn_r _ [5, 6, 7, 8, 4, 9, 36, 37, 38, 39, 40, 41, 42, 43, 44, 45, 46] (by decide +kernel) (by decide +kernel)
set_option maxRecDepth 20000 in
theorem gX8_misses_X8_isRule : GoodIn wsX8_misses (wsV RX8 99 RX8 yX8_isRule wsX8_isRule) := goodIn_app (goodIn_of _ (by decide +kernel)) ggX8_misses_X8_isRule
set_option maxRecDepth 20000 in
theorem ggX8_misses_X8_isApple : GoodIn wsX8_misses wsX8_isApple := goodIn_r _ [12, 7, 8, 4, 9] (by decide +kernel) (by decide +kernel)
set_option maxRecDepth 20000 in
theorem gX8_misses_X8_isApple : GoodIn wsX8_misses (va_wsS RX8 86 yX8_isApple wsX8_isApple) := goodIn_app (goodIn_of _ (by decide +kernel)) ggX8_misses_X8_isApple
set_option maxRecDepth 20000 in
theorem ggX8_misses_X8_packed : GoodIn wsX8_misses wsX8_packed := goodIn_r _ [15] (by decide +kernel) (by decide +kernel)
set_option maxRecDepth 20000 in
theorem gX8_misses_X8_packed : GoodIn wsX8_misses (va_wsS RX8 46 yX8_packed wsX8_packed) := goodIn_app (goodIn_of _ (by decide +kernel)) ggX8_misses_X8_packed
set_option maxRecDepth 20000 in
theorem ggX8_misses_X8_seen : GoodIn wsX8_misses wsX8_seen := goodIn_r _ [19, 6, 20, 21, 4, 22, 23, 24, 25, 26, 27, 28, 13, 14, 15, 36, 37, 38, 39, 40, 41, 42, 43, 44, 45, 46] (by decide +kernel) (by decide +kernel)
set_option maxRecDepth 20000 in
theorem gX8_misses_X8_seen : GoodIn wsX8_misses (wsV RX8 63 RX8 yX8_seen wsX8_seen) := goodIn_app (goodIn_of _ (by decide +kernel)) ggX8_misses_X8_seen
set_option maxRecDepth 20000 in
theorem ggX8_misses_X8_missed : GoodIn wsX8_misses wsX8_missed := goodIn_r _ [32, 6, 33, 34, 4, 35, 26, 27, 28, 20, 21, 22, 23, 24, 25, 36, 37, 38, 39, 40, 41, 42, 43, 44, 45, 46] (by decide +kernel) (by decide +kernel)
set_option maxRecDepth 20000 in
theorem gX8_misses_X8_missed : GoodIn wsX8_misses (wsV RX8 53 RX8 yX8_missed wsX8_missed) := goodIn_app (goodIn_of _ (by decide +kernel)) ggX8_misses_X8_missed
theorem dX8_misses_0 : decode cX8_misses 0 = .ok (.aload_n 0, 1) := by decide +kernel
theorem dX8_misses_1 : decode cX8_misses 1 = .ok (.iload_n 1, 1) := by decide +kernel
theorem dX8_misses_2 : decode cX8_misses 2 = .ok (.invokevirtual 99, 3) := by decide +kernel
theorem dX8_misses_5 : decode cX8_misses 5 = .ok (.ifCond .eq 32, 3) := by decide +kernel
theorem dX8_misses_8 : decode cX8_misses 8 = .ok (.iload_n 2, 1) := by decide +kernel
theorem dX8_misses_9 : decode cX8_misses 9 = .ok (.iload_n 3, 1) := by decide +kernel
theorem dX8_misses_10 : decode cX8_misses 10 = .ok (.iload 4, 2) := by decide +kernel
theorem dX8_misses_12 : decode cX8_misses 12 = .ok (.invokestatic 86, 3) := by decide +kernel
theorem dX8_misses_15 : decode cX8_misses 15 = .ok (.ifCond .eq 22, 3) := by decide +kernel
theorem dX8_misses_18 : decode cX8_misses 18 = .ok (.aload_n 0, 1) := by decide +kernel
theorem dX8_misses_19 : decode cX8_misses 19 = .ok (.iload_n 1, 1) := by decide +kernel
theorem dX8_misses_20 : decode cX8_misses 20 = .ok (.aload_n 0, 1) := by decide +kernel
theorem dX8_misses_21 : decode cX8_misses 21 = .ok (.iload_n 2, 1) := by decide +kernel
theorem dX8_misses_22 : decode cX8_misses 22 = .ok (.iload_n 3, 1) := by decide +kernel
theorem dX8_misses_23 : decode cX8_misses 23 = .ok (.iload 4, 2) := by decide +kernel
theorem dX8_misses_25 : decode cX8_misses 25 = .ok (.invokestatic 46, 3) := by decide +kernel
theorem dX8_misses_28 : decode cX8_misses 28 = .ok (.invokevirtual 63, 3) := by decide +kernel
theorem dX8_misses_31 : decode cX8_misses 31 = .ok (.invokevirtual 53, 3) := by decide +kernel
theorem dX8_misses_34 : decode cX8_misses 34 = .ok (.goto 4, 3) := by decide +kernel
theorem dX8_misses_37 : decode cX8_misses 37 = .ok (.iconst (-1), 1) := by decide +kernel
theorem dX8_misses_38 : decode cX8_misses 38 = .ok (.ireturn, 1) := by decide +kernel
set_option maxRecDepth 20000 in
theorem ggX8_onBelt_X8_cupAt : GoodIn wsX8_onBelt wsX8_cupAt := goodIn_r _ [5] (by decide +kernel) (by decide +kernel)
set_option maxRecDepth 20000 in
theorem gX8_onBelt_X8_cupAt : GoodIn wsX8_onBelt (va_wsS RX8 60 yX8_cupAt wsX8_cupAt) := goodIn_app (goodIn_of _ (by decide +kernel)) ggX8_onBelt_X8_cupAt
theorem dX8_onBelt_0 : decode cX8_onBelt 0 = .ok (.iconst 0, 1) := by decide +kernel
theorem dX8_onBelt_1 : decode cX8_onBelt 1 = .ok (.istore_n 1, 1) := by decide +kernel
theorem dX8_onBelt_2 : decode cX8_onBelt 2 = .ok (.iconst 0, 1) := by decide +kernel
theorem dX8_onBelt_3 : decode cX8_onBelt 3 = .ok (.istore_n 2, 1) := by decide +kernel
theorem dX8_onBelt_4 : decode cX8_onBelt 4 = .ok (.iload_n 2, 1) := by decide +kernel
theorem dX8_onBelt_5 : decode cX8_onBelt 5 = .ok (.bipush 12, 2) := by decide +kernel
theorem dX8_onBelt_7 : decode cX8_onBelt 7 = .ok (.if_icmp .ge 21, 3) := by decide +kernel
theorem dX8_onBelt_10 : decode cX8_onBelt 10 = .ok (.iload_n 1, 1) := by decide +kernel
theorem dX8_onBelt_11 : decode cX8_onBelt 11 = .ok (.aload_n 0, 1) := by decide +kernel
theorem dX8_onBelt_12 : decode cX8_onBelt 12 = .ok (.getfield 7, 3) := by decide +kernel
theorem dX8_onBelt_15 : decode cX8_onBelt 15 = .ok (.iload_n 2, 1) := by decide +kernel
theorem dX8_onBelt_16 : decode cX8_onBelt 16 = .ok (.invokestatic 60, 3) := by decide +kernel
theorem dX8_onBelt_19 : decode cX8_onBelt 19 = .ok (.iaload, 1) := by decide +kernel
theorem dX8_onBelt_20 : decode cX8_onBelt 20 = .ok (.iadd, 1) := by decide +kernel
theorem dX8_onBelt_21 : decode cX8_onBelt 21 = .ok (.istore_n 1, 1) := by decide +kernel
theorem dX8_onBelt_22 : decode cX8_onBelt 22 = .ok (.iinc 2 1, 3) := by decide +kernel
theorem dX8_onBelt_25 : decode cX8_onBelt 25 = .ok (.goto (-21), 3) := by decide +kernel
theorem dX8_onBelt_28 : decode cX8_onBelt 28 = .ok (.iload_n 1, 1) := by decide +kernel
theorem dX8_onBelt_29 : decode cX8_onBelt 29 = .ok (.ireturn, 1) := by decide +kernel
set_option maxRecDepth 20000 in
theorem ggX8_doublesOnBelt_X8_cupAt : GoodIn wsX8_doublesOnBelt wsX8_cupAt := goodIn_r _ [5] (by decide +kernel) (by decide +kernel)
set_option maxRecDepth 20000 in
theorem gX8_doublesOnBelt_X8_cupAt : GoodIn wsX8_doublesOnBelt (va_wsS RX8 60 yX8_cupAt wsX8_cupAt) := goodIn_app (goodIn_of _ (by decide +kernel)) ggX8_doublesOnBelt_X8_cupAt
theorem dX8_doublesOnBelt_0 : decode cX8_doublesOnBelt 0 = .ok (.iconst 0, 1) := by decide +kernel
theorem dX8_doublesOnBelt_1 : decode cX8_doublesOnBelt 1 = .ok (.istore_n 1, 1) := by decide +kernel
theorem dX8_doublesOnBelt_2 : decode cX8_doublesOnBelt 2 = .ok (.iconst 0, 1) := by decide +kernel
theorem dX8_doublesOnBelt_3 : decode cX8_doublesOnBelt 3 = .ok (.istore_n 2, 1) := by decide +kernel
theorem dX8_doublesOnBelt_4 : decode cX8_doublesOnBelt 4 = .ok (.iload_n 2, 1) := by decide +kernel
theorem dX8_doublesOnBelt_5 : decode cX8_doublesOnBelt 5 = .ok (.bipush 12, 2) := by decide +kernel
theorem dX8_doublesOnBelt_7 : decode cX8_doublesOnBelt 7 = .ok (.if_icmp .ge 30, 3) := by decide +kernel
theorem dX8_doublesOnBelt_10 : decode cX8_doublesOnBelt 10 = .ok (.iload_n 1, 1) := by decide +kernel
theorem dX8_doublesOnBelt_11 : decode cX8_doublesOnBelt 11 = .ok (.aload_n 0, 1) := by decide +kernel
theorem dX8_doublesOnBelt_12 : decode cX8_doublesOnBelt 12 = .ok (.getfield 7, 3) := by decide +kernel
theorem dX8_doublesOnBelt_15 : decode cX8_doublesOnBelt 15 = .ok (.iload_n 2, 1) := by decide +kernel
theorem dX8_doublesOnBelt_16 : decode cX8_doublesOnBelt 16 = .ok (.invokestatic 60, 3) := by decide +kernel
theorem dX8_doublesOnBelt_19 : decode cX8_doublesOnBelt 19 = .ok (.iaload, 1) := by decide +kernel
theorem dX8_doublesOnBelt_20 : decode cX8_doublesOnBelt 20 = .ok (.iconst 2, 1) := by decide +kernel
theorem dX8_doublesOnBelt_21 : decode cX8_doublesOnBelt 21 = .ok (.if_icmp .ne 7, 3) := by decide +kernel
theorem dX8_doublesOnBelt_24 : decode cX8_doublesOnBelt 24 = .ok (.iconst 1, 1) := by decide +kernel
theorem dX8_doublesOnBelt_25 : decode cX8_doublesOnBelt 25 = .ok (.goto 4, 3) := by decide +kernel
theorem dX8_doublesOnBelt_28 : decode cX8_doublesOnBelt 28 = .ok (.iconst 0, 1) := by decide +kernel
theorem dX8_doublesOnBelt_29 : decode cX8_doublesOnBelt 29 = .ok (.iadd, 1) := by decide +kernel
theorem dX8_doublesOnBelt_30 : decode cX8_doublesOnBelt 30 = .ok (.istore_n 1, 1) := by decide +kernel
theorem dX8_doublesOnBelt_31 : decode cX8_doublesOnBelt 31 = .ok (.iinc 2 1, 3) := by decide +kernel
theorem dX8_doublesOnBelt_34 : decode cX8_doublesOnBelt 34 = .ok (.goto (-30), 3) := by decide +kernel
theorem dX8_doublesOnBelt_37 : decode cX8_doublesOnBelt 37 = .ok (.iload_n 1, 1) := by decide +kernel
theorem dX8_doublesOnBelt_38 : decode cX8_doublesOnBelt 38 = .ok (.ireturn, 1) := by decide +kernel
theorem dX8_inBoxes_0 : decode cX8_inBoxes 0 = .ok (.iconst 0, 1) := by decide +kernel
theorem dX8_inBoxes_1 : decode cX8_inBoxes 1 = .ok (.istore_n 2, 1) := by decide +kernel
theorem dX8_inBoxes_2 : decode cX8_inBoxes 2 = .ok (.iconst 0, 1) := by decide +kernel
theorem dX8_inBoxes_3 : decode cX8_inBoxes 3 = .ok (.istore_n 3, 1) := by decide +kernel
theorem dX8_inBoxes_4 : decode cX8_inBoxes 4 = .ok (.iload_n 3, 1) := by decide +kernel
theorem dX8_inBoxes_5 : decode cX8_inBoxes 5 = .ok (.iload_n 1, 1) := by decide +kernel
theorem dX8_inBoxes_6 : decode cX8_inBoxes 6 = .ok (.if_icmp .ge 21, 3) := by decide +kernel
theorem dX8_inBoxes_9 : decode cX8_inBoxes 9 = .ok (.iload_n 2, 1) := by decide +kernel
theorem dX8_inBoxes_10 : decode cX8_inBoxes 10 = .ok (.aload_n 0, 1) := by decide +kernel
theorem dX8_inBoxes_11 : decode cX8_inBoxes 11 = .ok (.getfield 7, 3) := by decide +kernel
theorem dX8_inBoxes_14 : decode cX8_inBoxes 14 = .ok (.bipush 85, 2) := by decide +kernel
theorem dX8_inBoxes_16 : decode cX8_inBoxes 16 = .ok (.iload_n 3, 1) := by decide +kernel
theorem dX8_inBoxes_17 : decode cX8_inBoxes 17 = .ok (.iadd, 1) := by decide +kernel
theorem dX8_inBoxes_18 : decode cX8_inBoxes 18 = .ok (.iaload, 1) := by decide +kernel
theorem dX8_inBoxes_19 : decode cX8_inBoxes 19 = .ok (.iadd, 1) := by decide +kernel
theorem dX8_inBoxes_20 : decode cX8_inBoxes 20 = .ok (.istore_n 2, 1) := by decide +kernel
theorem dX8_inBoxes_21 : decode cX8_inBoxes 21 = .ok (.iinc 3 1, 3) := by decide +kernel
theorem dX8_inBoxes_24 : decode cX8_inBoxes 24 = .ok (.goto (-20), 3) := by decide +kernel
theorem dX8_inBoxes_27 : decode cX8_inBoxes 27 = .ok (.iload_n 2, 1) := by decide +kernel
theorem dX8_inBoxes_28 : decode cX8_inBoxes 28 = .ok (.ireturn, 1) := by decide +kernel
set_option maxRecDepth 20000 in
theorem ggX8_wrongOnes_X8_wrongIn : GoodIn wsX8_wrongOnes wsX8_wrongIn := goodIn_r _ [5, 6, 7, 8, 4, 9, 10, 11, 12, 13, 14, 15, 16, 17, 18, 19, 20, 21, 22, 23, 24, 25, 26, 27, 28, 29, 30, 31, 32, 33, 34, 35, 36, 37, 38, 39, 40, 41, 42, 43, 44] (by decide +kernel) (by decide +kernel)
set_option maxRecDepth 20000 in
theorem gX8_wrongOnes_X8_wrongIn : GoodIn wsX8_wrongOnes (wsV RX8 147 RX8 yX8_wrongIn wsX8_wrongIn) := goodIn_app (goodIn_of _ (by decide +kernel)) ggX8_wrongOnes_X8_wrongIn
theorem dX8_wrongOnes_0 : decode cX8_wrongOnes 0 = .ok (.iconst 0, 1) := by decide +kernel
theorem dX8_wrongOnes_1 : decode cX8_wrongOnes 1 = .ok (.istore_n 1, 1) := by decide +kernel
theorem dX8_wrongOnes_2 : decode cX8_wrongOnes 2 = .ok (.iconst 0, 1) := by decide +kernel
theorem dX8_wrongOnes_3 : decode cX8_wrongOnes 3 = .ok (.istore_n 2, 1) := by decide +kernel
theorem dX8_wrongOnes_4 : decode cX8_wrongOnes 4 = .ok (.iload_n 2, 1) := by decide +kernel
theorem dX8_wrongOnes_5 : decode cX8_wrongOnes 5 = .ok (.iconst 4, 1) := by decide +kernel
theorem dX8_wrongOnes_6 : decode cX8_wrongOnes 6 = .ok (.if_icmp .ge 17, 3) := by decide +kernel
theorem dX8_wrongOnes_9 : decode cX8_wrongOnes 9 = .ok (.iload_n 1, 1) := by decide +kernel
theorem dX8_wrongOnes_10 : decode cX8_wrongOnes 10 = .ok (.aload_n 0, 1) := by decide +kernel
theorem dX8_wrongOnes_11 : decode cX8_wrongOnes 11 = .ok (.iload_n 2, 1) := by decide +kernel
theorem dX8_wrongOnes_12 : decode cX8_wrongOnes 12 = .ok (.invokevirtual 147, 3) := by decide +kernel
theorem dX8_wrongOnes_15 : decode cX8_wrongOnes 15 = .ok (.iadd, 1) := by decide +kernel
theorem dX8_wrongOnes_16 : decode cX8_wrongOnes 16 = .ok (.istore_n 1, 1) := by decide +kernel
theorem dX8_wrongOnes_17 : decode cX8_wrongOnes 17 = .ok (.iinc 2 1, 3) := by decide +kernel
theorem dX8_wrongOnes_20 : decode cX8_wrongOnes 20 = .ok (.goto (-16), 3) := by decide +kernel
theorem dX8_wrongOnes_23 : decode cX8_wrongOnes 23 = .ok (.iload_n 1, 1) := by decide +kernel
theorem dX8_wrongOnes_24 : decode cX8_wrongOnes 24 = .ok (.ireturn, 1) := by decide +kernel
set_option maxRecDepth 20000 in
theorem ggX8_count_X8_onBelt : GoodIn wsX8_count wsX8_onBelt := goodIn_r _ [8, 1, 9, 10, 7, 11, 55, 56, 57, 58, 59, 60, 61, 62, 63, 64, 65] (by decide +kernel) (by decide +kernel)
set_option maxRecDepth 20000 in
theorem gX8_count_X8_onBelt : GoodIn wsX8_count (wsV RX8 162 RX8 yX8_onBelt wsX8_onBelt) := goodIn_app (goodIn_of _ (by decide +kernel)) ggX8_count_X8_onBelt
set_option maxRecDepth 20000 in
theorem ggX8_count_X8_doublesOnBelt : GoodIn wsX8_count wsX8_doublesOnBelt := goodIn_r _ [15, 1, 9, 10, 7, 11, 55, 56, 57, 58, 59, 60, 61, 62, 63, 64, 65] (by decide +kernel) (by decide +kernel)
set_option maxRecDepth 20000 in
theorem gX8_count_X8_doublesOnBelt : GoodIn wsX8_count (wsV RX8 165 RX8 yX8_doublesOnBelt wsX8_doublesOnBelt) := goodIn_app (goodIn_of _ (by decide +kernel)) ggX8_count_X8_doublesOnBelt
set_option maxRecDepth 20000 in
theorem ggX8_count_X8_inBoxes : GoodIn wsX8_count wsX8_inBoxes := goodIn_r _ [19, 1, 55, 56, 57, 58, 59, 60, 61, 62, 63, 64, 65] (by decide +kernel) (by decide +kernel)
set_option maxRecDepth 20000 in
theorem gX8_count_X8_inBoxes : GoodIn wsX8_count (wsV RX8 168 RX8 yX8_inBoxes wsX8_inBoxes) := goodIn_app (goodIn_of _ (by decide +kernel)) ggX8_count_X8_inBoxes
set_option maxRecDepth 20000 in
theorem ggX8_count_X8_wrongOnes : GoodIn wsX8_count wsX8_wrongOnes := goodIn_r _ [23, 24, 25, 26, 7, 27, 1, 28, 29, 30, 31, 32, 33, 34, 35, 36, 37, 38, 39, 40, 41, 42, 43, 44, 45, 46, 47, 48, 49, 50, 51, 52, 53, 54, 55, 56, 57, 58, 59, 60, 61, 62, 63, 64, 65] (by decide +kernel) (by decide +kernel)
set_option maxRecDepth 20000 in
theorem gX8_count_X8_wrongOnes : GoodIn wsX8_count (wsV RX8 171 RX8 yX8_wrongOnes wsX8_wrongOnes) := goodIn_app (goodIn_of _ (by decide +kernel)) ggX8_count_X8_wrongOnes
theorem dX8_count_0 : decode cX8_count 0 = .ok (.iload_n 1, 1) := by decide +kernel
theorem dX8_count_1 : decode cX8_count 1 = .ok (.tableswitch 162 0 15 #[79, 86, 95, 100, 105, 111, 116, 116, 116, 116, 116, 130, 140, 140, 152, 157], 79) := by decide +kernel
theorem dX8_count_80 : decode cX8_count 80 = .ok (.aload_n 0, 1) := by decide +kernel
theorem dX8_count_81 : decode cX8_count 81 = .ok (.getfield 7, 3) := by decide +kernel
theorem dX8_count_84 : decode cX8_count 84 = .ok (.iconst 4, 1) := by decide +kernel
theorem dX8_count_85 : decode cX8_count 85 = .ok (.iaload, 1) := by decide +kernel
theorem dX8_count_86 : decode cX8_count 86 = .ok (.ireturn, 1) := by decide +kernel
theorem dX8_count_87 : decode cX8_count 87 = .ok (.aload_n 0, 1) := by decide +kernel
theorem dX8_count_88 : decode cX8_count 88 = .ok (.getfield 7, 3) := by decide +kernel
theorem dX8_count_91 : decode cX8_count 91 = .ok (.sipush 170, 3) := by decide +kernel
theorem dX8_count_94 : decode cX8_count 94 = .ok (.iaload, 1) := by decide +kernel
theorem dX8_count_95 : decode cX8_count 95 = .ok (.ireturn, 1) := by decide +kernel
theorem dX8_count_96 : decode cX8_count 96 = .ok (.aload_n 0, 1) := by decide +kernel
theorem dX8_count_97 : decode cX8_count 97 = .ok (.invokevirtual 162, 3) := by decide +kernel
theorem dX8_count_100 : decode cX8_count 100 = .ok (.ireturn, 1) := by decide +kernel
theorem dX8_count_101 : decode cX8_count 101 = .ok (.aload_n 0, 1) := by decide +kernel
theorem dX8_count_102 : decode cX8_count 102 = .ok (.invokevirtual 165, 3) := by decide +kernel
theorem dX8_count_105 : decode cX8_count 105 = .ok (.ireturn, 1) := by decide +kernel
theorem dX8_count_106 : decode cX8_count 106 = .ok (.aload_n 0, 1) := by decide +kernel
theorem dX8_count_107 : decode cX8_count 107 = .ok (.iconst 5, 1) := by decide +kernel
theorem dX8_count_108 : decode cX8_count 108 = .ok (.invokevirtual 168, 3) := by decide +kernel
theorem dX8_count_111 : decode cX8_count 111 = .ok (.ireturn, 1) := by decide +kernel
theorem dX8_count_112 : decode cX8_count 112 = .ok (.aload_n 0, 1) := by decide +kernel
theorem dX8_count_113 : decode cX8_count 113 = .ok (.invokevirtual 171, 3) := by decide +kernel
theorem dX8_count_116 : decode cX8_count 116 = .ok (.ireturn, 1) := by decide +kernel
theorem dX8_count_117 : decode cX8_count 117 = .ok (.aload_n 0, 1) := by decide +kernel
theorem dX8_count_118 : decode cX8_count 118 = .ok (.getfield 7, 3) := by decide +kernel
theorem dX8_count_121 : decode cX8_count 121 = .ok (.sipush 171, 3) := by decide +kernel
theorem dX8_count_124 : decode cX8_count 124 = .ok (.iload_n 1, 1) := by decide +kernel
theorem dX8_count_125 : decode cX8_count 125 = .ok (.iadd, 1) := by decide +kernel
theorem dX8_count_126 : decode cX8_count 126 = .ok (.bipush 6, 2) := by decide +kernel
theorem dX8_count_128 : decode cX8_count 128 = .ok (.isub, 1) := by decide +kernel
theorem dX8_count_129 : decode cX8_count 129 = .ok (.iaload, 1) := by decide +kernel
theorem dX8_count_130 : decode cX8_count 130 = .ok (.ireturn, 1) := by decide +kernel
theorem dX8_count_131 : decode cX8_count 131 = .ok (.aload_n 0, 1) := by decide +kernel
theorem dX8_count_132 : decode cX8_count 132 = .ok (.getfield 7, 3) := by decide +kernel
theorem dX8_count_135 : decode cX8_count 135 = .ok (.iconst 0, 1) := by decide +kernel
theorem dX8_count_136 : decode cX8_count 136 = .ok (.iaload, 1) := by decide +kernel
theorem dX8_count_137 : decode cX8_count 137 = .ok (.bipush 20, 2) := by decide +kernel
theorem dX8_count_139 : decode cX8_count 139 = .ok (.iadd, 1) := by decide +kernel
theorem dX8_count_140 : decode cX8_count 140 = .ok (.ireturn, 1) := by decide +kernel
theorem dX8_count_141 : decode cX8_count 141 = .ok (.aload_n 0, 1) := by decide +kernel
theorem dX8_count_142 : decode cX8_count 142 = .ok (.getfield 7, 3) := by decide +kernel
theorem dX8_count_145 : decode cX8_count 145 = .ok (.iconst 1, 1) := by decide +kernel
theorem dX8_count_146 : decode cX8_count 146 = .ok (.iload_n 1, 1) := by decide +kernel
theorem dX8_count_147 : decode cX8_count 147 = .ok (.iadd, 1) := by decide +kernel
theorem dX8_count_148 : decode cX8_count 148 = .ok (.bipush 12, 2) := by decide +kernel
theorem dX8_count_150 : decode cX8_count 150 = .ok (.isub, 1) := by decide +kernel
theorem dX8_count_151 : decode cX8_count 151 = .ok (.iaload, 1) := by decide +kernel
theorem dX8_count_152 : decode cX8_count 152 = .ok (.ireturn, 1) := by decide +kernel
theorem dX8_count_153 : decode cX8_count 153 = .ok (.aload_n 0, 1) := by decide +kernel
theorem dX8_count_154 : decode cX8_count 154 = .ok (.getfield 103, 3) := by decide +kernel
theorem dX8_count_157 : decode cX8_count 157 = .ok (.ireturn, 1) := by decide +kernel
theorem dX8_count_158 : decode cX8_count 158 = .ok (.aload_n 0, 1) := by decide +kernel
theorem dX8_count_159 : decode cX8_count 159 = .ok (.getfield 28, 3) := by decide +kernel
theorem dX8_count_162 : decode cX8_count 162 = .ok (.ireturn, 1) := by decide +kernel
theorem dX8_count_163 : decode cX8_count 163 = .ok (.iconst (-1), 1) := by decide +kernel
theorem dX8_count_164 : decode cX8_count 164 = .ok (.ireturn, 1) := by decide +kernel
set_option maxRecDepth 20000 in
theorem ggX8_right_X8_inBoxes : GoodIn wsX8_right wsX8_inBoxes := goodIn_r _ [5, 6, 42, 43, 44, 45, 46, 47, 48, 49, 50, 51, 52] (by decide +kernel) (by decide +kernel)
set_option maxRecDepth 20000 in
theorem gX8_right_X8_inBoxes : GoodIn wsX8_right (wsV RX8 168 RX8 yX8_inBoxes wsX8_inBoxes) := goodIn_app (goodIn_of _ (by decide +kernel)) ggX8_right_X8_inBoxes
set_option maxRecDepth 20000 in
theorem ggX8_right_X8_wrongOnes : GoodIn wsX8_right wsX8_wrongOnes := goodIn_r _ [10, 11, 12, 13, 4, 14, 6, 15, 16, 17, 18, 19, 20, 21, 22, 23, 24, 25, 26, 27, 28, 29, 30, 31, 32, 33, 34, 35, 36, 37, 38, 39, 40, 41, 42, 43, 44, 45, 46, 47, 48, 49, 50, 51, 52] (by decide +kernel) (by decide +kernel)
set_option maxRecDepth 20000 in
theorem gX8_right_X8_wrongOnes : GoodIn wsX8_right (wsV RX8 171 RX8 yX8_wrongOnes wsX8_wrongOnes) := goodIn_app (goodIn_of _ (by decide +kernel)) ggX8_right_X8_wrongOnes
theorem dX8_right_0 : decode cX8_right 0 = .ok (.aload_n 0, 1) := by decide +kernel
theorem dX8_right_1 : decode cX8_right 1 = .ok (.iconst 4, 1) := by decide +kernel
theorem dX8_right_2 : decode cX8_right 2 = .ok (.invokevirtual 168, 3) := by decide +kernel
theorem dX8_right_5 : decode cX8_right 5 = .ok (.istore_n 1, 1) := by decide +kernel
theorem dX8_right_6 : decode cX8_right 6 = .ok (.iload_n 1, 1) := by decide +kernel
theorem dX8_right_7 : decode cX8_right 7 = .ok (.aload_n 0, 1) := by decide +kernel
theorem dX8_right_8 : decode cX8_right 8 = .ok (.invokevirtual 171, 3) := by decide +kernel
theorem dX8_right_11 : decode cX8_right 11 = .ok (.isub, 1) := by decide +kernel
theorem dX8_right_12 : decode cX8_right 12 = .ok (.i2d, 1) := by decide +kernel
theorem dX8_right_13 : decode cX8_right 13 = .ok (.dstore_n 2, 1) := by decide +kernel
theorem dX8_right_14 : decode cX8_right 14 = .ok (.iload_n 1, 1) := by decide +kernel
theorem dX8_right_15 : decode cX8_right 15 = .ok (.ifCond .ne 7, 3) := by decide +kernel
theorem dX8_right_18 : decode cX8_right 18 = .ok (.dconst 1, 1) := by decide +kernel
theorem dX8_right_19 : decode cX8_right 19 = .ok (.goto 7, 3) := by decide +kernel
theorem dX8_right_22 : decode cX8_right 22 = .ok (.dload_n 2, 1) := by decide +kernel
theorem dX8_right_23 : decode cX8_right 23 = .ok (.iload_n 1, 1) := by decide +kernel
theorem dX8_right_24 : decode cX8_right 24 = .ok (.i2d, 1) := by decide +kernel
theorem dX8_right_25 : decode cX8_right 25 = .ok (.ddiv, 1) := by decide +kernel
theorem dX8_right_26 : decode cX8_right 26 = .ok (.dreturn, 1) := by decide +kernel
set_option maxRecDepth 20000 in
theorem ggX8_ifPassed_X8_in : GoodIn wsX8_ifPassed wsX8_in := goodIn_r _ [5] (by decide +kernel) (by decide +kernel)
set_option maxRecDepth 20000 in
theorem gX8_ifPassed_X8_in : GoodIn wsX8_ifPassed (va_wsS RX8 32 yX8_in wsX8_in) := goodIn_app (goodIn_of _ (by decide +kernel)) ggX8_ifPassed_X8_in
set_option maxRecDepth 20000 in
theorem ggX8_ifPassed_X8_putsAside : GoodIn wsX8_ifPassed wsX8_putsAside := goodIn_r _ [9, 10, 1, 84, 85, 86, 87, 88, 89, 90, 91, 92, 93, 94] (by decide +kernel) (by decide +kernel)
set_option maxRecDepth 20000 in
theorem gX8_ifPassed_X8_putsAside : GoodIn wsX8_ifPassed (wsV RX8 174 RX8 yX8_putsAside wsX8_putsAside) := goodIn_app (goodIn_of _ (by decide +kernel)) ggX8_ifPassed_X8_putsAside
set_option maxRecDepth 20000 in
theorem ggX8_ifPassed_X8_tick : GoodIn wsX8_ifPassed wsX8_tick := goodIn_r _ [14, 1, 15, 16, 17, 4, 18, 19, 20, 21, 22, 23, 24, 25, 26, 27, 28, 29, 30, 31, 32, 33, 34, 35, 36, 37, 38, 39, 40, 41, 42, 43, 44, 45, 46, 47, 48, 49, 50, 51, 52, 53, 54, 55, 56, 57, 58, 59, 60, 61, 62, 63, 64, 65, 66, 67, 84, 85, 86, 87, 88, 89, 90, 91, 92, 93, 94] (by decide +kernel) (by decide +kernel)
set_option maxRecDepth 20000 in
theorem gX8_ifPassed_X8_tick : GoodIn wsX8_ifPassed (wsV RX8 96 RX8 yX8_tick wsX8_tick) := goodIn_app (goodIn_of _ (by decide +kernel)) ggX8_ifPassed_X8_tick
set_option maxRecDepth 20000 in
theorem ggX8_ifPassed_X8_wrongOnes : GoodIn wsX8_ifPassed wsX8_wrongOnes := goodIn_r _ [71, 72, 73, 74, 4, 75, 1, 61, 62, 63, 76, 77, 78, 79, 42, 43, 44, 45, 46, 47, 48, 49, 50, 51, 52, 36, 37, 38, 30, 31, 32, 33, 34, 35, 84, 85, 86, 87, 88, 89, 90, 91, 92, 93, 94] (by decide +kernel) (by decide +kernel)
set_option maxRecDepth 20000 in
theorem gX8_ifPassed_X8_wrongOnes : GoodIn wsX8_ifPassed (wsV RX8 171 RX8 yX8_wrongOnes wsX8_wrongOnes) := goodIn_app (goodIn_of _ (by decide +kernel)) ggX8_ifPassed_X8_wrongOnes
set_option maxRecDepth 20000 in
theorem ggX8_ifPassed_X8_putsBack : GoodIn wsX8_ifPassed wsX8_putsBack := goodIn_r _ [83, 1, 10, 84, 85, 86, 87, 88, 89, 90, 91, 92, 93, 94] (by decide +kernel) (by decide +kernel)
set_option maxRecDepth 20000 in
theorem gX8_ifPassed_X8_putsBack : GoodIn wsX8_ifPassed (wsV RX8 177 RX8 yX8_putsBack wsX8_putsBack) := goodIn_app (goodIn_of _ (by decide +kernel)) ggX8_ifPassed_X8_putsBack
theorem dX8_ifPassed_0 : decode cX8_ifPassed 0 = .ok (.iload_n 1, 1) := by decide +kernel
theorem dX8_ifPassed_1 : decode cX8_ifPassed 1 = .ok (.iconst 1, 1) := by decide +kernel
theorem dX8_ifPassed_2 : decode cX8_ifPassed 2 = .ok (.bipush 30, 2) := by decide +kernel
theorem dX8_ifPassed_4 : decode cX8_ifPassed 4 = .ok (.invokestatic 32, 3) := by decide +kernel
theorem dX8_ifPassed_7 : decode cX8_ifPassed 7 = .ok (.ifCond .eq 12, 3) := by decide +kernel
theorem dX8_ifPassed_10 : decode cX8_ifPassed 10 = .ok (.iload_n 2, 1) := by decide +kernel
theorem dX8_ifPassed_11 : decode cX8_ifPassed 11 = .ok (.iconst 0, 1) := by decide +kernel
theorem dX8_ifPassed_12 : decode cX8_ifPassed 12 = .ok (.iconst 3, 1) := by decide +kernel
theorem dX8_ifPassed_13 : decode cX8_ifPassed 13 = .ok (.invokestatic 32, 3) := by decide +kernel
theorem dX8_ifPassed_16 : decode cX8_ifPassed 16 = .ok (.ifCond .ne 5, 3) := by decide +kernel
theorem dX8_ifPassed_19 : decode cX8_ifPassed 19 = .ok (.iconst (-1), 1) := by decide +kernel
theorem dX8_ifPassed_20 : decode cX8_ifPassed 20 = .ok (.ireturn, 1) := by decide +kernel
theorem dX8_ifPassed_21 : decode cX8_ifPassed 21 = .ok (.aload_n 0, 1) := by decide +kernel
theorem dX8_ifPassed_22 : decode cX8_ifPassed 22 = .ok (.invokevirtual 174, 3) := by decide +kernel
theorem dX8_ifPassed_25 : decode cX8_ifPassed 25 = .ok (.aload_n 0, 1) := by decide +kernel
theorem dX8_ifPassed_26 : decode cX8_ifPassed 26 = .ok (.getfield 7, 3) := by decide +kernel
theorem dX8_ifPassed_29 : decode cX8_ifPassed 29 = .ok (.sipush 172, 3) := by decide +kernel
theorem dX8_ifPassed_32 : decode cX8_ifPassed 32 = .ok (.iaload, 1) := by decide +kernel
theorem dX8_ifPassed_33 : decode cX8_ifPassed 33 = .ok (.istore_n 3, 1) := by decide +kernel
theorem dX8_ifPassed_34 : decode cX8_ifPassed 34 = .ok (.bipush (-4), 2) := by decide +kernel
theorem dX8_ifPassed_36 : decode cX8_ifPassed 36 = .ok (.istore 4, 2) := by decide +kernel
theorem dX8_ifPassed_38 : decode cX8_ifPassed 38 = .ok (.iconst 0, 1) := by decide +kernel
theorem dX8_ifPassed_39 : decode cX8_ifPassed 39 = .ok (.istore 5, 2) := by decide +kernel
theorem dX8_ifPassed_41 : decode cX8_ifPassed 41 = .ok (.iconst 1, 1) := by decide +kernel
theorem dX8_ifPassed_42 : decode cX8_ifPassed 42 = .ok (.istore 6, 2) := by decide +kernel
theorem dX8_ifPassed_44 : decode cX8_ifPassed 44 = .ok (.iload 6, 2) := by decide +kernel
theorem dX8_ifPassed_46 : decode cX8_ifPassed 46 = .ok (.iload_n 1, 1) := by decide +kernel
theorem dX8_ifPassed_47 : decode cX8_ifPassed 47 = .ok (.if_icmp .gt 44, 3) := by decide +kernel
theorem dX8_ifPassed_50 : decode cX8_ifPassed 50 = .ok (.iload 5, 2) := by decide +kernel
theorem dX8_ifPassed_52 : decode cX8_ifPassed 52 = .ok (.aload_n 0, 1) := by decide +kernel
theorem dX8_ifPassed_53 : decode cX8_ifPassed 53 = .ok (.invokevirtual 96, 3) := by decide +kernel
theorem dX8_ifPassed_56 : decode cX8_ifPassed 56 = .ok (.iadd, 1) := by decide +kernel
theorem dX8_ifPassed_57 : decode cX8_ifPassed 57 = .ok (.istore 5, 2) := by decide +kernel
theorem dX8_ifPassed_59 : decode cX8_ifPassed 59 = .ok (.iload 4, 2) := by decide +kernel
theorem dX8_ifPassed_61 : decode cX8_ifPassed 61 = .ok (.ifCond .ge 20, 3) := by decide +kernel
theorem dX8_ifPassed_64 : decode cX8_ifPassed 64 = .ok (.aload_n 0, 1) := by decide +kernel
theorem dX8_ifPassed_65 : decode cX8_ifPassed 65 = .ok (.getfield 7, 3) := by decide +kernel
theorem dX8_ifPassed_68 : decode cX8_ifPassed 68 = .ok (.sipush 172, 3) := by decide +kernel
theorem dX8_ifPassed_71 : decode cX8_ifPassed 71 = .ok (.iaload, 1) := by decide +kernel
theorem dX8_ifPassed_72 : decode cX8_ifPassed 72 = .ok (.iload_n 3, 1) := by decide +kernel
theorem dX8_ifPassed_73 : decode cX8_ifPassed 73 = .ok (.if_icmp .le 8, 3) := by decide +kernel
theorem dX8_ifPassed_76 : decode cX8_ifPassed 76 = .ok (.iload 6, 2) := by decide +kernel
theorem dX8_ifPassed_78 : decode cX8_ifPassed 78 = .ok (.goto 5, 3) := by decide +kernel
theorem dX8_ifPassed_81 : decode cX8_ifPassed 81 = .ok (.iload 4, 2) := by decide +kernel
theorem dX8_ifPassed_83 : decode cX8_ifPassed 83 = .ok (.istore 4, 2) := by decide +kernel
theorem dX8_ifPassed_85 : decode cX8_ifPassed 85 = .ok (.iinc 6 1, 3) := by decide +kernel
theorem dX8_ifPassed_88 : decode cX8_ifPassed 88 = .ok (.goto (-44), 3) := by decide +kernel
theorem dX8_ifPassed_91 : decode cX8_ifPassed 91 = .ok (.iload_n 2, 1) := by decide +kernel
theorem dX8_ifPassed_92 : decode cX8_ifPassed 92 = .ok (.ifCond .ne 8, 3) := by decide +kernel
theorem dX8_ifPassed_95 : decode cX8_ifPassed 95 = .ok (.iload 5, 2) := by decide +kernel
theorem dX8_ifPassed_97 : decode cX8_ifPassed 97 = .ok (.goto 35, 3) := by decide +kernel
theorem dX8_ifPassed_100 : decode cX8_ifPassed 100 = .ok (.iload_n 2, 1) := by decide +kernel
theorem dX8_ifPassed_101 : decode cX8_ifPassed 101 = .ok (.iconst 1, 1) := by decide +kernel
theorem dX8_ifPassed_102 : decode cX8_ifPassed 102 = .ok (.if_icmp .ne 16, 3) := by decide +kernel
theorem dX8_ifPassed_105 : decode cX8_ifPassed 105 = .ok (.aload_n 0, 1) := by decide +kernel
theorem dX8_ifPassed_106 : decode cX8_ifPassed 106 = .ok (.getfield 7, 3) := by decide +kernel
theorem dX8_ifPassed_109 : decode cX8_ifPassed 109 = .ok (.sipush 172, 3) := by decide +kernel
theorem dX8_ifPassed_112 : decode cX8_ifPassed 112 = .ok (.iaload, 1) := by decide +kernel
theorem dX8_ifPassed_113 : decode cX8_ifPassed 113 = .ok (.iload_n 3, 1) := by decide +kernel
theorem dX8_ifPassed_114 : decode cX8_ifPassed 114 = .ok (.isub, 1) := by decide +kernel
theorem dX8_ifPassed_115 : decode cX8_ifPassed 115 = .ok (.goto 17, 3) := by decide +kernel
theorem dX8_ifPassed_118 : decode cX8_ifPassed 118 = .ok (.iload_n 2, 1) := by decide +kernel
theorem dX8_ifPassed_119 : decode cX8_ifPassed 119 = .ok (.iconst 2, 1) := by decide +kernel
theorem dX8_ifPassed_120 : decode cX8_ifPassed 120 = .ok (.if_icmp .ne 10, 3) := by decide +kernel
theorem dX8_ifPassed_123 : decode cX8_ifPassed 123 = .ok (.aload_n 0, 1) := by decide +kernel
theorem dX8_ifPassed_124 : decode cX8_ifPassed 124 = .ok (.invokevirtual 171, 3) := by decide +kernel
theorem dX8_ifPassed_127 : decode cX8_ifPassed 127 = .ok (.goto 5, 3) := by decide +kernel
theorem dX8_ifPassed_130 : decode cX8_ifPassed 130 = .ok (.iload 4, 2) := by decide +kernel
theorem dX8_ifPassed_132 : decode cX8_ifPassed 132 = .ok (.istore 6, 2) := by decide +kernel
theorem dX8_ifPassed_134 : decode cX8_ifPassed 134 = .ok (.aload_n 0, 1) := by decide +kernel
theorem dX8_ifPassed_135 : decode cX8_ifPassed 135 = .ok (.invokevirtual 177, 3) := by decide +kernel
theorem dX8_ifPassed_138 : decode cX8_ifPassed 138 = .ok (.iload 6, 2) := by decide +kernel
theorem dX8_ifPassed_140 : decode cX8_ifPassed 140 = .ok (.ireturn, 1) := by decide +kernel
set_option maxRecDepth 20000 in
theorem ggX8_comeTo_X8_cupAt : GoodIn wsX8_comeTo wsX8_cupAt := goodIn_r _ [5] (by decide +kernel) (by decide +kernel)
set_option maxRecDepth 20000 in
theorem gX8_comeTo_X8_cupAt : GoodIn wsX8_comeTo (va_wsS RX8 60 yX8_cupAt wsX8_cupAt) := goodIn_app (goodIn_of _ (by decide +kernel)) ggX8_comeTo_X8_cupAt
set_option maxRecDepth 20000 in
theorem ggX8_comeTo_X8_seen : GoodIn wsX8_comeTo wsX8_seen := goodIn_r _ [9, 1, 10, 11, 4, 12, 13, 14, 15, 16, 17, 18, 19, 20, 21, 33, 34, 35, 36, 37, 38, 39, 40, 41, 42, 43] (by decide +kernel) (by decide +kernel)
set_option maxRecDepth 20000 in
theorem gX8_comeTo_X8_seen : GoodIn wsX8_comeTo (wsV RX8 63 RX8 yX8_seen wsX8_seen) := goodIn_app (goodIn_of _ (by decide +kernel)) ggX8_comeTo_X8_seen
set_option maxRecDepth 20000 in
theorem ggX8_comeTo_X8_laneOf : GoodIn wsX8_comeTo wsX8_laneOf := goodIn_r _ [25, 1, 26, 27, 28, 4, 29, 30, 31, 32, 16, 17, 18, 10, 11, 12, 13, 14, 15, 33, 34, 35, 36, 37, 38, 39, 40, 41, 42, 43] (by decide +kernel) (by decide +kernel)
set_option maxRecDepth 20000 in
theorem gX8_comeTo_X8_laneOf : GoodIn wsX8_comeTo (wsV RX8 66 RX8 yX8_laneOf wsX8_laneOf) := goodIn_app (goodIn_of _ (by decide +kernel)) ggX8_comeTo_X8_laneOf
theorem dX8_comeTo_0 : decode cX8_comeTo 0 = .ok (.iconst 0, 1) := by decide +kernel
theorem dX8_comeTo_1 : decode cX8_comeTo 1 = .ok (.istore_n 2, 1) := by decide +kernel
theorem dX8_comeTo_2 : decode cX8_comeTo 2 = .ok (.iconst 0, 1) := by decide +kernel
theorem dX8_comeTo_3 : decode cX8_comeTo 3 = .ok (.istore_n 3, 1) := by decide +kernel
theorem dX8_comeTo_4 : decode cX8_comeTo 4 = .ok (.iload_n 3, 1) := by decide +kernel
theorem dX8_comeTo_5 : decode cX8_comeTo 5 = .ok (.bipush 12, 2) := by decide +kernel
theorem dX8_comeTo_7 : decode cX8_comeTo 7 = .ok (.if_icmp .ge 53, 3) := by decide +kernel
theorem dX8_comeTo_10 : decode cX8_comeTo 10 = .ok (.iload_n 2, 1) := by decide +kernel
theorem dX8_comeTo_11 : decode cX8_comeTo 11 = .ok (.aload_n 0, 1) := by decide +kernel
theorem dX8_comeTo_12 : decode cX8_comeTo 12 = .ok (.getfield 7, 3) := by decide +kernel
theorem dX8_comeTo_15 : decode cX8_comeTo 15 = .ok (.iload_n 3, 1) := by decide +kernel
theorem dX8_comeTo_16 : decode cX8_comeTo 16 = .ok (.invokestatic 60, 3) := by decide +kernel
theorem dX8_comeTo_19 : decode cX8_comeTo 19 = .ok (.iaload, 1) := by decide +kernel
theorem dX8_comeTo_20 : decode cX8_comeTo 20 = .ok (.iconst 1, 1) := by decide +kernel
theorem dX8_comeTo_21 : decode cX8_comeTo 21 = .ok (.if_icmp .ne 30, 3) := by decide +kernel
theorem dX8_comeTo_24 : decode cX8_comeTo 24 = .ok (.aload_n 0, 1) := by decide +kernel
theorem dX8_comeTo_25 : decode cX8_comeTo 25 = .ok (.aload_n 0, 1) := by decide +kernel
theorem dX8_comeTo_26 : decode cX8_comeTo 26 = .ok (.aload_n 0, 1) := by decide +kernel
theorem dX8_comeTo_27 : decode cX8_comeTo 27 = .ok (.getfield 7, 3) := by decide +kernel
theorem dX8_comeTo_30 : decode cX8_comeTo 30 = .ok (.iload_n 3, 1) := by decide +kernel
theorem dX8_comeTo_31 : decode cX8_comeTo 31 = .ok (.invokestatic 60, 3) := by decide +kernel
theorem dX8_comeTo_34 : decode cX8_comeTo 34 = .ok (.iconst 1, 1) := by decide +kernel
theorem dX8_comeTo_35 : decode cX8_comeTo 35 = .ok (.iadd, 1) := by decide +kernel
theorem dX8_comeTo_36 : decode cX8_comeTo 36 = .ok (.iaload, 1) := by decide +kernel
theorem dX8_comeTo_37 : decode cX8_comeTo 37 = .ok (.invokevirtual 63, 3) := by decide +kernel
theorem dX8_comeTo_40 : decode cX8_comeTo 40 = .ok (.invokevirtual 66, 3) := by decide +kernel
theorem dX8_comeTo_43 : decode cX8_comeTo 43 = .ok (.iload_n 1, 1) := by decide +kernel
theorem dX8_comeTo_44 : decode cX8_comeTo 44 = .ok (.if_icmp .ne 7, 3) := by decide +kernel
theorem dX8_comeTo_47 : decode cX8_comeTo 47 = .ok (.iconst 1, 1) := by decide +kernel
theorem dX8_comeTo_48 : decode cX8_comeTo 48 = .ok (.goto 4, 3) := by decide +kernel
theorem dX8_comeTo_51 : decode cX8_comeTo 51 = .ok (.iconst 0, 1) := by decide +kernel
theorem dX8_comeTo_52 : decode cX8_comeTo 52 = .ok (.iadd, 1) := by decide +kernel
theorem dX8_comeTo_53 : decode cX8_comeTo 53 = .ok (.istore_n 2, 1) := by decide +kernel
theorem dX8_comeTo_54 : decode cX8_comeTo 54 = .ok (.iinc 3 1, 3) := by decide +kernel
theorem dX8_comeTo_57 : decode cX8_comeTo 57 = .ok (.goto (-53), 3) := by decide +kernel
theorem dX8_comeTo_60 : decode cX8_comeTo 60 = .ok (.iload_n 2, 1) := by decide +kernel
theorem dX8_comeTo_61 : decode cX8_comeTo 61 = .ok (.ireturn, 1) := by decide +kernel
set_option maxRecDepth 20000 in
theorem ggX8_tightest_X8_isRule : GoodIn wsX8_tightest wsX8_isRule := goodIn_r _ [6, 1, 7, 8, 5, 9, 44, 45, 46, 47, 48, 49, 50, 51, 52, 53, 54] (by decide +kernel) (by decide +kernel)
set_option maxRecDepth 20000 in
theorem gX8_tightest_X8_isRule : GoodIn wsX8_tightest (wsV RX8 99 RX8 yX8_isRule wsX8_isRule) := goodIn_app (goodIn_of _ (by decide +kernel)) ggX8_tightest_X8_isRule
set_option maxRecDepth 20000 in
theorem ggX8_tightest_X8_in : GoodIn wsX8_tightest wsX8_in := goodIn_r _ [9] (by decide +kernel) (by decide +kernel)
set_option maxRecDepth 20000 in
theorem gX8_tightest_X8_in : GoodIn wsX8_tightest (va_wsS RX8 32 yX8_in wsX8_in) := goodIn_app (goodIn_of _ (by decide +kernel)) ggX8_tightest_X8_in
set_option maxRecDepth 20000 in
theorem ggX8_tightest_X8_ruleAt : GoodIn wsX8_tightest wsX8_ruleAt := goodIn_r _ [12] (by decide +kernel) (by decide +kernel)
set_option maxRecDepth 20000 in
theorem gX8_tightest_X8_ruleAt : GoodIn wsX8_tightest (va_wsS RX8 50 yX8_ruleAt wsX8_ruleAt) := goodIn_app (goodIn_of _ (by decide +kernel)) ggX8_tightest_X8_ruleAt
set_option maxRecDepth 20000 in
theorem ggX8_tightest_X8_comeTo : GoodIn wsX8_tightest wsX8_comeTo := goodIn_r _ [16, 1, 17, 18, 5, 19, 20, 21, 22, 23, 24, 25, 26, 27, 28, 29, 30, 31, 32, 33, 34, 35, 36, 37, 38, 39, 40, 41, 42, 43, 10, 11, 12, 44, 45, 46, 47, 48, 49, 50, 51, 52, 53, 54] (by decide +kernel) (by decide +kernel)
set_option maxRecDepth 20000 in
theorem gX8_tightest_X8_comeTo : GoodIn wsX8_tightest (wsV RX8 180 RX8 yX8_comeTo wsX8_comeTo) := goodIn_app (goodIn_of _ (by decide +kernel)) ggX8_tightest_X8_comeTo
theorem dX8_tightest_0 : decode cX8_tightest 0 = .ok (.aload_n 0, 1) := by decide +kernel
theorem dX8_tightest_1 : decode cX8_tightest 1 = .ok (.iload_n 1, 1) := by decide +kernel
theorem dX8_tightest_2 : decode cX8_tightest 2 = .ok (.invokevirtual 99, 3) := by decide +kernel
theorem dX8_tightest_5 : decode cX8_tightest 5 = .ok (.ifCond .eq 13, 3) := by decide +kernel
theorem dX8_tightest_8 : decode cX8_tightest 8 = .ok (.iload_n 2, 1) := by decide +kernel
theorem dX8_tightest_9 : decode cX8_tightest 9 = .ok (.iconst 1, 1) := by decide +kernel
theorem dX8_tightest_10 : decode cX8_tightest 10 = .ok (.bipush 20, 2) := by decide +kernel
theorem dX8_tightest_12 : decode cX8_tightest 12 = .ok (.invokestatic 32, 3) := by decide +kernel
theorem dX8_tightest_15 : decode cX8_tightest 15 = .ok (.ifCond .ne 5, 3) := by decide +kernel
theorem dX8_tightest_18 : decode cX8_tightest 18 = .ok (.iconst (-1), 1) := by decide +kernel
theorem dX8_tightest_19 : decode cX8_tightest 19 = .ok (.ireturn, 1) := by decide +kernel
theorem dX8_tightest_20 : decode cX8_tightest 20 = .ok (.iload_n 1, 1) := by decide +kernel
theorem dX8_tightest_21 : decode cX8_tightest 21 = .ok (.invokestatic 50, 3) := by decide +kernel
theorem dX8_tightest_24 : decode cX8_tightest 24 = .ok (.istore_n 3, 1) := by decide +kernel
theorem dX8_tightest_25 : decode cX8_tightest 25 = .ok (.aload_n 0, 1) := by decide +kernel
theorem dX8_tightest_26 : decode cX8_tightest 26 = .ok (.getfield 7, 3) := by decide +kernel
theorem dX8_tightest_29 : decode cX8_tightest 29 = .ok (.iload_n 3, 1) := by decide +kernel
theorem dX8_tightest_30 : decode cX8_tightest 30 = .ok (.iconst 1, 1) := by decide +kernel
theorem dX8_tightest_31 : decode cX8_tightest 31 = .ok (.iadd, 1) := by decide +kernel
theorem dX8_tightest_32 : decode cX8_tightest 32 = .ok (.iaload, 1) := by decide +kernel
theorem dX8_tightest_33 : decode cX8_tightest 33 = .ok (.istore 4, 2) := by decide +kernel
theorem dX8_tightest_35 : decode cX8_tightest 35 = .ok (.bipush (-4), 2) := by decide +kernel
theorem dX8_tightest_37 : decode cX8_tightest 37 = .ok (.istore 5, 2) := by decide +kernel
theorem dX8_tightest_39 : decode cX8_tightest 39 = .ok (.iconst 0, 1) := by decide +kernel
theorem dX8_tightest_40 : decode cX8_tightest 40 = .ok (.istore 6, 2) := by decide +kernel
theorem dX8_tightest_42 : decode cX8_tightest 42 = .ok (.iload 6, 2) := by decide +kernel
theorem dX8_tightest_44 : decode cX8_tightest 44 = .ok (.bipush 100, 2) := by decide +kernel
theorem dX8_tightest_46 : decode cX8_tightest 46 = .ok (.if_icmp .gt 44, 3) := by decide +kernel
theorem dX8_tightest_49 : decode cX8_tightest 49 = .ok (.aload_n 0, 1) := by decide +kernel
theorem dX8_tightest_50 : decode cX8_tightest 50 = .ok (.getfield 7, 3) := by decide +kernel
theorem dX8_tightest_53 : decode cX8_tightest 53 = .ok (.iload_n 3, 1) := by decide +kernel
theorem dX8_tightest_54 : decode cX8_tightest 54 = .ok (.iconst 1, 1) := by decide +kernel
theorem dX8_tightest_55 : decode cX8_tightest 55 = .ok (.iadd, 1) := by decide +kernel
theorem dX8_tightest_56 : decode cX8_tightest 56 = .ok (.iload 6, 2) := by decide +kernel
theorem dX8_tightest_58 : decode cX8_tightest 58 = .ok (.iastore, 1) := by decide +kernel
theorem dX8_tightest_59 : decode cX8_tightest 59 = .ok (.aload_n 0, 1) := by decide +kernel
theorem dX8_tightest_60 : decode cX8_tightest 60 = .ok (.aload_n 0, 1) := by decide +kernel
theorem dX8_tightest_61 : decode cX8_tightest 61 = .ok (.getfield 7, 3) := by decide +kernel
theorem dX8_tightest_64 : decode cX8_tightest 64 = .ok (.iload_n 3, 1) := by decide +kernel
theorem dX8_tightest_65 : decode cX8_tightest 65 = .ok (.iconst 3, 1) := by decide +kernel
theorem dX8_tightest_66 : decode cX8_tightest 66 = .ok (.iadd, 1) := by decide +kernel
theorem dX8_tightest_67 : decode cX8_tightest 67 = .ok (.iaload, 1) := by decide +kernel
theorem dX8_tightest_68 : decode cX8_tightest 68 = .ok (.invokevirtual 180, 3) := by decide +kernel
theorem dX8_tightest_71 : decode cX8_tightest 71 = .ok (.iload_n 2, 1) := by decide +kernel
theorem dX8_tightest_72 : decode cX8_tightest 72 = .ok (.if_icmp .lt 8, 3) := by decide +kernel
theorem dX8_tightest_75 : decode cX8_tightest 75 = .ok (.iload 6, 2) := by decide +kernel
theorem dX8_tightest_77 : decode cX8_tightest 77 = .ok (.goto 5, 3) := by decide +kernel
theorem dX8_tightest_80 : decode cX8_tightest 80 = .ok (.iload 5, 2) := by decide +kernel
theorem dX8_tightest_82 : decode cX8_tightest 82 = .ok (.istore 5, 2) := by decide +kernel
theorem dX8_tightest_84 : decode cX8_tightest 84 = .ok (.iinc 6 1, 3) := by decide +kernel
theorem dX8_tightest_87 : decode cX8_tightest 87 = .ok (.goto (-45), 3) := by decide +kernel
theorem dX8_tightest_90 : decode cX8_tightest 90 = .ok (.aload_n 0, 1) := by decide +kernel
theorem dX8_tightest_91 : decode cX8_tightest 91 = .ok (.getfield 7, 3) := by decide +kernel
theorem dX8_tightest_94 : decode cX8_tightest 94 = .ok (.iload_n 3, 1) := by decide +kernel
theorem dX8_tightest_95 : decode cX8_tightest 95 = .ok (.iconst 1, 1) := by decide +kernel
theorem dX8_tightest_96 : decode cX8_tightest 96 = .ok (.iadd, 1) := by decide +kernel
theorem dX8_tightest_97 : decode cX8_tightest 97 = .ok (.iload 4, 2) := by decide +kernel
theorem dX8_tightest_99 : decode cX8_tightest 99 = .ok (.iastore, 1) := by decide +kernel
theorem dX8_tightest_100 : decode cX8_tightest 100 = .ok (.iload 5, 2) := by decide +kernel
theorem dX8_tightest_102 : decode cX8_tightest 102 = .ok (.ireturn, 1) := by decide +kernel
theorem dX8_undo_0 : decode cX8_undo 0 = .ok (.aload_n 0, 1) := by decide +kernel
theorem dX8_undo_1 : decode cX8_undo 1 = .ok (.getfield 28, 3) := by decide +kernel
theorem dX8_undo_4 : decode cX8_undo 4 = .ok (.ifCond .ne 6, 3) := by decide +kernel
theorem dX8_undo_7 : decode cX8_undo 7 = .ok (.bipush (-2), 2) := by decide +kernel
theorem dX8_undo_9 : decode cX8_undo 9 = .ok (.ireturn, 1) := by decide +kernel
theorem dX8_undo_10 : decode cX8_undo 10 = .ok (.aload_n 0, 1) := by decide +kernel
theorem dX8_undo_11 : decode cX8_undo 11 = .ok (.dup, 1) := by decide +kernel
theorem dX8_undo_12 : decode cX8_undo 12 = .ok (.getfield 28, 3) := by decide +kernel
theorem dX8_undo_15 : decode cX8_undo 15 = .ok (.iconst 1, 1) := by decide +kernel
theorem dX8_undo_16 : decode cX8_undo 16 = .ok (.isub, 1) := by decide +kernel
theorem dX8_undo_17 : decode cX8_undo 17 = .ok (.putfield 28, 3) := by decide +kernel
theorem dX8_undo_20 : decode cX8_undo 20 = .ok (.iconst 0, 1) := by decide +kernel
theorem dX8_undo_21 : decode cX8_undo 21 = .ok (.istore_n 1, 1) := by decide +kernel
theorem dX8_undo_22 : decode cX8_undo 22 = .ok (.iload_n 1, 1) := by decide +kernel
theorem dX8_undo_23 : decode cX8_undo 23 = .ok (.sipush 1200, 3) := by decide +kernel
theorem dX8_undo_26 : decode cX8_undo 26 = .ok (.if_icmp .ge 30, 3) := by decide +kernel
theorem dX8_undo_29 : decode cX8_undo 29 = .ok (.aload_n 0, 1) := by decide +kernel
theorem dX8_undo_30 : decode cX8_undo 30 = .ok (.getfield 7, 3) := by decide +kernel
theorem dX8_undo_33 : decode cX8_undo 33 = .ok (.iload_n 1, 1) := by decide +kernel
theorem dX8_undo_34 : decode cX8_undo 34 = .ok (.aload_n 0, 1) := by decide +kernel
theorem dX8_undo_35 : decode cX8_undo 35 = .ok (.getfield 13, 3) := by decide +kernel
theorem dX8_undo_38 : decode cX8_undo 38 = .ok (.sipush 1200, 3) := by decide +kernel
theorem dX8_undo_41 : decode cX8_undo 41 = .ok (.aload_n 0, 1) := by decide +kernel
theorem dX8_undo_42 : decode cX8_undo 42 = .ok (.getfield 28, 3) := by decide +kernel
theorem dX8_undo_45 : decode cX8_undo 45 = .ok (.imul, 1) := by decide +kernel
theorem dX8_undo_46 : decode cX8_undo 46 = .ok (.iload_n 1, 1) := by decide +kernel
theorem dX8_undo_47 : decode cX8_undo 47 = .ok (.iadd, 1) := by decide +kernel
theorem dX8_undo_48 : decode cX8_undo 48 = .ok (.iaload, 1) := by decide +kernel
theorem dX8_undo_49 : decode cX8_undo 49 = .ok (.iastore, 1) := by decide +kernel
theorem dX8_undo_50 : decode cX8_undo 50 = .ok (.iinc 1 1, 3) := by decide +kernel
theorem dX8_undo_53 : decode cX8_undo 53 = .ok (.goto (-31), 3) := by decide +kernel
theorem dX8_undo_56 : decode cX8_undo 56 = .ok (.aload_n 0, 1) := by decide +kernel
theorem dX8_undo_57 : decode cX8_undo 57 = .ok (.getfield 28, 3) := by decide +kernel
theorem dX8_undo_60 : decode cX8_undo 60 = .ok (.ireturn, 1) := by decide +kernel
set_option maxRecDepth 20000 in
theorem ggX8_save_X8_onBelt : GoodIn wsX8_save wsX8_onBelt := goodIn_r _ [8, 3, 9, 10, 7, 11, 12, 13, 14, 15, 16, 17, 18, 19, 20, 21, 22] (by decide +kernel) (by decide +kernel)
set_option maxRecDepth 20000 in
theorem gX8_save_X8_onBelt : GoodIn wsX8_save (wsV RX8 162 RX8 yX8_onBelt wsX8_onBelt) := goodIn_app (goodIn_of _ (by decide +kernel)) ggX8_save_X8_onBelt
theorem dX8_save_0 : decode cX8_save 0 = .ok (.aload_n 0, 1) := by decide +kernel
theorem dX8_save_1 : decode cX8_save 1 = .ok (.iconst 1, 1) := by decide +kernel
theorem dX8_save_2 : decode cX8_save 2 = .ok (.putfield 183, 3) := by decide +kernel
theorem dX8_save_5 : decode cX8_save 5 = .ok (.iconst 0, 1) := by decide +kernel
theorem dX8_save_6 : decode cX8_save 6 = .ok (.istore_n 1, 1) := by decide +kernel
theorem dX8_save_7 : decode cX8_save 7 = .ok (.iload_n 1, 1) := by decide +kernel
theorem dX8_save_8 : decode cX8_save 8 = .ok (.sipush 1200, 3) := by decide +kernel
theorem dX8_save_11 : decode cX8_save 11 = .ok (.if_icmp .ge 21, 3) := by decide +kernel
theorem dX8_save_14 : decode cX8_save 14 = .ok (.aload_n 0, 1) := by decide +kernel
theorem dX8_save_15 : decode cX8_save 15 = .ok (.getfield 16, 3) := by decide +kernel
theorem dX8_save_18 : decode cX8_save 18 = .ok (.iload_n 1, 1) := by decide +kernel
theorem dX8_save_19 : decode cX8_save 19 = .ok (.aload_n 0, 1) := by decide +kernel
theorem dX8_save_20 : decode cX8_save 20 = .ok (.getfield 7, 3) := by decide +kernel
theorem dX8_save_23 : decode cX8_save 23 = .ok (.iload_n 1, 1) := by decide +kernel
theorem dX8_save_24 : decode cX8_save 24 = .ok (.iaload, 1) := by decide +kernel
theorem dX8_save_25 : decode cX8_save 25 = .ok (.iastore, 1) := by decide +kernel
theorem dX8_save_26 : decode cX8_save 26 = .ok (.iinc 1 1, 3) := by decide +kernel
theorem dX8_save_29 : decode cX8_save 29 = .ok (.goto (-22), 3) := by decide +kernel
theorem dX8_save_32 : decode cX8_save 32 = .ok (.aload_n 0, 1) := by decide +kernel
theorem dX8_save_33 : decode cX8_save 33 = .ok (.invokevirtual 162, 3) := by decide +kernel
theorem dX8_save_36 : decode cX8_save 36 = .ok (.ireturn, 1) := by decide +kernel
set_option maxRecDepth 20000 in
theorem ggX8_restore_X8_changes : GoodIn wsX8_restore wsX8_changes := goodIn_r _ [8, 9, 10, 2, 18, 19, 20, 21, 22, 23, 24, 25, 26, 27, 28] (by decide +kernel) (by decide +kernel)
set_option maxRecDepth 20000 in
theorem gX8_restore_X8_changes : GoodIn wsX8_restore (wsV RX8 89 RX8 yX8_changes wsX8_changes) := goodIn_app (goodIn_of _ (by decide +kernel)) ggX8_restore_X8_changes
set_option maxRecDepth 20000 in
theorem ggX8_restore_X8_onBelt : GoodIn wsX8_restore wsX8_onBelt := goodIn_r _ [14, 2, 15, 16, 7, 17, 18, 19, 20, 21, 22, 23, 24, 25, 26, 27, 28] (by decide +kernel) (by decide +kernel)
set_option maxRecDepth 20000 in
theorem gX8_restore_X8_onBelt : GoodIn wsX8_restore (wsV RX8 162 RX8 yX8_onBelt wsX8_onBelt) := goodIn_app (goodIn_of _ (by decide +kernel)) ggX8_restore_X8_onBelt
theorem dX8_restore_0 : decode cX8_restore 0 = .ok (.aload_n 0, 1) := by decide +kernel
theorem dX8_restore_1 : decode cX8_restore 1 = .ok (.getfield 183, 3) := by decide +kernel
theorem dX8_restore_4 : decode cX8_restore 4 = .ok (.ifCond .ne 6, 3) := by decide +kernel
theorem dX8_restore_7 : decode cX8_restore 7 = .ok (.bipush (-2), 2) := by decide +kernel
theorem dX8_restore_9 : decode cX8_restore 9 = .ok (.ireturn, 1) := by decide +kernel
theorem dX8_restore_10 : decode cX8_restore 10 = .ok (.aload_n 0, 1) := by decide +kernel
theorem dX8_restore_11 : decode cX8_restore 11 = .ok (.invokevirtual 89, 3) := by decide +kernel
theorem dX8_restore_14 : decode cX8_restore 14 = .ok (.iconst 0, 1) := by decide +kernel
theorem dX8_restore_15 : decode cX8_restore 15 = .ok (.istore_n 1, 1) := by decide +kernel
theorem dX8_restore_16 : decode cX8_restore 16 = .ok (.iload_n 1, 1) := by decide +kernel
theorem dX8_restore_17 : decode cX8_restore 17 = .ok (.sipush 1200, 3) := by decide +kernel
theorem dX8_restore_20 : decode cX8_restore 20 = .ok (.if_icmp .ge 21, 3) := by decide +kernel
theorem dX8_restore_23 : decode cX8_restore 23 = .ok (.aload_n 0, 1) := by decide +kernel
theorem dX8_restore_24 : decode cX8_restore 24 = .ok (.getfield 7, 3) := by decide +kernel
theorem dX8_restore_27 : decode cX8_restore 27 = .ok (.iload_n 1, 1) := by decide +kernel
theorem dX8_restore_28 : decode cX8_restore 28 = .ok (.aload_n 0, 1) := by decide +kernel
theorem dX8_restore_29 : decode cX8_restore 29 = .ok (.getfield 16, 3) := by decide +kernel
theorem dX8_restore_32 : decode cX8_restore 32 = .ok (.iload_n 1, 1) := by decide +kernel
theorem dX8_restore_33 : decode cX8_restore 33 = .ok (.iaload, 1) := by decide +kernel
theorem dX8_restore_34 : decode cX8_restore 34 = .ok (.iastore, 1) := by decide +kernel
theorem dX8_restore_35 : decode cX8_restore 35 = .ok (.iinc 1 1, 3) := by decide +kernel
theorem dX8_restore_38 : decode cX8_restore 38 = .ok (.goto (-22), 3) := by decide +kernel
theorem dX8_restore_41 : decode cX8_restore 41 = .ok (.aload_n 0, 1) := by decide +kernel
theorem dX8_restore_42 : decode cX8_restore 42 = .ok (.invokevirtual 162, 3) := by decide +kernel
theorem dX8_restore_45 : decode cX8_restore 45 = .ok (.ireturn, 1) := by decide +kernel
