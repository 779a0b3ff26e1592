theorem dJ9_max_7cf53_0 : decode cJ9_max_7cf53 0 = .ok (.iload_n 0, 1) := by decide +kernel
theorem dJ9_max_7cf53_1 : decode cJ9_max_7cf53 1 = .ok (.iload_n 1, 1) := by decide +kernel
theorem dJ9_max_7cf53_2 : decode cJ9_max_7cf53 2 = .ok (.if_icmp .lt 7, 3) := by decide +kernel
theorem dJ9_max_7cf53_5 : decode cJ9_max_7cf53 5 = .ok (.iload_n 0, 1) := by decide +kernel
theorem dJ9_max_7cf53_6 : decode cJ9_max_7cf53 6 = .ok (.goto 4, 3) := by decide +kernel
theorem dJ9_max_7cf53_9 : decode cJ9_max_7cf53 9 = .ok (.iload_n 1, 1) := by decide +kernel
theorem dJ9_max_7cf53_10 : decode cJ9_max_7cf53 10 = .ok (.ireturn, 1) := by decide +kernel
theorem dJ9_min_7cf53_0 : decode cJ9_min_7cf53 0 = .ok (.iload_n 0, 1) := by decide +kernel
theorem dJ9_min_7cf53_1 : decode cJ9_min_7cf53 1 = .ok (.iload_n 1, 1) := by decide +kernel
theorem dJ9_min_7cf53_2 : decode cJ9_min_7cf53 2 = .ok (.if_icmp .gt 7, 3) := by decide +kernel
theorem dJ9_min_7cf53_5 : decode cJ9_min_7cf53 5 = .ok (.iload_n 0, 1) := by decide +kernel
theorem dJ9_min_7cf53_6 : decode cJ9_min_7cf53 6 = .ok (.goto 4, 3) := by decide +kernel
theorem dJ9_min_7cf53_9 : decode cJ9_min_7cf53 9 = .ok (.iload_n 1, 1) := by decide +kernel
theorem dJ9_min_7cf53_10 : decode cJ9_min_7cf53 10 = .ok (.ireturn, 1) := by decide +kernel
theorem dL_cell_0 : decode cL_cell 0 = .ok (.iload_n 1, 1) := by decide +kernel
theorem dL_cell_1 : decode cL_cell 1 = .ok (.aload_n 0, 1) := by decide +kernel
theorem dL_cell_2 : decode cL_cell 2 = .ok (.arraylength, 1) := by decide +kernel
theorem dL_cell_3 : decode cL_cell 3 = .ok (.if_icmp .ge 9, 3) := by decide +kernel
theorem dL_cell_6 : decode cL_cell 6 = .ok (.aload_n 0, 1) := by decide +kernel
theorem dL_cell_7 : decode cL_cell 7 = .ok (.iload_n 1, 1) := by decide +kernel
theorem dL_cell_8 : decode cL_cell 8 = .ok (.iaload, 1) := by decide +kernel
theorem dL_cell_9 : decode cL_cell 9 = .ok (.goto 9, 3) := by decide +kernel
theorem dL_cell_12 : decode cL_cell 12 = .ok (.ldc 7, 2) := by decide +kernel
theorem dL_cell_14 : decode cL_cell 14 = .ok (.iload_n 1, 1) := by decide +kernel
theorem dL_cell_15 : decode cL_cell 15 = .ok (.iconst 3, 1) := by decide +kernel
theorem dL_cell_16 : decode cL_cell 16 = .ok (.iadd, 1) := by decide +kernel
theorem dL_cell_17 : decode cL_cell 17 = .ok (.imul, 1) := by decide +kernel
theorem dL_cell_18 : decode cL_cell 18 = .ok (.ireturn, 1) := by decide +kernel
theorem dL_pack_0 : decode cL_pack 0 = .ok (.iload_n 0, 1) := by decide +kernel
theorem dL_pack_1 : decode cL_pack 1 = .ok (.sipush 10000, 3) := by decide +kernel
theorem dL_pack_4 : decode cL_pack 4 = .ok (.imul, 1) := by decide +kernel
theorem dL_pack_5 : decode cL_pack 5 = .ok (.iload_n 1, 1) := by decide +kernel
theorem dL_pack_6 : decode cL_pack 6 = .ok (.bipush 10, 2) := by decide +kernel
theorem dL_pack_8 : decode cL_pack 8 = .ok (.imul, 1) := by decide +kernel
theorem dL_pack_9 : decode cL_pack 9 = .ok (.iadd, 1) := by decide +kernel
theorem dL_pack_10 : decode cL_pack 10 = .ok (.iload_n 2, 1) := by decide +kernel
theorem dL_pack_11 : decode cL_pack 11 = .ok (.iadd, 1) := by decide +kernel
theorem dL_pack_12 : decode cL_pack 12 = .ok (.ireturn, 1) := by decide +kernel
set_option maxRecDepth 20000 in
theorem ggL_look_L_pack : GoodIn wsL_look wsL_pack := goodIn_r _ [4] (by decide +kernel) (by decide +kernel)
set_option maxRecDepth 20000 in
theorem gL_look_L_pack : GoodIn wsL_look (va_wsS RL 9 yL_pack wsL_pack) := goodIn_app (goodIn_of _ (by decide +kernel)) ggL_look_L_pack
theorem dL_look_0 : decode cL_look 0 = .ok (.iload_n 1, 1) := by decide +kernel
theorem dL_look_1 : decode cL_look 1 = .ok (.bipush 10, 2) := by decide +kernel
theorem dL_look_3 : decode cL_look 3 = .ok (.idiv, 1) := by decide +kernel
theorem dL_look_4 : decode cL_look 4 = .ok (.sipush 1000, 3) := by decide +kernel
theorem dL_look_7 : decode cL_look 7 = .ok (.irem, 1) := by decide +kernel
theorem dL_look_8 : decode cL_look 8 = .ok (.aload_n 0, 1) := by decide +kernel
theorem dL_look_9 : decode cL_look 9 = .ok (.iconst 5, 1) := by decide +kernel
theorem dL_look_10 : decode cL_look 10 = .ok (.iaload, 1) := by decide +kernel
theorem dL_look_11 : decode cL_look 11 = .ok (.iadd, 1) := by decide +kernel
theorem dL_look_12 : decode cL_look 12 = .ok (.istore_n 2, 1) := by decide +kernel
theorem dL_look_13 : decode cL_look 13 = .ok (.iload_n 2, 1) := by decide +kernel
theorem dL_look_14 : decode cL_look 14 = .ok (.bipush 100, 2) := by decide +kernel
theorem dL_look_16 : decode cL_look 16 = .ok (.if_icmp .le 8, 3) := by decide +kernel
theorem dL_look_19 : decode cL_look 19 = .ok (.bipush 100, 2) := by decide +kernel
theorem dL_look_21 : decode cL_look 21 = .ok (.goto 12, 3) := by decide +kernel
theorem dL_look_24 : decode cL_look 24 = .ok (.iload_n 2, 1) := by decide +kernel
theorem dL_look_25 : decode cL_look 25 = .ok (.ifCond .ge 7, 3) := by decide +kernel
theorem dL_look_28 : decode cL_look 28 = .ok (.iconst 0, 1) := by decide +kernel
theorem dL_look_29 : decode cL_look 29 = .ok (.goto 4, 3) := by decide +kernel
theorem dL_look_32 : decode cL_look 32 = .ok (.iload_n 2, 1) := by decide +kernel
theorem dL_look_33 : decode cL_look 33 = .ok (.istore_n 2, 1) := by decide +kernel
theorem dL_look_34 : decode cL_look 34 = .ok (.iload_n 1, 1) := by decide +kernel
theorem dL_look_35 : decode cL_look 35 = .ok (.sipush 10000, 3) := by decide +kernel
theorem dL_look_38 : decode cL_look 38 = .ok (.idiv, 1) := by decide +kernel
theorem dL_look_39 : decode cL_look 39 = .ok (.iload_n 2, 1) := by decide +kernel
theorem dL_look_40 : decode cL_look 40 = .ok (.iload_n 1, 1) := by decide +kernel
theorem dL_look_41 : decode cL_look 41 = .ok (.bipush 10, 2) := by decide +kernel
theorem dL_look_43 : decode cL_look 43 = .ok (.irem, 1) := by decide +kernel
theorem dL_look_44 : decode cL_look 44 = .ok (.aload_n 0, 1) := by decide +kernel
theorem dL_look_45 : decode cL_look 45 = .ok (.bipush 6, 2) := by decide +kernel
theorem dL_look_47 : decode cL_look 47 = .ok (.iaload, 1) := by decide +kernel
theorem dL_look_48 : decode cL_look 48 = .ok (.if_icmp .ge 7, 3) := by decide +kernel
theorem dL_look_51 : decode cL_look 51 = .ok (.iconst 0, 1) := by decide +kernel
theorem dL_look_52 : decode cL_look 52 = .ok (.goto 7, 3) := by decide +kernel
theorem dL_look_55 : decode cL_look 55 = .ok (.iload_n 1, 1) := by decide +kernel
theorem dL_look_56 : decode cL_look 56 = .ok (.bipush 10, 2) := by decide +kernel
theorem dL_look_58 : decode cL_look 58 = .ok (.irem, 1) := by decide +kernel
theorem dL_look_59 : decode cL_look 59 = .ok (.invokestatic 9, 3) := by decide +kernel
theorem dL_look_62 : decode cL_look 62 = .ok (.ireturn, 1) := by decide +kernel
theorem dL_why_0 : decode cL_why 0 = .ok (.iload_n 2, 1) := by decide +kernel
theorem dL_why_1 : decode cL_why 1 = .ok (.sipush 10000, 3) := by decide +kernel
theorem dL_why_4 : decode cL_why 4 = .ok (.idiv, 1) := by decide +kernel
theorem dL_why_5 : decode cL_why 5 = .ok (.aload_n 0, 1) := by decide +kernel
theorem dL_why_6 : decode cL_why 6 = .ok (.iconst 4, 1) := by decide +kernel
theorem dL_why_7 : decode cL_why 7 = .ok (.iload_n 1, 1) := by decide +kernel
theorem dL_why_8 : decode cL_why 8 = .ok (.imul, 1) := by decide +kernel
theorem dL_why_9 : decode cL_why 9 = .ok (.iaload, 1) := by decide +kernel
theorem dL_why_10 : decode cL_why 10 = .ok (.if_icmp .ge 7, 3) := by decide +kernel
theorem dL_why_13 : decode cL_why 13 = .ok (.iconst 1, 1) := by decide +kernel
theorem dL_why_14 : decode cL_why 14 = .ok (.goto 4, 3) := by decide +kernel
theorem dL_why_17 : decode cL_why 17 = .ok (.iconst 0, 1) := by decide +kernel
theorem dL_why_18 : decode cL_why 18 = .ok (.istore_n 3, 1) := by decide +kernel
theorem dL_why_19 : decode cL_why 19 = .ok (.iload_n 3, 1) := by decide +kernel
theorem dL_why_20 : decode cL_why 20 = .ok (.iload_n 2, 1) := by decide +kernel
theorem dL_why_21 : decode cL_why 21 = .ok (.bipush 10, 2) := by decide +kernel
theorem dL_why_23 : decode cL_why 23 = .ok (.idiv, 1) := by decide +kernel
theorem dL_why_24 : decode cL_why 24 = .ok (.sipush 1000, 3) := by decide +kernel
theorem dL_why_27 : decode cL_why 27 = .ok (.irem, 1) := by decide +kernel
theorem dL_why_28 : decode cL_why 28 = .ok (.aload_n 0, 1) := by decide +kernel
theorem dL_why_29 : decode cL_why 29 = .ok (.iconst 4, 1) := by decide +kernel
theorem dL_why_30 : decode cL_why 30 = .ok (.iload_n 1, 1) := by decide +kernel
theorem dL_why_31 : decode cL_why 31 = .ok (.imul, 1) := by decide +kernel
theorem dL_why_32 : decode cL_why 32 = .ok (.iconst 1, 1) := by decide +kernel
theorem dL_why_33 : decode cL_why 33 = .ok (.iadd, 1) := by decide +kernel
theorem dL_why_34 : decode cL_why 34 = .ok (.iaload, 1) := by decide +kernel
theorem dL_why_35 : decode cL_why 35 = .ok (.if_icmp .ge 7, 3) := by decide +kernel
theorem dL_why_38 : decode cL_why 38 = .ok (.iconst 2, 1) := by decide +kernel
theorem dL_why_39 : decode cL_why 39 = .ok (.goto 4, 3) := by decide +kernel
theorem dL_why_42 : decode cL_why 42 = .ok (.iconst 0, 1) := by decide +kernel
theorem dL_why_43 : decode cL_why 43 = .ok (.iadd, 1) := by decide +kernel
theorem dL_why_44 : decode cL_why 44 = .ok (.istore_n 3, 1) := by decide +kernel
theorem dL_why_45 : decode cL_why 45 = .ok (.iload_n 3, 1) := by decide +kernel
theorem dL_why_46 : decode cL_why 46 = .ok (.iload_n 2, 1) := by decide +kernel
theorem dL_why_47 : decode cL_why 47 = .ok (.bipush 10, 2) := by decide +kernel
theorem dL_why_49 : decode cL_why 49 = .ok (.irem, 1) := by decide +kernel
theorem dL_why_50 : decode cL_why 50 = .ok (.aload_n 0, 1) := by decide +kernel
theorem dL_why_51 : decode cL_why 51 = .ok (.iconst 4, 1) := by decide +kernel
theorem dL_why_52 : decode cL_why 52 = .ok (.iload_n 1, 1) := by decide +kernel
theorem dL_why_53 : decode cL_why 53 = .ok (.imul, 1) := by decide +kernel
theorem dL_why_54 : decode cL_why 54 = .ok (.iconst 2, 1) := by decide +kernel
theorem dL_why_55 : decode cL_why 55 = .ok (.iadd, 1) := by decide +kernel
theorem dL_why_56 : decode cL_why 56 = .ok (.iaload, 1) := by decide +kernel
theorem dL_why_57 : decode cL_why 57 = .ok (.if_icmp .le 7, 3) := by decide +kernel
theorem dL_why_60 : decode cL_why 60 = .ok (.iconst 4, 1) := by decide +kernel
theorem dL_why_61 : decode cL_why 61 = .ok (.goto 4, 3) := by decide +kernel
theorem dL_why_64 : decode cL_why 64 = .ok (.iconst 0, 1) := by decide +kernel
theorem dL_why_65 : decode cL_why 65 = .ok (.iadd, 1) := by decide +kernel
theorem dL_why_66 : decode cL_why 66 = .ok (.ireturn, 1) := by decide +kernel
set_option maxRecDepth 20000 in
theorem ggL_lane_L_why : GoodIn wsL_lane wsL_why := goodIn_r _ [4] (by decide +kernel) (by decide +kernel)
set_option maxRecDepth 20000 in
theorem gL_lane_L_why : GoodIn wsL_lane (va_wsS RL 15 yL_why wsL_why) := goodIn_app (goodIn_of _ (by decide +kernel)) ggL_lane_L_why
theorem dL_lane_0 : decode cL_lane 0 = .ok (.iconst 4, 1) := by decide +kernel
theorem dL_lane_1 : decode cL_lane 1 = .ok (.istore_n 3, 1) := by decide +kernel
theorem dL_lane_2 : decode cL_lane 2 = .ok (.aload_n 0, 1) := by decide +kernel
theorem dL_lane_3 : decode cL_lane 3 = .ok (.bipush 9, 2) := by decide +kernel
theorem dL_lane_5 : decode cL_lane 5 = .ok (.iaload, 1) := by decide +kernel
theorem dL_lane_6 : decode cL_lane 6 = .ok (.iconst 1, 1) := by decide +kernel
theorem dL_lane_7 : decode cL_lane 7 = .ok (.isub, 1) := by decide +kernel
theorem dL_lane_8 : decode cL_lane 8 = .ok (.istore 4, 2) := by decide +kernel
theorem dL_lane_10 : decode cL_lane 10 = .ok (.iload 4, 2) := by decide +kernel
theorem dL_lane_12 : decode cL_lane 12 = .ok (.ifCond .lt 32, 3) := by decide +kernel
theorem dL_lane_15 : decode cL_lane 15 = .ok (.aload_n 1, 1) := by decide +kernel
theorem dL_lane_16 : decode cL_lane 16 = .ok (.iload 4, 2) := by decide +kernel
theorem dL_lane_18 : decode cL_lane 18 = .ok (.iload_n 2, 1) := by decide +kernel
theorem dL_lane_19 : decode cL_lane 19 = .ok (.invokestatic 15, 3) := by decide +kernel
theorem dL_lane_22 : decode cL_lane 22 = .ok (.ifCond .ne 14, 3) := by decide +kernel
theorem dL_lane_25 : decode cL_lane 25 = .ok (.aload_n 1, 1) := by decide +kernel
theorem dL_lane_26 : decode cL_lane 26 = .ok (.iconst 4, 1) := by decide +kernel
theorem dL_lane_27 : decode cL_lane 27 = .ok (.iload 4, 2) := by decide +kernel
theorem dL_lane_29 : decode cL_lane 29 = .ok (.imul, 1) := by decide +kernel
theorem dL_lane_30 : decode cL_lane 30 = .ok (.iconst 3, 1) := by decide +kernel
theorem dL_lane_31 : decode cL_lane 31 = .ok (.iadd, 1) := by decide +kernel
theorem dL_lane_32 : decode cL_lane 32 = .ok (.iaload, 1) := by decide +kernel
theorem dL_lane_33 : decode cL_lane 33 = .ok (.goto 4, 3) := by decide +kernel
theorem dL_lane_36 : decode cL_lane 36 = .ok (.iload_n 3, 1) := by decide +kernel
theorem dL_lane_37 : decode cL_lane 37 = .ok (.istore_n 3, 1) := by decide +kernel
theorem dL_lane_38 : decode cL_lane 38 = .ok (.iinc 4 (-1), 3) := by decide +kernel
theorem dL_lane_41 : decode cL_lane 41 = .ok (.goto (-31), 3) := by decide +kernel
theorem dL_lane_44 : decode cL_lane 44 = .ok (.iload_n 3, 1) := by decide +kernel
theorem dL_lane_45 : decode cL_lane 45 = .ok (.ireturn, 1) := by decide +kernel
set_option maxRecDepth 20000 in
theorem ggL_tick_L_look : GoodIn wsL_tick wsL_look := goodIn_r _ [4, 5, 6, 3, 7] (by decide +kernel) (by decide +kernel)
set_option maxRecDepth 20000 in
theorem gL_tick_L_look : GoodIn wsL_tick (va_wsS RL 19 yL_look wsL_look) := goodIn_app (goodIn_of _ (by decide +kernel)) ggL_tick_L_look
set_option maxRecDepth 20000 in
theorem ggL_tick_L_lane : GoodIn wsL_tick wsL_lane := goodIn_r _ [10, 11, 12, 3, 13] (by decide +kernel) (by decide +kernel)
set_option maxRecDepth 20000 in
theorem gL_tick_L_lane : GoodIn wsL_tick (va_wsS RL 23 yL_lane wsL_lane) := goodIn_app (goodIn_of _ (by decide +kernel)) ggL_tick_L_lane
theorem dL_tick_0 : decode cL_tick 0 = .ok (.aload_n 2, 1) := by decide +kernel
theorem dL_tick_1 : decode cL_tick 1 = .ok (.bipush 10, 2) := by decide +kernel
theorem dL_tick_3 : decode cL_tick 3 = .ok (.dup2, 1) := by decide +kernel
theorem dL_tick_4 : decode cL_tick 4 = .ok (.iaload, 1) := by decide +kernel
theorem dL_tick_5 : decode cL_tick 5 = .ok (.iconst 1, 1) := by decide +kernel
theorem dL_tick_6 : decode cL_tick 6 = .ok (.iadd, 1) := by decide +kernel
theorem dL_tick_7 : decode cL_tick 7 = .ok (.iastore, 1) := by decide +kernel
theorem dL_tick_8 : decode cL_tick 8 = .ok (.aload_n 0, 1) := by decide +kernel
theorem dL_tick_9 : decode cL_tick 9 = .ok (.iconst 0, 1) := by decide +kernel
theorem dL_tick_10 : decode cL_tick 10 = .ok (.iaload, 1) := by decide +kernel
theorem dL_tick_11 : decode cL_tick 11 = .ok (.ifCond .le 48, 3) := by decide +kernel
theorem dL_tick_14 : decode cL_tick 14 = .ok (.aload_n 0, 1) := by decide +kernel
theorem dL_tick_15 : decode cL_tick 15 = .ok (.iconst 3, 1) := by decide +kernel
theorem dL_tick_16 : decode cL_tick 16 = .ok (.aload_n 0, 1) := by decide +kernel
theorem dL_tick_17 : decode cL_tick 17 = .ok (.iconst 0, 1) := by decide +kernel
theorem dL_tick_18 : decode cL_tick 18 = .ok (.iaload, 1) := by decide +kernel
theorem dL_tick_19 : decode cL_tick 19 = .ok (.iconst 2, 1) := by decide +kernel
theorem dL_tick_20 : decode cL_tick 20 = .ok (.if_icmp .ne 7, 3) := by decide +kernel
theorem dL_tick_23 : decode cL_tick 23 = .ok (.iconst 4, 1) := by decide +kernel
theorem dL_tick_24 : decode cL_tick 24 = .ok (.goto 15, 3) := by decide +kernel
theorem dL_tick_27 : decode cL_tick 27 = .ok (.aload_n 2, 1) := by decide +kernel
theorem dL_tick_28 : decode cL_tick 28 = .ok (.aload_n 3, 1) := by decide +kernel
theorem dL_tick_29 : decode cL_tick 29 = .ok (.aload_n 2, 1) := by decide +kernel
theorem dL_tick_30 : decode cL_tick 30 = .ok (.aload_n 0, 1) := by decide +kernel
theorem dL_tick_31 : decode cL_tick 31 = .ok (.iconst 1, 1) := by decide +kernel
theorem dL_tick_32 : decode cL_tick 32 = .ok (.iaload, 1) := by decide +kernel
theorem dL_tick_33 : decode cL_tick 33 = .ok (.invokestatic 19, 3) := by decide +kernel
theorem dL_tick_36 : decode cL_tick 36 = .ok (.invokestatic 23, 3) := by decide +kernel
theorem dL_tick_39 : decode cL_tick 39 = .ok (.iastore, 1) := by decide +kernel
theorem dL_tick_40 : decode cL_tick 40 = .ok (.aload_n 2, 1) := by decide +kernel
theorem dL_tick_41 : decode cL_tick 41 = .ok (.bipush 13, 2) := by decide +kernel
theorem dL_tick_43 : decode cL_tick 43 = .ok (.dup2, 1) := by decide +kernel
theorem dL_tick_44 : decode cL_tick 44 = .ok (.iaload, 1) := by decide +kernel
theorem dL_tick_45 : decode cL_tick 45 = .ok (.aload_n 0, 1) := by decide +kernel
theorem dL_tick_46 : decode cL_tick 46 = .ok (.iconst 0, 1) := by decide +kernel
theorem dL_tick_47 : decode cL_tick 47 = .ok (.iaload, 1) := by decide +kernel
theorem dL_tick_48 : decode cL_tick 48 = .ok (.iconst 2, 1) := by decide +kernel
theorem dL_tick_49 : decode cL_tick 49 = .ok (.if_icmp .ne 7, 3) := by decide +kernel
theorem dL_tick_52 : decode cL_tick 52 = .ok (.iconst 1, 1) := by decide +kernel
theorem dL_tick_53 : decode cL_tick 53 = .ok (.goto 4, 3) := by decide +kernel
theorem dL_tick_56 : decode cL_tick 56 = .ok (.iconst 0, 1) := by decide +kernel
theorem dL_tick_57 : decode cL_tick 57 = .ok (.iadd, 1) := by decide +kernel
theorem dL_tick_58 : decode cL_tick 58 = .ok (.iastore, 1) := by decide +kernel
theorem dL_tick_59 : decode cL_tick 59 = .ok (.aload_n 0, 1) := by decide +kernel
theorem dL_tick_60 : decode cL_tick 60 = .ok (.bipush 44, 2) := by decide +kernel
theorem dL_tick_62 : decode cL_tick 62 = .ok (.iaload, 1) := by decide +kernel
theorem dL_tick_63 : decode cL_tick 63 = .ok (.istore 5, 2) := by decide +kernel
theorem dL_tick_65 : decode cL_tick 65 = .ok (.iconst 0, 1) := by decide +kernel
theorem dL_tick_66 : decode cL_tick 66 = .ok (.istore 6, 2) := by decide +kernel
theorem dL_tick_68 : decode cL_tick 68 = .ok (.iload 6, 2) := by decide +kernel
theorem dL_tick_70 : decode cL_tick 70 = .ok (.aload_n 0, 1) := by decide +kernel
theorem dL_tick_71 : decode cL_tick 71 = .ok (.bipush 44, 2) := by decide +kernel
theorem dL_tick_73 : decode cL_tick 73 = .ok (.iaload, 1) := by decide +kernel
theorem dL_tick_74 : decode cL_tick 74 = .ok (.if_icmp .ge 32, 3) := by decide +kernel
theorem dL_tick_77 : decode cL_tick 77 = .ok (.aload 4, 2) := by decide +kernel
theorem dL_tick_79 : decode cL_tick 79 = .ok (.aload_n 2, 1) := by decide +kernel
theorem dL_tick_80 : decode cL_tick 80 = .ok (.iconst 4, 1) := by decide +kernel
theorem dL_tick_81 : decode cL_tick 81 = .ok (.iaload, 1) := by decide +kernel
theorem dL_tick_82 : decode cL_tick 82 = .ok (.bipush 64, 2) := by decide +kernel
theorem dL_tick_84 : decode cL_tick 84 = .ok (.irem, 1) := by decide +kernel
theorem dL_tick_85 : decode cL_tick 85 = .ok (.aload_n 0, 1) := by decide +kernel
theorem dL_tick_86 : decode cL_tick 86 = .ok (.bipush 45, 2) := by decide +kernel
theorem dL_tick_88 : decode cL_tick 88 = .ok (.iload 6, 2) := by decide +kernel
theorem dL_tick_90 : decode cL_tick 90 = .ok (.iadd, 1) := by decide +kernel
theorem dL_tick_91 : decode cL_tick 91 = .ok (.iaload, 1) := by decide +kernel
theorem dL_tick_92 : decode cL_tick 92 = .ok (.iastore, 1) := by decide +kernel
theorem dL_tick_93 : decode cL_tick 93 = .ok (.aload_n 2, 1) := by decide +kernel
theorem dL_tick_94 : decode cL_tick 94 = .ok (.iconst 4, 1) := by decide +kernel
theorem dL_tick_95 : decode cL_tick 95 = .ok (.dup2, 1) := by decide +kernel
theorem dL_tick_96 : decode cL_tick 96 = .ok (.iaload, 1) := by decide +kernel
theorem dL_tick_97 : decode cL_tick 97 = .ok (.iconst 1, 1) := by decide +kernel
theorem dL_tick_98 : decode cL_tick 98 = .ok (.iadd, 1) := by decide +kernel
theorem dL_tick_99 : decode cL_tick 99 = .ok (.iastore, 1) := by decide +kernel
theorem dL_tick_100 : decode cL_tick 100 = .ok (.iinc 6 1, 3) := by decide +kernel
theorem dL_tick_103 : decode cL_tick 103 = .ok (.goto (-35), 3) := by decide +kernel
theorem dL_tick_106 : decode cL_tick 106 = .ok (.bipush 47, 2) := by decide +kernel
theorem dL_tick_108 : decode cL_tick 108 = .ok (.istore 6, 2) := by decide +kernel
theorem dL_tick_110 : decode cL_tick 110 = .ok (.iload 6, 2) := by decide +kernel
theorem dL_tick_112 : decode cL_tick 112 = .ok (.iconst 3, 1) := by decide +kernel
theorem dL_tick_113 : decode cL_tick 113 = .ok (.if_icmp .le 19, 3) := by decide +kernel
theorem dL_tick_116 : decode cL_tick 116 = .ok (.aload_n 0, 1) := by decide +kernel
theorem dL_tick_117 : decode cL_tick 117 = .ok (.iload 6, 2) := by decide +kernel
theorem dL_tick_119 : decode cL_tick 119 = .ok (.aload_n 0, 1) := by decide +kernel
theorem dL_tick_120 : decode cL_tick 120 = .ok (.iload 6, 2) := by decide +kernel
theorem dL_tick_122 : decode cL_tick 122 = .ok (.iconst 4, 1) := by decide +kernel
theorem dL_tick_123 : decode cL_tick 123 = .ok (.isub, 1) := by decide +kernel
theorem dL_tick_124 : decode cL_tick 124 = .ok (.iaload, 1) := by decide +kernel
theorem dL_tick_125 : decode cL_tick 125 = .ok (.iastore, 1) := by decide +kernel
theorem dL_tick_126 : decode cL_tick 126 = .ok (.iinc 6 (-1), 3) := by decide +kernel
theorem dL_tick_129 : decode cL_tick 129 = .ok (.goto (-19), 3) := by decide +kernel
theorem dL_tick_132 : decode cL_tick 132 = .ok (.aload_n 0, 1) := by decide +kernel
theorem dL_tick_133 : decode cL_tick 133 = .ok (.iconst 0, 1) := by decide +kernel
theorem dL_tick_134 : decode cL_tick 134 = .ok (.iconst 0, 1) := by decide +kernel
theorem dL_tick_135 : decode cL_tick 135 = .ok (.iastore, 1) := by decide +kernel
theorem dL_tick_136 : decode cL_tick 136 = .ok (.iconst 0, 1) := by decide +kernel
theorem dL_tick_137 : decode cL_tick 137 = .ok (.istore 6, 2) := by decide +kernel
theorem dL_tick_139 : decode cL_tick 139 = .ok (.iload 6, 2) := by decide +kernel
theorem dL_tick_141 : decode cL_tick 141 = .ok (.iconst 4, 1) := by decide +kernel
theorem dL_tick_142 : decode cL_tick 142 = .ok (.if_icmp .ge 145, 3) := by decide +kernel
theorem dL_tick_145 : decode cL_tick 145 = .ok (.iconst 4, 1) := by decide +kernel
theorem dL_tick_146 : decode cL_tick 146 = .ok (.iconst 2, 1) := by decide +kernel
theorem dL_tick_147 : decode cL_tick 147 = .ok (.iconst 2, 1) := by decide +kernel
theorem dL_tick_148 : decode cL_tick 148 = .ok (.iload 6, 2) := by decide +kernel
theorem dL_tick_150 : decode cL_tick 150 = .ok (.imul, 1) := by decide +kernel
theorem dL_tick_151 : decode cL_tick 151 = .ok (.iadd, 1) := by decide +kernel
theorem dL_tick_152 : decode cL_tick 152 = .ok (.imul, 1) := by decide +kernel
theorem dL_tick_153 : decode cL_tick 153 = .ok (.istore 7, 2) := by decide +kernel
theorem dL_tick_155 : decode cL_tick 155 = .ok (.aload_n 0, 1) := by decide +kernel
theorem dL_tick_156 : decode cL_tick 156 = .ok (.iload 7, 2) := by decide +kernel
theorem dL_tick_158 : decode cL_tick 158 = .ok (.iaload, 1) := by decide +kernel
theorem dL_tick_159 : decode cL_tick 159 = .ok (.ifCond .le 122, 3) := by decide +kernel
theorem dL_tick_162 : decode cL_tick 162 = .ok (.aload_n 0, 1) := by decide +kernel
theorem dL_tick_163 : decode cL_tick 163 = .ok (.iload 7, 2) := by decide +kernel
theorem dL_tick_165 : decode cL_tick 165 = .ok (.iconst 3, 1) := by decide +kernel
theorem dL_tick_166 : decode cL_tick 166 = .ok (.iadd, 1) := by decide +kernel
theorem dL_tick_167 : decode cL_tick 167 = .ok (.iaload, 1) := by decide +kernel
theorem dL_tick_168 : decode cL_tick 168 = .ok (.iload 6, 2) := by decide +kernel
theorem dL_tick_170 : decode cL_tick 170 = .ok (.if_icmp .ne 111, 3) := by decide +kernel
theorem dL_tick_173 : decode cL_tick 173 = .ok (.aload_n 2, 1) := by decide +kernel
theorem dL_tick_174 : decode cL_tick 174 = .ok (.iload 6, 2) := by decide +kernel
theorem dL_tick_176 : decode cL_tick 176 = .ok (.iaload, 1) := by decide +kernel
theorem dL_tick_177 : decode cL_tick 177 = .ok (.aload_n 2, 1) := by decide +kernel
theorem dL_tick_178 : decode cL_tick 178 = .ok (.bipush 7, 2) := by decide +kernel
theorem dL_tick_180 : decode cL_tick 180 = .ok (.iaload, 1) := by decide +kernel
theorem dL_tick_181 : decode cL_tick 181 = .ok (.if_icmp .lt 21, 3) := by decide +kernel
theorem dL_tick_184 : decode cL_tick 184 = .ok (.aload_n 0, 1) := by decide +kernel
theorem dL_tick_185 : decode cL_tick 185 = .ok (.iload 7, 2) := by decide +kernel
theorem dL_tick_187 : decode cL_tick 187 = .ok (.iconst 3, 1) := by decide +kernel
theorem dL_tick_188 : decode cL_tick 188 = .ok (.iadd, 1) := by decide +kernel
theorem dL_tick_189 : decode cL_tick 189 = .ok (.iconst 4, 1) := by decide +kernel
theorem dL_tick_190 : decode cL_tick 190 = .ok (.iastore, 1) := by decide +kernel
theorem dL_tick_191 : decode cL_tick 191 = .ok (.aload_n 2, 1) := by decide +kernel
theorem dL_tick_192 : decode cL_tick 192 = .ok (.bipush 12, 2) := by decide +kernel
theorem dL_tick_194 : decode cL_tick 194 = .ok (.dup2, 1) := by decide +kernel
theorem dL_tick_195 : decode cL_tick 195 = .ok (.iaload, 1) := by decide +kernel
theorem dL_tick_196 : decode cL_tick 196 = .ok (.iconst 1, 1) := by decide +kernel
theorem dL_tick_197 : decode cL_tick 197 = .ok (.iadd, 1) := by decide +kernel
theorem dL_tick_198 : decode cL_tick 198 = .ok (.iastore, 1) := by decide +kernel
theorem dL_tick_199 : decode cL_tick 199 = .ok (.goto 82, 3) := by decide +kernel
theorem dL_tick_202 : decode cL_tick 202 = .ok (.aload_n 2, 1) := by decide +kernel
theorem dL_tick_203 : decode cL_tick 203 = .ok (.bipush 8, 2) := by decide +kernel
theorem dL_tick_205 : decode cL_tick 205 = .ok (.iaload, 1) := by decide +kernel
theorem dL_tick_206 : decode cL_tick 206 = .ok (.iload 6, 2) := by decide +kernel
theorem dL_tick_208 : decode cL_tick 208 = .ok (.ishr, 1) := by decide +kernel
theorem dL_tick_209 : decode cL_tick 209 = .ok (.iconst 1, 1) := by decide +kernel
theorem dL_tick_210 : decode cL_tick 210 = .ok (.iand, 1) := by decide +kernel
theorem dL_tick_211 : decode cL_tick 211 = .ok (.ifCond .ne 21, 3) := by decide +kernel
theorem dL_tick_214 : decode cL_tick 214 = .ok (.aload_n 0, 1) := by decide +kernel
theorem dL_tick_215 : decode cL_tick 215 = .ok (.iload 7, 2) := by decide +kernel
theorem dL_tick_217 : decode cL_tick 217 = .ok (.iconst 1, 1) := by decide +kernel
theorem dL_tick_218 : decode cL_tick 218 = .ok (.iadd, 1) := by decide +kernel
theorem dL_tick_219 : decode cL_tick 219 = .ok (.iaload, 1) := by decide +kernel
theorem dL_tick_220 : decode cL_tick 220 = .ok (.bipush 10, 2) := by decide +kernel
theorem dL_tick_222 : decode cL_tick 222 = .ok (.irem, 1) := by decide +kernel
theorem dL_tick_223 : decode cL_tick 223 = .ok (.bipush 9, 2) := by decide +kernel
theorem dL_tick_225 : decode cL_tick 225 = .ok (.if_icmp .ge 7, 3) := by decide +kernel
theorem dL_tick_228 : decode cL_tick 228 = .ok (.iconst 1, 1) := by decide +kernel
theorem dL_tick_229 : decode cL_tick 229 = .ok (.goto 4, 3) := by decide +kernel
theorem dL_tick_232 : decode cL_tick 232 = .ok (.iconst 0, 1) := by decide +kernel
theorem dL_tick_233 : decode cL_tick 233 = .ok (.istore 8, 2) := by decide +kernel
theorem dL_tick_235 : decode cL_tick 235 = .ok (.aload_n 2, 1) := by decide +kernel
theorem dL_tick_236 : decode cL_tick 236 = .ok (.bipush 14, 2) := by decide +kernel
theorem dL_tick_238 : decode cL_tick 238 = .ok (.dup2, 1) := by decide +kernel
theorem dL_tick_239 : decode cL_tick 239 = .ok (.iaload, 1) := by decide +kernel
theorem dL_tick_240 : decode cL_tick 240 = .ok (.iload 8, 2) := by decide +kernel
theorem dL_tick_242 : decode cL_tick 242 = .ok (.iadd, 1) := by decide +kernel
theorem dL_tick_243 : decode cL_tick 243 = .ok (.iastore, 1) := by decide +kernel
theorem dL_tick_244 : decode cL_tick 244 = .ok (.aload_n 1, 1) := by decide +kernel
theorem dL_tick_245 : decode cL_tick 245 = .ok (.bipush 15, 2) := by decide +kernel
theorem dL_tick_247 : decode cL_tick 247 = .ok (.iload 6, 2) := by decide +kernel
theorem dL_tick_249 : decode cL_tick 249 = .ok (.imul, 1) := by decide +kernel
theorem dL_tick_250 : decode cL_tick 250 = .ok (.aload_n 2, 1) := by decide +kernel
theorem dL_tick_251 : decode cL_tick 251 = .ok (.iload 6, 2) := by decide +kernel
theorem dL_tick_253 : decode cL_tick 253 = .ok (.iaload, 1) := by decide +kernel
theorem dL_tick_254 : decode cL_tick 254 = .ok (.iadd, 1) := by decide +kernel
theorem dL_tick_255 : decode cL_tick 255 = .ok (.aload_n 0, 1) := by decide +kernel
theorem dL_tick_256 : decode cL_tick 256 = .ok (.iload 7, 2) := by decide +kernel
theorem dL_tick_258 : decode cL_tick 258 = .ok (.iconst 1, 1) := by decide +kernel
theorem dL_tick_259 : decode cL_tick 259 = .ok (.iadd, 1) := by decide +kernel
theorem dL_tick_260 : decode cL_tick 260 = .ok (.iaload, 1) := by decide +kernel
theorem dL_tick_261 : decode cL_tick 261 = .ok (.iload 8, 2) := by decide +kernel
theorem dL_tick_263 : decode cL_tick 263 = .ok (.iadd, 1) := by decide +kernel
theorem dL_tick_264 : decode cL_tick 264 = .ok (.iastore, 1) := by decide +kernel
theorem dL_tick_265 : decode cL_tick 265 = .ok (.aload_n 2, 1) := by decide +kernel
theorem dL_tick_266 : decode cL_tick 266 = .ok (.iload 6, 2) := by decide +kernel
theorem dL_tick_268 : decode cL_tick 268 = .ok (.dup2, 1) := by decide +kernel
theorem dL_tick_269 : decode cL_tick 269 = .ok (.iaload, 1) := by decide +kernel
theorem dL_tick_270 : decode cL_tick 270 = .ok (.iconst 1, 1) := by decide +kernel
theorem dL_tick_271 : decode cL_tick 271 = .ok (.iadd, 1) := by decide +kernel
theorem dL_tick_272 : decode cL_tick 272 = .ok (.iastore, 1) := by decide +kernel
theorem dL_tick_273 : decode cL_tick 273 = .ok (.iinc 5 1, 3) := by decide +kernel
theorem dL_tick_276 : decode cL_tick 276 = .ok (.aload_n 0, 1) := by decide +kernel
theorem dL_tick_277 : decode cL_tick 277 = .ok (.iload 7, 2) := by decide +kernel
theorem dL_tick_279 : decode cL_tick 279 = .ok (.iconst 0, 1) := by decide +kernel
theorem dL_tick_280 : decode cL_tick 280 = .ok (.iastore, 1) := by decide +kernel
theorem dL_tick_281 : decode cL_tick 281 = .ok (.iinc 6 1, 3) := by decide +kernel
theorem dL_tick_284 : decode cL_tick 284 = .ok (.goto (-145), 3) := by decide +kernel
theorem dL_tick_287 : decode cL_tick 287 = .ok (.iload 5, 2) := by decide +kernel
theorem dL_tick_289 : decode cL_tick 289 = .ok (.ireturn, 1) := by decide +kernel
set_option maxRecDepth 20000 in
theorem ggL_ticks_L_look : GoodIn wsL_ticks wsL_look := goodIn_r _ [4, 5, 6, 3, 7] (by decide +kernel) (by decide +kernel)
set_option maxRecDepth 20000 in
theorem gL_ticks_L_look : GoodIn wsL_ticks (va_wsS RL 19 yL_look wsL_look) := goodIn_app (goodIn_of _ (by decide +kernel)) ggL_ticks_L_look
set_option maxRecDepth 20000 in
theorem ggL_ticks_L_lane : GoodIn wsL_ticks wsL_lane := goodIn_r _ [10, 11, 12, 3, 13] (by decide +kernel) (by decide +kernel)
set_option maxRecDepth 20000 in
theorem gL_ticks_L_lane : GoodIn wsL_ticks (va_wsS RL 23 yL_lane wsL_lane) := goodIn_app (goodIn_of _ (by decide +kernel)) ggL_ticks_L_lane
theorem dL_ticks_0 : decode cL_ticks 0 = .ok (.iload_n 3, 1) := by decide +kernel
theorem dL_ticks_1 : decode cL_ticks 1 = .ok (.ifCond .le 13, 3) := by decide +kernel
theorem dL_ticks_4 : decode cL_ticks 4 = .ok (.aload_n 0, 1) := by decide +kernel
theorem dL_ticks_5 : decode cL_ticks 5 = .ok (.iconst 4, 1) := by decide +kernel
theorem dL_ticks_6 : decode cL_ticks 6 = .ok (.iload_n 3, 1) := by decide +kernel
theorem dL_ticks_7 : decode cL_ticks 7 = .ok (.imul, 1) := by decide +kernel
theorem dL_ticks_8 : decode cL_ticks 8 = .ok (.iconst 3, 1) := by decide +kernel
theorem dL_ticks_9 : decode cL_ticks 9 = .ok (.iadd, 1) := by decide +kernel
theorem dL_ticks_10 : decode cL_ticks 10 = .ok (.iaload, 1) := by decide +kernel
theorem dL_ticks_11 : decode cL_ticks 11 = .ok (.goto 26, 3) := by decide +kernel
theorem dL_ticks_14 : decode cL_ticks 14 = .ok (.aload_n 0, 1) := by decide +kernel
theorem dL_ticks_15 : decode cL_ticks 15 = .ok (.iconst 0, 1) := by decide +kernel
theorem dL_ticks_16 : decode cL_ticks 16 = .ok (.iaload, 1) := by decide +kernel
theorem dL_ticks_17 : decode cL_ticks 17 = .ok (.iconst 2, 1) := by decide +kernel
theorem dL_ticks_18 : decode cL_ticks 18 = .ok (.if_icmp .ne 7, 3) := by decide +kernel
theorem dL_ticks_21 : decode cL_ticks 21 = .ok (.iconst 4, 1) := by decide +kernel
theorem dL_ticks_22 : decode cL_ticks 22 = .ok (.goto 15, 3) := by decide +kernel
theorem dL_ticks_25 : decode cL_ticks 25 = .ok (.aload_n 1, 1) := by decide +kernel
theorem dL_ticks_26 : decode cL_ticks 26 = .ok (.aload_n 2, 1) := by decide +kernel
theorem dL_ticks_27 : decode cL_ticks 27 = .ok (.aload_n 1, 1) := by decide +kernel
theorem dL_ticks_28 : decode cL_ticks 28 = .ok (.aload_n 0, 1) := by decide +kernel
theorem dL_ticks_29 : decode cL_ticks 29 = .ok (.iconst 1, 1) := by decide +kernel
theorem dL_ticks_30 : decode cL_ticks 30 = .ok (.iaload, 1) := by decide +kernel
theorem dL_ticks_31 : decode cL_ticks 31 = .ok (.invokestatic 19, 3) := by decide +kernel
theorem dL_ticks_34 : decode cL_ticks 34 = .ok (.invokestatic 23, 3) := by decide +kernel
theorem dL_ticks_37 : decode cL_ticks 37 = .ok (.istore 4, 2) := by decide +kernel
theorem dL_ticks_39 : decode cL_ticks 39 = .ok (.iload 4, 2) := by decide +kernel
theorem dL_ticks_41 : decode cL_ticks 41 = .ok (.iconst 4, 1) := by decide +kernel
theorem dL_ticks_42 : decode cL_ticks 42 = .ok (.if_icmp .ne 10, 3) := by decide +kernel
theorem dL_ticks_45 : decode cL_ticks 45 = .ok (.bipush 12, 2) := by decide +kernel
theorem dL_ticks_47 : decode cL_ticks 47 = .ok (.iload_n 3, 1) := by decide +kernel
theorem dL_ticks_48 : decode cL_ticks 48 = .ok (.isub, 1) := by decide +kernel
theorem dL_ticks_49 : decode cL_ticks 49 = .ok (.goto 11, 3) := by decide +kernel
theorem dL_ticks_52 : decode cL_ticks 52 = .ok (.iconst 2, 1) := by decide +kernel
theorem dL_ticks_53 : decode cL_ticks 53 = .ok (.iload 4, 2) := by decide +kernel
theorem dL_ticks_55 : decode cL_ticks 55 = .ok (.imul, 1) := by decide +kernel
theorem dL_ticks_56 : decode cL_ticks 56 = .ok (.iconst 2, 1) := by decide +kernel
theorem dL_ticks_57 : decode cL_ticks 57 = .ok (.iadd, 1) := by decide +kernel
theorem dL_ticks_58 : decode cL_ticks 58 = .ok (.iload_n 3, 1) := by decide +kernel
theorem dL_ticks_59 : decode cL_ticks 59 = .ok (.isub, 1) := by decide +kernel
theorem dL_ticks_60 : decode cL_ticks 60 = .ok (.ireturn, 1) := by decide +kernel
set_option maxRecDepth 20000 in
theorem ggL_isBelt_X7_cup : GoodIn wsL_isBelt wsX7_cup := goodIn_r _ [5, 6, 7, 8, 9, 10, 11, 12, 13, 14, 15, 16, 17, 18, 19, 20, 21, 22, 23, 24, 25, 26, 27, 28, 29, 30, 31, 32, 33, 34, 35, 36, 37, 38, 39, 40, 41, 42, 43, 44, 45, 46, 47, 48, 49, 50, 51, 52, 53, 54, 55, 56, 57, 58, 59, 60, 61, 62, 63, 64, 65, 66, 67, 68, 69, 70, 71, 72, 73, 74, 75, 76, 77, 146, 147, 148, 149, 150, 151, 152, 153, 154, 155, 156, 157, 158, 159, 160, 161, 162, 163, 164, 165, 166, 167, 168] (by decide +kernel) (by decide +kernel)
set_option maxRecDepth 20000 in
theorem gL_isBelt_X7_cup : GoodIn wsL_isBelt (wsV RL 27 RX7 yX7_cup wsX7_cup) := goodIn_app (goodIn_of _ (by decide +kernel)) ggL_isBelt_X7_cup
set_option maxRecDepth 20000 in
theorem ggL_isBelt_L_ticks : GoodIn wsL_isBelt wsL_ticks := goodIn_r _ [81, 82, 83, 80, 84, 85, 86, 87, 88, 89, 90, 91, 92, 93] (by decide +kernel) (by decide +kernel)
set_option maxRecDepth 20000 in
theorem gL_isBelt_L_ticks : GoodIn wsL_isBelt (va_wsS RL 33 yL_ticks wsL_ticks) := goodIn_app (goodIn_of _ (by decide +kernel)) ggL_isBelt_L_ticks
set_option maxRecDepth 20000 in
theorem ggL_isBelt_X7_count : GoodIn wsL_isBelt wsX7_count := goodIn_r _ [97, 6, 98, 99, 100, 7, 101, 102, 103, 104, 105, 106, 107, 108, 109, 110, 111, 13, 112, 15, 113, 114, 115, 116, 117, 118, 119, 120, 121, 122, 123, 124, 125, 24, 126, 127, 128, 129, 130, 131, 132, 133, 134, 135, 136, 137, 138, 139, 140, 141, 33, 60, 61, 62, 63, 64, 65, 66, 67, 68, 69, 19, 70, 71, 18, 20, 72, 51, 52, 73, 54, 55, 142, 143, 144, 145, 42, 146, 147, 148, 149, 150, 151, 152, 153, 154, 155, 156, 157, 158, 159, 160, 161, 162, 166, 167, 168, 169, 170, 171, 172, 173, 174, 175, 176, 177, 178, 179, 163, 164, 165, 180, 181] (by decide +kernel) (by decide +kernel)
set_option maxRecDepth 20000 in
theorem gL_isBelt_X7_count : GoodIn wsL_isBelt (wsV RL 37 RX7 yX7_count wsX7_count) := goodIn_app (goodIn_of _ (by decide +kernel)) ggL_isBelt_X7_count
theorem dL_isBelt_0 : decode cL_isBelt 0 = .ok (.iconst 0, 1) := by decide +kernel
theorem dL_isBelt_1 : decode cL_isBelt 1 = .ok (.istore 4, 2) := by decide +kernel
theorem dL_isBelt_3 : decode cL_isBelt 3 = .ok (.iconst 0, 1) := by decide +kernel
theorem dL_isBelt_4 : decode cL_isBelt 4 = .ok (.istore 5, 2) := by decide +kernel
theorem dL_isBelt_6 : decode cL_isBelt 6 = .ok (.aload_n 0, 1) := by decide +kernel
theorem dL_isBelt_7 : decode cL_isBelt 7 = .ok (.bipush 12, 2) := by decide +kernel
theorem dL_isBelt_9 : decode cL_isBelt 9 = .ok (.iconst 0, 1) := by decide +kernel
theorem dL_isBelt_10 : decode cL_isBelt 10 = .ok (.invokevirtual 27, 3) := by decide +kernel
theorem dL_isBelt_13 : decode cL_isBelt 13 = .ok (.iconst (-1), 1) := by decide +kernel
theorem dL_isBelt_14 : decode cL_isBelt 14 = .ok (.if_icmp .ne 27, 3) := by decide +kernel
theorem dL_isBelt_17 : decode cL_isBelt 17 = .ok (.aload_n 0, 1) := by decide +kernel
theorem dL_isBelt_18 : decode cL_isBelt 18 = .ok (.iconst (-1), 1) := by decide +kernel
theorem dL_isBelt_19 : decode cL_isBelt 19 = .ok (.iconst 0, 1) := by decide +kernel
theorem dL_isBelt_20 : decode cL_isBelt 20 = .ok (.invokevirtual 27, 3) := by decide +kernel
theorem dL_isBelt_23 : decode cL_isBelt 23 = .ok (.iconst (-1), 1) := by decide +kernel
theorem dL_isBelt_24 : decode cL_isBelt 24 = .ok (.if_icmp .ne 17, 3) := by decide +kernel
theorem dL_isBelt_27 : decode cL_isBelt 27 = .ok (.aload_n 0, 1) := by decide +kernel
theorem dL_isBelt_28 : decode cL_isBelt 28 = .ok (.iconst 0, 1) := by decide +kernel
theorem dL_isBelt_29 : decode cL_isBelt 29 = .ok (.iconst 4, 1) := by decide +kernel
theorem dL_isBelt_30 : decode cL_isBelt 30 = .ok (.invokevirtual 27, 3) := by decide +kernel
theorem dL_isBelt_33 : decode cL_isBelt 33 = .ok (.iconst (-1), 1) := by decide +kernel
theorem dL_isBelt_34 : decode cL_isBelt 34 = .ok (.if_icmp .ne 7, 3) := by decide +kernel
theorem dL_isBelt_37 : decode cL_isBelt 37 = .ok (.iconst 1, 1) := by decide +kernel
theorem dL_isBelt_38 : decode cL_isBelt 38 = .ok (.goto 4, 3) := by decide +kernel
theorem dL_isBelt_41 : decode cL_isBelt 41 = .ok (.iconst 0, 1) := by decide +kernel
theorem dL_isBelt_42 : decode cL_isBelt 42 = .ok (.istore 6, 2) := by decide +kernel
theorem dL_isBelt_44 : decode cL_isBelt 44 = .ok (.iconst 0, 1) := by decide +kernel
theorem dL_isBelt_45 : decode cL_isBelt 45 = .ok (.istore 7, 2) := by decide +kernel
theorem dL_isBelt_47 : decode cL_isBelt 47 = .ok (.iload 7, 2) := by decide +kernel
theorem dL_isBelt_49 : decode cL_isBelt 49 = .ok (.bipush 12, 2) := by decide +kernel
theorem dL_isBelt_51 : decode cL_isBelt 51 = .ok (.if_icmp .ge 183, 3) := by decide +kernel
theorem dL_isBelt_54 : decode cL_isBelt 54 = .ok (.iload 6, 2) := by decide +kernel
theorem dL_isBelt_56 : decode cL_isBelt 56 = .ok (.ifCond .eq 178, 3) := by decide +kernel
theorem dL_isBelt_59 : decode cL_isBelt 59 = .ok (.aload_n 1, 1) := by decide +kernel
theorem dL_isBelt_60 : decode cL_isBelt 60 = .ok (.iconst 4, 1) := by decide +kernel
theorem dL_isBelt_61 : decode cL_isBelt 61 = .ok (.iload 7, 2) := by decide +kernel
theorem dL_isBelt_63 : decode cL_isBelt 63 = .ok (.imul, 1) := by decide +kernel
theorem dL_isBelt_64 : decode cL_isBelt 64 = .ok (.iaload, 1) := by decide +kernel
theorem dL_isBelt_65 : decode cL_isBelt 65 = .ok (.istore 8, 2) := by decide +kernel
theorem dL_isBelt_67 : decode cL_isBelt 67 = .ok (.iload 4, 2) := by decide +kernel
theorem dL_isBelt_69 : decode cL_isBelt 69 = .ok (.iload 8, 2) := by decide +kernel
theorem dL_isBelt_71 : decode cL_isBelt 71 = .ok (.iadd, 1) := by decide +kernel
theorem dL_isBelt_72 : decode cL_isBelt 72 = .ok (.istore 4, 2) := by decide +kernel
theorem dL_isBelt_74 : decode cL_isBelt 74 = .ok (.iload 5, 2) := by decide +kernel
theorem dL_isBelt_76 : decode cL_isBelt 76 = .ok (.iload 8, 2) := by decide +kernel
theorem dL_isBelt_78 : decode cL_isBelt 78 = .ok (.iconst 2, 1) := by decide +kernel
theorem dL_isBelt_79 : decode cL_isBelt 79 = .ok (.if_icmp .ne 7, 3) := by decide +kernel
theorem dL_isBelt_82 : decode cL_isBelt 82 = .ok (.iconst 1, 1) := by decide +kernel
theorem dL_isBelt_83 : decode cL_isBelt 83 = .ok (.goto 4, 3) := by decide +kernel
theorem dL_isBelt_86 : decode cL_isBelt 86 = .ok (.iconst 0, 1) := by decide +kernel
theorem dL_isBelt_87 : decode cL_isBelt 87 = .ok (.iadd, 1) := by decide +kernel
theorem dL_isBelt_88 : decode cL_isBelt 88 = .ok (.istore 5, 2) := by decide +kernel
theorem dL_isBelt_90 : decode cL_isBelt 90 = .ok (.iload 8, 2) := by decide +kernel
theorem dL_isBelt_92 : decode cL_isBelt 92 = .ok (.ifCond .le 18, 3) := by decide +kernel
theorem dL_isBelt_95 : decode cL_isBelt 95 = .ok (.aload_n 1, 1) := by decide +kernel
theorem dL_isBelt_96 : decode cL_isBelt 96 = .ok (.iconst 4, 1) := by decide +kernel
theorem dL_isBelt_97 : decode cL_isBelt 97 = .ok (.iload 7, 2) := by decide +kernel
theorem dL_isBelt_99 : decode cL_isBelt 99 = .ok (.imul, 1) := by decide +kernel
theorem dL_isBelt_100 : decode cL_isBelt 100 = .ok (.iconst 1, 1) := by decide +kernel
theorem dL_isBelt_101 : decode cL_isBelt 101 = .ok (.iadd, 1) := by decide +kernel
theorem dL_isBelt_102 : decode cL_isBelt 102 = .ok (.iaload, 1) := by decide +kernel
theorem dL_isBelt_103 : decode cL_isBelt 103 = .ok (.sipush 10000, 3) := by decide +kernel
theorem dL_isBelt_106 : decode cL_isBelt 106 = .ok (.idiv, 1) := by decide +kernel
theorem dL_isBelt_107 : decode cL_isBelt 107 = .ok (.goto 4, 3) := by decide +kernel
theorem dL_isBelt_110 : decode cL_isBelt 110 = .ok (.iconst 0, 1) := by decide +kernel
theorem dL_isBelt_111 : decode cL_isBelt 111 = .ok (.iload 8, 2) := by decide +kernel
theorem dL_isBelt_113 : decode cL_isBelt 113 = .ok (.iconst 1, 1) := by decide +kernel
theorem dL_isBelt_114 : decode cL_isBelt 114 = .ok (.if_icmp .le 18, 3) := by decide +kernel
theorem dL_isBelt_117 : decode cL_isBelt 117 = .ok (.aload_n 1, 1) := by decide +kernel
theorem dL_isBelt_118 : decode cL_isBelt 118 = .ok (.iconst 4, 1) := by decide +kernel
theorem dL_isBelt_119 : decode cL_isBelt 119 = .ok (.iload 7, 2) := by decide +kernel
theorem dL_isBelt_121 : decode cL_isBelt 121 = .ok (.imul, 1) := by decide +kernel
theorem dL_isBelt_122 : decode cL_isBelt 122 = .ok (.iconst 2, 1) := by decide +kernel
theorem dL_isBelt_123 : decode cL_isBelt 123 = .ok (.iadd, 1) := by decide +kernel
theorem dL_isBelt_124 : decode cL_isBelt 124 = .ok (.iaload, 1) := by decide +kernel
theorem dL_isBelt_125 : decode cL_isBelt 125 = .ok (.sipush 10000, 3) := by decide +kernel
theorem dL_isBelt_128 : decode cL_isBelt 128 = .ok (.idiv, 1) := by decide +kernel
theorem dL_isBelt_129 : decode cL_isBelt 129 = .ok (.goto 4, 3) := by decide +kernel
theorem dL_isBelt_132 : decode cL_isBelt 132 = .ok (.iconst 0, 1) := by decide +kernel
theorem dL_isBelt_133 : decode cL_isBelt 133 = .ok (.iadd, 1) := by decide +kernel
theorem dL_isBelt_134 : decode cL_isBelt 134 = .ok (.istore 9, 2) := by decide +kernel
theorem dL_isBelt_136 : decode cL_isBelt 136 = .ok (.aload_n 0, 1) := by decide +kernel
theorem dL_isBelt_137 : decode cL_isBelt 137 = .ok (.iload 7, 2) := by decide +kernel
theorem dL_isBelt_139 : decode cL_isBelt 139 = .ok (.iconst 0, 1) := by decide +kernel
theorem dL_isBelt_140 : decode cL_isBelt 140 = .ok (.invokevirtual 27, 3) := by decide +kernel
theorem dL_isBelt_143 : decode cL_isBelt 143 = .ok (.iload 8, 2) := by decide +kernel
theorem dL_isBelt_145 : decode cL_isBelt 145 = .ok (.if_icmp .ne 80, 3) := by decide +kernel
theorem dL_isBelt_148 : decode cL_isBelt 148 = .ok (.aload_n 0, 1) := by decide +kernel
theorem dL_isBelt_149 : decode cL_isBelt 149 = .ok (.iload 7, 2) := by decide +kernel
theorem dL_isBelt_151 : decode cL_isBelt 151 = .ok (.iconst 1, 1) := by decide +kernel
theorem dL_isBelt_152 : decode cL_isBelt 152 = .ok (.invokevirtual 27, 3) := by decide +kernel
theorem dL_isBelt_155 : decode cL_isBelt 155 = .ok (.iload 8, 2) := by decide +kernel
theorem dL_isBelt_157 : decode cL_isBelt 157 = .ok (.ifCond .le 19, 3) := by decide +kernel
theorem dL_isBelt_160 : decode cL_isBelt 160 = .ok (.iload 7, 2) := by decide +kernel
theorem dL_isBelt_162 : decode cL_isBelt 162 = .ok (.ifCond .le 14, 3) := by decide +kernel
theorem dL_isBelt_165 : decode cL_isBelt 165 = .ok (.aload_n 1, 1) := by decide +kernel
theorem dL_isBelt_166 : decode cL_isBelt 166 = .ok (.iconst 4, 1) := by decide +kernel
theorem dL_isBelt_167 : decode cL_isBelt 167 = .ok (.iload 7, 2) := by decide +kernel
theorem dL_isBelt_169 : decode cL_isBelt 169 = .ok (.imul, 1) := by decide +kernel
theorem dL_isBelt_170 : decode cL_isBelt 170 = .ok (.iconst 3, 1) := by decide +kernel
theorem dL_isBelt_171 : decode cL_isBelt 171 = .ok (.iadd, 1) := by decide +kernel
theorem dL_isBelt_172 : decode cL_isBelt 172 = .ok (.iaload, 1) := by decide +kernel
theorem dL_isBelt_173 : decode cL_isBelt 173 = .ok (.goto 5, 3) := by decide +kernel
theorem dL_isBelt_176 : decode cL_isBelt 176 = .ok (.bipush (-4), 2) := by decide +kernel
theorem dL_isBelt_178 : decode cL_isBelt 178 = .ok (.if_icmp .ne 47, 3) := by decide +kernel
theorem dL_isBelt_181 : decode cL_isBelt 181 = .ok (.aload_n 0, 1) := by decide +kernel
theorem dL_isBelt_182 : decode cL_isBelt 182 = .ok (.iload 7, 2) := by decide +kernel
theorem dL_isBelt_184 : decode cL_isBelt 184 = .ok (.iconst 2, 1) := by decide +kernel
theorem dL_isBelt_185 : decode cL_isBelt 185 = .ok (.invokevirtual 27, 3) := by decide +kernel
theorem dL_isBelt_188 : decode cL_isBelt 188 = .ok (.iload 9, 2) := by decide +kernel
theorem dL_isBelt_190 : decode cL_isBelt 190 = .ok (.if_icmp .ne 35, 3) := by decide +kernel
theorem dL_isBelt_193 : decode cL_isBelt 193 = .ok (.aload_n 0, 1) := by decide +kernel
theorem dL_isBelt_194 : decode cL_isBelt 194 = .ok (.iload 7, 2) := by decide +kernel
theorem dL_isBelt_196 : decode cL_isBelt 196 = .ok (.iconst 3, 1) := by decide +kernel
theorem dL_isBelt_197 : decode cL_isBelt 197 = .ok (.invokevirtual 27, 3) := by decide +kernel
theorem dL_isBelt_200 : decode cL_isBelt 200 = .ok (.iload 8, 2) := by decide +kernel
theorem dL_isBelt_202 : decode cL_isBelt 202 = .ok (.ifCond .ne 8, 3) := by decide +kernel
theorem dL_isBelt_205 : decode cL_isBelt 205 = .ok (.bipush (-4), 2) := by decide +kernel
theorem dL_isBelt_207 : decode cL_isBelt 207 = .ok (.goto 11, 3) := by decide +kernel
theorem dL_isBelt_210 : decode cL_isBelt 210 = .ok (.aload_n 1, 1) := by decide +kernel
theorem dL_isBelt_211 : decode cL_isBelt 211 = .ok (.aload_n 2, 1) := by decide +kernel
theorem dL_isBelt_212 : decode cL_isBelt 212 = .ok (.aload_n 3, 1) := by decide +kernel
theorem dL_isBelt_213 : decode cL_isBelt 213 = .ok (.iload 7, 2) := by decide +kernel
theorem dL_isBelt_215 : decode cL_isBelt 215 = .ok (.invokestatic 33, 3) := by decide +kernel
theorem dL_isBelt_218 : decode cL_isBelt 218 = .ok (.if_icmp .ne 7, 3) := by decide +kernel
theorem dL_isBelt_221 : decode cL_isBelt 221 = .ok (.iconst 1, 1) := by decide +kernel
theorem dL_isBelt_222 : decode cL_isBelt 222 = .ok (.goto 4, 3) := by decide +kernel
theorem dL_isBelt_225 : decode cL_isBelt 225 = .ok (.iconst 0, 1) := by decide +kernel
theorem dL_isBelt_226 : decode cL_isBelt 226 = .ok (.istore 6, 2) := by decide +kernel
theorem dL_isBelt_228 : decode cL_isBelt 228 = .ok (.iinc 7 1, 3) := by decide +kernel
theorem dL_isBelt_231 : decode cL_isBelt 231 = .ok (.goto (-184), 3) := by decide +kernel
theorem dL_isBelt_234 : decode cL_isBelt 234 = .ok (.iload 6, 2) := by decide +kernel
theorem dL_isBelt_236 : decode cL_isBelt 236 = .ok (.ifCond .eq 27, 3) := by decide +kernel
theorem dL_isBelt_239 : decode cL_isBelt 239 = .ok (.aload_n 0, 1) := by decide +kernel
theorem dL_isBelt_240 : decode cL_isBelt 240 = .ok (.iconst 2, 1) := by decide +kernel
theorem dL_isBelt_241 : decode cL_isBelt 241 = .ok (.invokevirtual 37, 3) := by decide +kernel
theorem dL_isBelt_244 : decode cL_isBelt 244 = .ok (.iload 4, 2) := by decide +kernel
theorem dL_isBelt_246 : decode cL_isBelt 246 = .ok (.if_icmp .ne 17, 3) := by decide +kernel
theorem dL_isBelt_249 : decode cL_isBelt 249 = .ok (.aload_n 0, 1) := by decide +kernel
theorem dL_isBelt_250 : decode cL_isBelt 250 = .ok (.iconst 3, 1) := by decide +kernel
theorem dL_isBelt_251 : decode cL_isBelt 251 = .ok (.invokevirtual 37, 3) := by decide +kernel
theorem dL_isBelt_254 : decode cL_isBelt 254 = .ok (.iload 5, 2) := by decide +kernel
theorem dL_isBelt_256 : decode cL_isBelt 256 = .ok (.if_icmp .ne 7, 3) := by decide +kernel
theorem dL_isBelt_259 : decode cL_isBelt 259 = .ok (.iconst 1, 1) := by decide +kernel
theorem dL_isBelt_260 : decode cL_isBelt 260 = .ok (.goto 4, 3) := by decide +kernel
theorem dL_isBelt_263 : decode cL_isBelt 263 = .ok (.iconst 0, 1) := by decide +kernel
theorem dL_isBelt_264 : decode cL_isBelt 264 = .ok (.ireturn, 1) := by decide +kernel
