set_option maxRecDepth 20000 in
theorem ggL_isRule_X7_rule : GoodIn wsL_isRule wsX7_rule := goodIn_r _ [5, 6, 7, 8, 9, 10, 11, 12, 13, 14, 15, 4, 16, 17, 18, 19, 20, 21, 22, 23, 24, 25, 26, 27, 28, 29, 30, 31, 32, 33, 34, 35, 36, 37, 38, 39, 40, 41, 42, 43, 44, 45, 46, 47, 48, 49, 50, 51, 52, 53, 54, 55, 56, 57, 58, 59, 60, 61, 62, 63, 64, 65, 66, 67, 68, 69, 70, 71, 72, 73, 74, 75, 76, 77, 78, 79, 80, 81, 82, 83, 84, 85, 86, 87, 88, 89, 90, 91, 92, 93, 94, 95, 96, 97, 98, 99, 100, 101, 102, 103, 104, 105] (by decide +kernel) (by decide +kernel)
set_option maxRecDepth 20000 in
theorem gL_isRule_X7_rule : GoodIn wsL_isRule (wsV RL 60 RX7 yX7_rule wsX7_rule) := goodIn_app (goodIn_of _ (by decide +kernel)) ggL_isRule_X7_rule
theorem dL_isRule_0 : decode cL_isRule 0 = .ok (.iload_n 3, 1) := by decide +kernel
theorem dL_isRule_1 : decode cL_isRule 1 = .ok (.aload_n 1, 1) := by decide +kernel
theorem dL_isRule_2 : decode cL_isRule 2 = .ok (.bipush 9, 2) := by decide +kernel
theorem dL_isRule_4 : decode cL_isRule 4 = .ok (.iaload, 1) := by decide +kernel
theorem dL_isRule_5 : decode cL_isRule 5 = .ok (.iconst 1, 1) := by decide +kernel
theorem dL_isRule_6 : decode cL_isRule 6 = .ok (.iadd, 1) := by decide +kernel
theorem dL_isRule_7 : decode cL_isRule 7 = .ok (.irem, 1) := by decide +kernel
theorem dL_isRule_8 : decode cL_isRule 8 = .ok (.istore 4, 2) := by decide +kernel
theorem dL_isRule_10 : decode cL_isRule 10 = .ok (.bipush 50, 2) := by decide +kernel
theorem dL_isRule_12 : decode cL_isRule 12 = .ok (.iload_n 3, 1) := by decide +kernel
theorem dL_isRule_13 : decode cL_isRule 13 = .ok (.bipush 9, 2) := by decide +kernel
theorem dL_isRule_15 : decode cL_isRule 15 = .ok (.idiv, 1) := by decide +kernel
theorem dL_isRule_16 : decode cL_isRule 16 = .ok (.iconst 3, 1) := by decide +kernel
theorem dL_isRule_17 : decode cL_isRule 17 = .ok (.irem, 1) := by decide +kernel
theorem dL_isRule_18 : decode cL_isRule 18 = .ok (.bipush 60, 2) := by decide +kernel
theorem dL_isRule_20 : decode cL_isRule 20 = .ok (.imul, 1) := by decide +kernel
theorem dL_isRule_21 : decode cL_isRule 21 = .ok (.iadd, 1) := by decide +kernel
theorem dL_isRule_22 : decode cL_isRule 22 = .ok (.istore 5, 2) := by decide +kernel
theorem dL_isRule_24 : decode cL_isRule 24 = .ok (.iload_n 3, 1) := by decide +kernel
theorem dL_isRule_25 : decode cL_isRule 25 = .ok (.bipush 27, 2) := by decide +kernel
theorem dL_isRule_27 : decode cL_isRule 27 = .ok (.idiv, 1) := by decide +kernel
theorem dL_isRule_28 : decode cL_isRule 28 = .ok (.iconst 5, 1) := by decide +kernel
theorem dL_isRule_29 : decode cL_isRule 29 = .ok (.irem, 1) := by decide +kernel
theorem dL_isRule_30 : decode cL_isRule 30 = .ok (.bipush 20, 2) := by decide +kernel
theorem dL_isRule_32 : decode cL_isRule 32 = .ok (.imul, 1) := by decide +kernel
theorem dL_isRule_33 : decode cL_isRule 33 = .ok (.istore 6, 2) := by decide +kernel
theorem dL_isRule_35 : decode cL_isRule 35 = .ok (.iload_n 3, 1) := by decide +kernel
theorem dL_isRule_36 : decode cL_isRule 36 = .ok (.sipush 135, 3) := by decide +kernel
theorem dL_isRule_39 : decode cL_isRule 39 = .ok (.idiv, 1) := by decide +kernel
theorem dL_isRule_40 : decode cL_isRule 40 = .ok (.bipush 10, 2) := by decide +kernel
theorem dL_isRule_42 : decode cL_isRule 42 = .ok (.irem, 1) := by decide +kernel
theorem dL_isRule_43 : decode cL_isRule 43 = .ok (.istore 7, 2) := by decide +kernel
theorem dL_isRule_45 : decode cL_isRule 45 = .ok (.iload_n 3, 1) := by decide +kernel
theorem dL_isRule_46 : decode cL_isRule 46 = .ok (.bipush 7, 2) := by decide +kernel
theorem dL_isRule_48 : decode cL_isRule 48 = .ok (.idiv, 1) := by decide +kernel
theorem dL_isRule_49 : decode cL_isRule 49 = .ok (.iconst 4, 1) := by decide +kernel
theorem dL_isRule_50 : decode cL_isRule 50 = .ok (.irem, 1) := by decide +kernel
theorem dL_isRule_51 : decode cL_isRule 51 = .ok (.istore 8, 2) := by decide +kernel
theorem dL_isRule_53 : decode cL_isRule 53 = .ok (.aload_n 1, 1) := by decide +kernel
theorem dL_isRule_54 : decode cL_isRule 54 = .ok (.bipush 9, 2) := by decide +kernel
theorem dL_isRule_56 : decode cL_isRule 56 = .ok (.iaload, 1) := by decide +kernel
theorem dL_isRule_57 : decode cL_isRule 57 = .ok (.bipush 8, 2) := by decide +kernel
theorem dL_isRule_59 : decode cL_isRule 59 = .ok (.if_icmp .ne 28, 3) := by decide +kernel
theorem dL_isRule_62 : decode cL_isRule 62 = .ok (.aload_n 0, 1) := by decide +kernel
theorem dL_isRule_63 : decode cL_isRule 63 = .ok (.iload 4, 2) := by decide +kernel
theorem dL_isRule_65 : decode cL_isRule 65 = .ok (.iload 5, 2) := by decide +kernel
theorem dL_isRule_67 : decode cL_isRule 67 = .ok (.iload 6, 2) := by decide +kernel
theorem dL_isRule_69 : decode cL_isRule 69 = .ok (.iload 7, 2) := by decide +kernel
theorem dL_isRule_71 : decode cL_isRule 71 = .ok (.iload 8, 2) := by decide +kernel
theorem dL_isRule_73 : decode cL_isRule 73 = .ok (.invokevirtual 60, 3) := by decide +kernel
theorem dL_isRule_76 : decode cL_isRule 76 = .ok (.bipush (-3), 2) := by decide +kernel
theorem dL_isRule_78 : decode cL_isRule 78 = .ok (.if_icmp .ne 7, 3) := by decide +kernel
theorem dL_isRule_81 : decode cL_isRule 81 = .ok (.iconst 1, 1) := by decide +kernel
theorem dL_isRule_82 : decode cL_isRule 82 = .ok (.goto 4, 3) := by decide +kernel
theorem dL_isRule_85 : decode cL_isRule 85 = .ok (.iconst 0, 1) := by decide +kernel
theorem dL_isRule_86 : decode cL_isRule 86 = .ok (.ireturn, 1) := by decide +kernel
theorem dL_isRule_87 : decode cL_isRule 87 = .ok (.iconst 4, 1) := by decide +kernel
theorem dL_isRule_88 : decode cL_isRule 88 = .ok (.aload_n 1, 1) := by decide +kernel
theorem dL_isRule_89 : decode cL_isRule 89 = .ok (.bipush 9, 2) := by decide +kernel
theorem dL_isRule_91 : decode cL_isRule 91 = .ok (.iaload, 1) := by decide +kernel
theorem dL_isRule_92 : decode cL_isRule 92 = .ok (.imul, 1) := by decide +kernel
theorem dL_isRule_93 : decode cL_isRule 93 = .ok (.iconst 3, 1) := by decide +kernel
theorem dL_isRule_94 : decode cL_isRule 94 = .ok (.iadd, 1) := by decide +kernel
theorem dL_isRule_95 : decode cL_isRule 95 = .ok (.istore 9, 2) := by decide +kernel
theorem dL_isRule_97 : decode cL_isRule 97 = .ok (.iload 9, 2) := by decide +kernel
theorem dL_isRule_99 : decode cL_isRule 99 = .ok (.iconst 4, 1) := by decide +kernel
theorem dL_isRule_100 : decode cL_isRule 100 = .ok (.iload 4, 2) := by decide +kernel
theorem dL_isRule_102 : decode cL_isRule 102 = .ok (.imul, 1) := by decide +kernel
theorem dL_isRule_103 : decode cL_isRule 103 = .ok (.iconst 3, 1) := by decide +kernel
theorem dL_isRule_104 : decode cL_isRule 104 = .ok (.iadd, 1) := by decide +kernel
theorem dL_isRule_105 : decode cL_isRule 105 = .ok (.if_icmp .le 19, 3) := by decide +kernel
theorem dL_isRule_108 : decode cL_isRule 108 = .ok (.aload_n 2, 1) := by decide +kernel
theorem dL_isRule_109 : decode cL_isRule 109 = .ok (.iload 9, 2) := by decide +kernel
theorem dL_isRule_111 : decode cL_isRule 111 = .ok (.aload_n 2, 1) := by decide +kernel
theorem dL_isRule_112 : decode cL_isRule 112 = .ok (.iload 9, 2) := by decide +kernel
theorem dL_isRule_114 : decode cL_isRule 114 = .ok (.iconst 4, 1) := by decide +kernel
theorem dL_isRule_115 : decode cL_isRule 115 = .ok (.isub, 1) := by decide +kernel
theorem dL_isRule_116 : decode cL_isRule 116 = .ok (.iaload, 1) := by decide +kernel
theorem dL_isRule_117 : decode cL_isRule 117 = .ok (.iastore, 1) := by decide +kernel
theorem dL_isRule_118 : decode cL_isRule 118 = .ok (.iinc 9 (-1), 3) := by decide +kernel
theorem dL_isRule_121 : decode cL_isRule 121 = .ok (.goto (-24), 3) := by decide +kernel
theorem dL_isRule_124 : decode cL_isRule 124 = .ok (.aload_n 2, 1) := by decide +kernel
theorem dL_isRule_125 : decode cL_isRule 125 = .ok (.iconst 4, 1) := by decide +kernel
theorem dL_isRule_126 : decode cL_isRule 126 = .ok (.iload 4, 2) := by decide +kernel
theorem dL_isRule_128 : decode cL_isRule 128 = .ok (.imul, 1) := by decide +kernel
theorem dL_isRule_129 : decode cL_isRule 129 = .ok (.iload 5, 2) := by decide +kernel
theorem dL_isRule_131 : decode cL_isRule 131 = .ok (.iastore, 1) := by decide +kernel
theorem dL_isRule_132 : decode cL_isRule 132 = .ok (.aload_n 2, 1) := by decide +kernel
theorem dL_isRule_133 : decode cL_isRule 133 = .ok (.iconst 4, 1) := by decide +kernel
theorem dL_isRule_134 : decode cL_isRule 134 = .ok (.iload 4, 2) := by decide +kernel
theorem dL_isRule_136 : decode cL_isRule 136 = .ok (.imul, 1) := by decide +kernel
theorem dL_isRule_137 : decode cL_isRule 137 = .ok (.iconst 1, 1) := by decide +kernel
theorem dL_isRule_138 : decode cL_isRule 138 = .ok (.iadd, 1) := by decide +kernel
theorem dL_isRule_139 : decode cL_isRule 139 = .ok (.iload 6, 2) := by decide +kernel
theorem dL_isRule_141 : decode cL_isRule 141 = .ok (.iastore, 1) := by decide +kernel
theorem dL_isRule_142 : decode cL_isRule 142 = .ok (.aload_n 2, 1) := by decide +kernel
theorem dL_isRule_143 : decode cL_isRule 143 = .ok (.iconst 4, 1) := by decide +kernel
theorem dL_isRule_144 : decode cL_isRule 144 = .ok (.iload 4, 2) := by decide +kernel
theorem dL_isRule_146 : decode cL_isRule 146 = .ok (.imul, 1) := by decide +kernel
theorem dL_isRule_147 : decode cL_isRule 147 = .ok (.iconst 2, 1) := by decide +kernel
theorem dL_isRule_148 : decode cL_isRule 148 = .ok (.iadd, 1) := by decide +kernel
theorem dL_isRule_149 : decode cL_isRule 149 = .ok (.iload 7, 2) := by decide +kernel
theorem dL_isRule_151 : decode cL_isRule 151 = .ok (.iastore, 1) := by decide +kernel
theorem dL_isRule_152 : decode cL_isRule 152 = .ok (.aload_n 2, 1) := by decide +kernel
theorem dL_isRule_153 : decode cL_isRule 153 = .ok (.iconst 4, 1) := by decide +kernel
theorem dL_isRule_154 : decode cL_isRule 154 = .ok (.iload 4, 2) := by decide +kernel
theorem dL_isRule_156 : decode cL_isRule 156 = .ok (.imul, 1) := by decide +kernel
theorem dL_isRule_157 : decode cL_isRule 157 = .ok (.iconst 3, 1) := by decide +kernel
theorem dL_isRule_158 : decode cL_isRule 158 = .ok (.iadd, 1) := by decide +kernel
theorem dL_isRule_159 : decode cL_isRule 159 = .ok (.iload 8, 2) := by decide +kernel
theorem dL_isRule_161 : decode cL_isRule 161 = .ok (.iastore, 1) := by decide +kernel
theorem dL_isRule_162 : decode cL_isRule 162 = .ok (.aload_n 1, 1) := by decide +kernel
theorem dL_isRule_163 : decode cL_isRule 163 = .ok (.bipush 9, 2) := by decide +kernel
theorem dL_isRule_165 : decode cL_isRule 165 = .ok (.dup2, 1) := by decide +kernel
theorem dL_isRule_166 : decode cL_isRule 166 = .ok (.iaload, 1) := by decide +kernel
theorem dL_isRule_167 : decode cL_isRule 167 = .ok (.iconst 1, 1) := by decide +kernel
theorem dL_isRule_168 : decode cL_isRule 168 = .ok (.iadd, 1) := by decide +kernel
theorem dL_isRule_169 : decode cL_isRule 169 = .ok (.iastore, 1) := by decide +kernel
theorem dL_isRule_170 : decode cL_isRule 170 = .ok (.aload_n 0, 1) := by decide +kernel
theorem dL_isRule_171 : decode cL_isRule 171 = .ok (.iload 4, 2) := by decide +kernel
theorem dL_isRule_173 : decode cL_isRule 173 = .ok (.iload 5, 2) := by decide +kernel
theorem dL_isRule_175 : decode cL_isRule 175 = .ok (.iload 6, 2) := by decide +kernel
theorem dL_isRule_177 : decode cL_isRule 177 = .ok (.iload 7, 2) := by decide +kernel
theorem dL_isRule_179 : decode cL_isRule 179 = .ok (.iload 8, 2) := by decide +kernel
theorem dL_isRule_181 : decode cL_isRule 181 = .ok (.invokevirtual 60, 3) := by decide +kernel
theorem dL_isRule_184 : decode cL_isRule 184 = .ok (.aload_n 1, 1) := by decide +kernel
theorem dL_isRule_185 : decode cL_isRule 185 = .ok (.bipush 9, 2) := by decide +kernel
theorem dL_isRule_187 : decode cL_isRule 187 = .ok (.iaload, 1) := by decide +kernel
theorem dL_isRule_188 : decode cL_isRule 188 = .ok (.if_icmp .ne 7, 3) := by decide +kernel
theorem dL_isRule_191 : decode cL_isRule 191 = .ok (.iconst 1, 1) := by decide +kernel
theorem dL_isRule_192 : decode cL_isRule 192 = .ok (.goto 4, 3) := by decide +kernel
theorem dL_isRule_195 : decode cL_isRule 195 = .ok (.iconst 0, 1) := by decide +kernel
theorem dL_isRule_196 : decode cL_isRule 196 = .ok (.ireturn, 1) := by decide +kernel
set_option maxRecDepth 20000 in
theorem ggL_isSet_X7_set : GoodIn wsL_isSet wsX7_set := goodIn_r _ [5, 6, 7, 8, 9, 10, 11, 12, 13, 14, 15, 16, 17, 18, 19, 20, 21, 22, 23, 24, 25, 26, 27, 28, 29, 30, 31, 32, 33, 34, 35, 36, 37, 38, 39, 40, 41, 42, 43, 44, 45, 46, 47, 48, 49, 50, 51, 52, 53, 54, 55, 56, 57, 58, 59, 60, 61, 62, 63, 64, 65, 66, 67, 68, 69, 70, 71, 72, 73, 74, 75, 76, 77, 78, 79, 80, 81, 82, 83, 84, 85, 86, 87, 88, 89, 90, 91, 92, 93, 94, 95, 96] (by decide +kernel) (by decide +kernel)
set_option maxRecDepth 20000 in
theorem gL_isSet_X7_set : GoodIn wsL_isSet (wsV RL 64 RX7 yX7_set wsX7_set) := goodIn_app (goodIn_of _ (by decide +kernel)) ggL_isSet_X7_set
theorem dL_isSet_0 : decode cL_isSet 0 = .ok (.iload_n 2, 1) := by decide +kernel
theorem dL_isSet_1 : decode cL_isSet 1 = .ok (.ifCond .ne 13, 3) := by decide +kernel
theorem dL_isSet_4 : decode cL_isSet 4 = .ok (.iload_n 3, 1) := by decide +kernel
theorem dL_isSet_5 : decode cL_isSet 5 = .ok (.bipush 41, 2) := by decide +kernel
theorem dL_isSet_7 : decode cL_isSet 7 = .ok (.irem, 1) := by decide +kernel
theorem dL_isSet_8 : decode cL_isSet 8 = .ok (.bipush 20, 2) := by decide +kernel
theorem dL_isSet_10 : decode cL_isSet 10 = .ok (.isub, 1) := by decide +kernel
theorem dL_isSet_11 : decode cL_isSet 11 = .ok (.goto 21, 3) := by decide +kernel
theorem dL_isSet_14 : decode cL_isSet 14 = .ok (.iload_n 2, 1) := by decide +kernel
theorem dL_isSet_15 : decode cL_isSet 15 = .ok (.iconst 1, 1) := by decide +kernel
theorem dL_isSet_16 : decode cL_isSet 16 = .ok (.if_icmp .ne 10, 3) := by decide +kernel
theorem dL_isSet_19 : decode cL_isSet 19 = .ok (.iload_n 3, 1) := by decide +kernel
theorem dL_isSet_20 : decode cL_isSet 20 = .ok (.bipush 10, 2) := by decide +kernel
theorem dL_isSet_22 : decode cL_isSet 22 = .ok (.irem, 1) := by decide +kernel
theorem dL_isSet_23 : decode cL_isSet 23 = .ok (.goto 9, 3) := by decide +kernel
theorem dL_isSet_26 : decode cL_isSet 26 = .ok (.iconst 1, 1) := by decide +kernel
theorem dL_isSet_27 : decode cL_isSet 27 = .ok (.iload_n 3, 1) := by decide +kernel
theorem dL_isSet_28 : decode cL_isSet 28 = .ok (.bipush 15, 2) := by decide +kernel
theorem dL_isSet_30 : decode cL_isSet 30 = .ok (.irem, 1) := by decide +kernel
theorem dL_isSet_31 : decode cL_isSet 31 = .ok (.iadd, 1) := by decide +kernel
theorem dL_isSet_32 : decode cL_isSet 32 = .ok (.istore 4, 2) := by decide +kernel
theorem dL_isSet_34 : decode cL_isSet 34 = .ok (.aload_n 1, 1) := by decide +kernel
theorem dL_isSet_35 : decode cL_isSet 35 = .ok (.iconst 5, 1) := by decide +kernel
theorem dL_isSet_36 : decode cL_isSet 36 = .ok (.iload_n 2, 1) := by decide +kernel
theorem dL_isSet_37 : decode cL_isSet 37 = .ok (.iadd, 1) := by decide +kernel
theorem dL_isSet_38 : decode cL_isSet 38 = .ok (.iaload, 1) := by decide +kernel
theorem dL_isSet_39 : decode cL_isSet 39 = .ok (.iload_n 2, 1) := by decide +kernel
theorem dL_isSet_40 : decode cL_isSet 40 = .ok (.ifCond .ne 8, 3) := by decide +kernel
theorem dL_isSet_43 : decode cL_isSet 43 = .ok (.bipush 20, 2) := by decide +kernel
theorem dL_isSet_45 : decode cL_isSet 45 = .ok (.goto 4, 3) := by decide +kernel
theorem dL_isSet_48 : decode cL_isSet 48 = .ok (.iconst 0, 1) := by decide +kernel
theorem dL_isSet_49 : decode cL_isSet 49 = .ok (.iadd, 1) := by decide +kernel
theorem dL_isSet_50 : decode cL_isSet 50 = .ok (.istore 5, 2) := by decide +kernel
theorem dL_isSet_52 : decode cL_isSet 52 = .ok (.aload_n 1, 1) := by decide +kernel
theorem dL_isSet_53 : decode cL_isSet 53 = .ok (.iconst 5, 1) := by decide +kernel
theorem dL_isSet_54 : decode cL_isSet 54 = .ok (.iload_n 2, 1) := by decide +kernel
theorem dL_isSet_55 : decode cL_isSet 55 = .ok (.iadd, 1) := by decide +kernel
theorem dL_isSet_56 : decode cL_isSet 56 = .ok (.iload 4, 2) := by decide +kernel
theorem dL_isSet_58 : decode cL_isSet 58 = .ok (.iastore, 1) := by decide +kernel
theorem dL_isSet_59 : decode cL_isSet 59 = .ok (.aload_n 0, 1) := by decide +kernel
theorem dL_isSet_60 : decode cL_isSet 60 = .ok (.iload_n 2, 1) := by decide +kernel
theorem dL_isSet_61 : decode cL_isSet 61 = .ok (.iload 4, 2) := by decide +kernel
theorem dL_isSet_63 : decode cL_isSet 63 = .ok (.invokevirtual 64, 3) := by decide +kernel
theorem dL_isSet_66 : decode cL_isSet 66 = .ok (.iload 5, 2) := by decide +kernel
theorem dL_isSet_68 : decode cL_isSet 68 = .ok (.if_icmp .ne 7, 3) := by decide +kernel
theorem dL_isSet_71 : decode cL_isSet 71 = .ok (.iconst 1, 1) := by decide +kernel
theorem dL_isSet_72 : decode cL_isSet 72 = .ok (.goto 4, 3) := by decide +kernel
theorem dL_isSet_75 : decode cL_isSet 75 = .ok (.iconst 0, 1) := by decide +kernel
theorem dL_isSet_76 : decode cL_isSet 76 = .ok (.ireturn, 1) := by decide +kernel
set_option maxRecDepth 20000 in
theorem ggL_isActed_L_pack : GoodIn wsL_isActed wsL_pack := goodIn_r _ [4] (by decide +kernel) (by decide +kernel)
set_option maxRecDepth 20000 in
theorem gL_isActed_L_pack : GoodIn wsL_isActed (va_wsS RL 9 yL_pack wsL_pack) := goodIn_app (goodIn_of _ (by decide +kernel)) ggL_isActed_L_pack
set_option maxRecDepth 20000 in
theorem ggL_isActed_X7_lay : GoodIn wsL_isActed wsX7_lay := goodIn_r _ [9, 10, 11, 12, 13, 14, 15, 16, 17, 18, 19, 20, 21, 22, 23, 24, 25, 26, 27, 28, 29, 30, 31, 32, 33, 34, 35, 36, 37, 38, 39, 40, 41, 42, 43, 44, 45, 46, 47, 48, 49, 50, 51, 52, 53, 54, 55, 56, 57, 58, 59, 60, 61, 62, 63, 64, 65, 66, 67, 68, 69, 70, 71, 72, 73, 74, 75, 76, 77, 78, 79, 80, 81, 82, 234, 235, 236, 237, 238, 239, 240, 241, 242, 243, 244, 245, 246, 247, 248, 249, 250, 251, 252, 253, 254, 255, 256, 257, 258, 259, 260, 261] (by decide +kernel) (by decide +kernel)
set_option maxRecDepth 20000 in
theorem gL_isActed_X7_lay : GoodIn wsL_isActed (wsV RL 67 RX7 yX7_lay wsX7_lay) := goodIn_app (goodIn_of _ (by decide +kernel)) ggL_isActed_X7_lay
set_option maxRecDepth 20000 in
theorem ggL_isActed_L_tick : GoodIn wsL_isActed wsL_tick := goodIn_r _ [85, 86, 87, 3, 88, 1, 2, 4, 89, 90, 91, 92, 93, 94] (by decide +kernel) (by decide +kernel)
set_option maxRecDepth 20000 in
theorem gL_isActed_L_tick : GoodIn wsL_isActed (va_wsS RL 70 yL_tick wsL_tick) := goodIn_app (goodIn_of _ (by decide +kernel)) ggL_isActed_L_tick
set_option maxRecDepth 20000 in
theorem ggL_isActed_X7_pass : GoodIn wsL_isActed wsX7_pass := goodIn_r _ [98, 13, 10, 18, 19, 20, 21, 22, 23, 24, 25, 26, 27, 28, 29, 30, 31, 32, 33, 34, 35, 36, 37, 38, 39, 40, 41, 42, 43, 44, 45, 46, 47, 48, 49, 50, 51, 52, 53, 54, 55, 56, 57, 58, 59, 60, 61, 62, 63, 64, 65, 66, 67, 68, 69, 70, 71, 99, 100, 101, 102, 103, 104, 105, 106, 107, 108, 109, 110, 111, 112, 113, 114, 115, 116, 117, 118, 119, 120, 121, 122, 123, 124, 125, 126, 127, 128, 129, 16, 130, 131, 132, 133, 134, 135, 136, 137, 73, 74, 138, 139, 140, 141, 142, 143, 144, 145, 146, 147, 148, 149, 150, 151, 152, 153, 154, 155, 156, 157, 158, 159, 160, 161, 162, 163, 164, 165, 166, 167, 168, 169, 170, 171, 172, 173, 174, 234, 235, 236, 237, 238, 239, 254, 255, 256, 240, 241, 242, 243, 244, 245, 246, 247, 248, 249, 250, 257, 258, 259, 251, 252, 253, 260, 261] (by decide +kernel) (by decide +kernel)
set_option maxRecDepth 20000 in
theorem gL_isActed_X7_pass : GoodIn wsL_isActed (wsV RL 74 RX7 yX7_pass wsX7_pass) := goodIn_app (goodIn_of _ (by decide +kernel)) ggL_isActed_X7_pass
set_option maxRecDepth 20000 in
theorem ggL_isActed_L_isRule : GoodIn wsL_isActed wsL_isRule := goodIn_r _ [177, 178, 179, 180, 8, 181, 10, 182, 183, 13, 14, 15, 16, 17, 184, 185, 186, 18, 19, 20, 21, 22, 23, 24, 25, 26, 27, 28, 29, 30, 31, 32, 33, 34, 35, 36, 37, 38, 39, 40, 41, 42, 43, 44, 45, 46, 47, 48, 49, 50, 51, 52, 53, 54, 55, 56, 57, 58, 59, 60, 61, 62, 63, 64, 65, 66, 67, 68, 69, 70, 71, 72, 73, 74, 187, 188, 189, 190, 234, 235, 236, 237, 238, 239, 240, 241, 242, 243, 244, 245, 246, 247, 248, 249, 250, 257, 258, 259, 254, 255, 256, 251, 252, 253, 260, 261] (by decide +kernel) (by decide +kernel)
set_option maxRecDepth 20000 in
theorem gL_isActed_L_isRule : GoodIn wsL_isActed (va_wsS RL 77 yL_isRule wsL_isRule) := goodIn_app (goodIn_of _ (by decide +kernel)) ggL_isActed_L_isRule
set_option maxRecDepth 20000 in
theorem ggL_isActed_X7_drop : GoodIn wsL_isActed wsX7_drop := goodIn_r _ [194, 10, 182, 13, 183, 195, 196, 197, 49, 198, 54, 18, 19, 20, 21, 22, 23, 24, 25, 26, 27, 28, 29, 30, 31, 32, 33, 34, 35, 36, 37, 38, 39, 40, 41, 42, 43, 44, 45, 46, 47, 48, 50, 51, 52, 53, 55, 56, 57, 58, 59, 60, 61, 62, 63, 64, 65, 66, 67, 68, 69, 70, 71, 199, 200, 201, 202, 203, 234, 235, 236, 237, 238, 239, 240, 241, 242, 243, 244, 245, 246, 247, 248, 249, 250, 257, 258, 259, 254, 255, 256, 251, 252, 253, 260, 261] (by decide +kernel) (by decide +kernel)
set_option maxRecDepth 20000 in
theorem gL_isActed_X7_drop : GoodIn wsL_isActed (wsV RL 81 RX7 yX7_drop wsX7_drop) := goodIn_app (goodIn_of _ (by decide +kernel)) ggL_isActed_X7_drop
set_option maxRecDepth 20000 in
theorem ggL_isActed_X7_water : GoodIn wsL_isActed wsX7_water := goodIn_r _ [207, 13, 10, 208, 184, 185, 8, 186, 18, 19, 20, 21, 22, 23, 24, 25, 26, 27, 28, 29, 30, 31, 32, 33, 34, 35, 36, 37, 38, 39, 40, 41, 42, 43, 44, 45, 46, 47, 48, 49, 50, 51, 52, 53, 54, 55, 56, 57, 58, 59, 60, 61, 62, 63, 64, 65, 66, 67, 68, 69, 70, 71, 234, 235, 236, 237, 238, 239, 240, 241, 242, 243, 244, 245, 246, 247, 248, 249, 250, 254, 255, 256, 257, 258, 259, 251, 252, 253, 260, 261] (by decide +kernel) (by decide +kernel)
set_option maxRecDepth 20000 in
theorem gL_isActed_X7_water : GoodIn wsL_isActed (wsV RL 84 RX7 yX7_water wsX7_water) := goodIn_app (goodIn_of _ (by decide +kernel)) ggL_isActed_X7_water
set_option maxRecDepth 20000 in
theorem ggL_isActed_X7_empty : GoodIn wsL_isActed wsX7_empty := goodIn_r _ [212, 13, 10, 213, 214, 8, 215, 18, 19, 20, 21, 22, 23, 24, 25, 26, 27, 28, 29, 30, 31, 32, 33, 34, 35, 36, 37, 38, 39, 40, 41, 42, 43, 44, 45, 46, 47, 48, 49, 50, 51, 52, 53, 54, 55, 56, 57, 58, 59, 60, 61, 62, 63, 64, 65, 66, 67, 68, 69, 70, 71, 216, 217, 218, 219, 169, 234, 235, 236, 237, 238, 239, 254, 255, 256, 240, 241, 242, 243, 244, 245, 246, 247, 248, 249, 250, 257, 258, 259, 251, 252, 253, 260, 261] (by decide +kernel) (by decide +kernel)
set_option maxRecDepth 20000 in
theorem gL_isActed_X7_empty : GoodIn wsL_isActed (wsV RL 87 RX7 yX7_empty wsX7_empty) := goodIn_app (goodIn_of _ (by decide +kernel)) ggL_isActed_X7_empty
set_option maxRecDepth 20000 in
theorem ggL_isActed_L_isSet : GoodIn wsL_isActed wsL_isSet := goodIn_r _ [222, 223, 224, 225, 8, 226, 227, 228, 13, 10, 229, 18, 19, 20, 21, 22, 23, 24, 25, 26, 27, 28, 29, 30, 31, 32, 33, 34, 35, 36, 37, 38, 39, 40, 41, 42, 43, 44, 45, 46, 47, 48, 49, 50, 51, 52, 53, 54, 55, 56, 57, 58, 59, 60, 61, 62, 63, 64, 65, 66, 67, 68, 69, 70, 71, 230, 231, 232, 233, 234, 235, 236, 237, 238, 239, 240, 241, 242, 243, 244, 245, 246, 247, 248, 249, 250, 254, 255, 256, 257, 258, 259, 251, 252, 253, 260, 261] (by decide +kernel) (by decide +kernel)
set_option maxRecDepth 20000 in
theorem gL_isActed_L_isSet : GoodIn wsL_isActed (va_wsS RL 90 yL_isSet wsL_isSet) := goodIn_app (goodIn_of _ (by decide +kernel)) ggL_isActed_L_isSet
theorem dL_isActed_0 : decode cL_isActed 0 = .ok (.iload 6, 2) := by decide +kernel
theorem dL_isActed_2 : decode cL_isActed 2 = .ok (.bipush 8, 2) := by decide +kernel
theorem dL_isActed_4 : decode cL_isActed 4 = .ok (.if_icmp .ge 167, 3) := by decide +kernel
theorem dL_isActed_7 : decode cL_isActed 7 = .ok (.bipush 50, 2) := by decide +kernel
theorem dL_isActed_9 : decode cL_isActed 9 = .ok (.iload 7, 2) := by decide +kernel
theorem dL_isActed_11 : decode cL_isActed 11 = .ok (.sipush 251, 3) := by decide +kernel
theorem dL_isActed_14 : decode cL_isActed 14 = .ok (.irem, 1) := by decide +kernel
theorem dL_isActed_15 : decode cL_isActed 15 = .ok (.iadd, 1) := by decide +kernel
theorem dL_isActed_16 : decode cL_isActed 16 = .ok (.istore 8, 2) := by decide +kernel
theorem dL_isActed_18 : decode cL_isActed 18 = .ok (.iload 7, 2) := by decide +kernel
theorem dL_isActed_20 : decode cL_isActed 20 = .ok (.sipush 251, 3) := by decide +kernel
theorem dL_isActed_23 : decode cL_isActed 23 = .ok (.idiv, 1) := by decide +kernel
theorem dL_isActed_24 : decode cL_isActed 24 = .ok (.bipush 101, 2) := by decide +kernel
theorem dL_isActed_26 : decode cL_isActed 26 = .ok (.irem, 1) := by decide +kernel
theorem dL_isActed_27 : decode cL_isActed 27 = .ok (.istore 9, 2) := by decide +kernel
theorem dL_isActed_29 : decode cL_isActed 29 = .ok (.iload 7, 2) := by decide +kernel
theorem dL_isActed_31 : decode cL_isActed 31 = .ok (.iconst 5, 1) := by decide +kernel
theorem dL_isActed_32 : decode cL_isActed 32 = .ok (.idiv, 1) := by decide +kernel
theorem dL_isActed_33 : decode cL_isActed 33 = .ok (.bipush 10, 2) := by decide +kernel
theorem dL_isActed_35 : decode cL_isActed 35 = .ok (.irem, 1) := by decide +kernel
theorem dL_isActed_36 : decode cL_isActed 36 = .ok (.istore 10, 2) := by decide +kernel
theorem dL_isActed_38 : decode cL_isActed 38 = .ok (.aload_n 1, 1) := by decide +kernel
theorem dL_isActed_39 : decode cL_isActed 39 = .ok (.iconst 0, 1) := by decide +kernel
theorem dL_isActed_40 : decode cL_isActed 40 = .ok (.iaload, 1) := by decide +kernel
theorem dL_isActed_41 : decode cL_isActed 41 = .ok (.iconst 2, 1) := by decide +kernel
theorem dL_isActed_42 : decode cL_isActed 42 = .ok (.if_icmp .ne 7, 3) := by decide +kernel
theorem dL_isActed_45 : decode cL_isActed 45 = .ok (.iconst 1, 1) := by decide +kernel
theorem dL_isActed_46 : decode cL_isActed 46 = .ok (.goto 4, 3) := by decide +kernel
theorem dL_isActed_49 : decode cL_isActed 49 = .ok (.iconst 0, 1) := by decide +kernel
theorem dL_isActed_50 : decode cL_isActed 50 = .ok (.istore 11, 2) := by decide +kernel
theorem dL_isActed_52 : decode cL_isActed 52 = .ok (.iload 11, 2) := by decide +kernel
theorem dL_isActed_54 : decode cL_isActed 54 = .ok (.ifCond .ne 34, 3) := by decide +kernel
theorem dL_isActed_57 : decode cL_isActed 57 = .ok (.aload_n 1, 1) := by decide +kernel
theorem dL_isActed_58 : decode cL_isActed 58 = .ok (.iconst 1, 1) := by decide +kernel
theorem dL_isActed_59 : decode cL_isActed 59 = .ok (.aload_n 1, 1) := by decide +kernel
theorem dL_isActed_60 : decode cL_isActed 60 = .ok (.iconst 0, 1) := by decide +kernel
theorem dL_isActed_61 : decode cL_isActed 61 = .ok (.iaload, 1) := by decide +kernel
theorem dL_isActed_62 : decode cL_isActed 62 = .ok (.iadd, 1) := by decide +kernel
theorem dL_isActed_63 : decode cL_isActed 63 = .ok (.iload 8, 2) := by decide +kernel
theorem dL_isActed_65 : decode cL_isActed 65 = .ok (.iload 9, 2) := by decide +kernel
theorem dL_isActed_67 : decode cL_isActed 67 = .ok (.iload 10, 2) := by decide +kernel
theorem dL_isActed_69 : decode cL_isActed 69 = .ok (.invokestatic 9, 3) := by decide +kernel
theorem dL_isActed_72 : decode cL_isActed 72 = .ok (.iastore, 1) := by decide +kernel
theorem dL_isActed_73 : decode cL_isActed 73 = .ok (.aload_n 1, 1) := by decide +kernel
theorem dL_isActed_74 : decode cL_isActed 74 = .ok (.iconst 0, 1) := by decide +kernel
theorem dL_isActed_75 : decode cL_isActed 75 = .ok (.dup2, 1) := by decide +kernel
theorem dL_isActed_76 : decode cL_isActed 76 = .ok (.iaload, 1) := by decide +kernel
theorem dL_isActed_77 : decode cL_isActed 77 = .ok (.iconst 1, 1) := by decide +kernel
theorem dL_isActed_78 : decode cL_isActed 78 = .ok (.iadd, 1) := by decide +kernel
theorem dL_isActed_79 : decode cL_isActed 79 = .ok (.iastore, 1) := by decide +kernel
theorem dL_isActed_80 : decode cL_isActed 80 = .ok (.aload_n 3, 1) := by decide +kernel
theorem dL_isActed_81 : decode cL_isActed 81 = .ok (.bipush 11, 2) := by decide +kernel
theorem dL_isActed_83 : decode cL_isActed 83 = .ok (.dup2, 1) := by decide +kernel
theorem dL_isActed_84 : decode cL_isActed 84 = .ok (.iaload, 1) := by decide +kernel
theorem dL_isActed_85 : decode cL_isActed 85 = .ok (.iconst 1, 1) := by decide +kernel
theorem dL_isActed_86 : decode cL_isActed 86 = .ok (.iadd, 1) := by decide +kernel
theorem dL_isActed_87 : decode cL_isActed 87 = .ok (.iastore, 1) := by decide +kernel
theorem dL_isActed_88 : decode cL_isActed 88 = .ok (.aload_n 0, 1) := by decide +kernel
theorem dL_isActed_89 : decode cL_isActed 89 = .ok (.iload 8, 2) := by decide +kernel
theorem dL_isActed_91 : decode cL_isActed 91 = .ok (.iload 9, 2) := by decide +kernel
theorem dL_isActed_93 : decode cL_isActed 93 = .ok (.iload 10, 2) := by decide +kernel
theorem dL_isActed_95 : decode cL_isActed 95 = .ok (.invokevirtual 67, 3) := by decide +kernel
theorem dL_isActed_98 : decode cL_isActed 98 = .ok (.iload 11, 2) := by decide +kernel
theorem dL_isActed_100 : decode cL_isActed 100 = .ok (.ifCond .eq 8, 3) := by decide +kernel
theorem dL_isActed_103 : decode cL_isActed 103 = .ok (.bipush (-3), 2) := by decide +kernel
theorem dL_isActed_105 : decode cL_isActed 105 = .ok (.goto 6, 3) := by decide +kernel
theorem dL_isActed_108 : decode cL_isActed 108 = .ok (.aload_n 1, 1) := by decide +kernel
theorem dL_isActed_109 : decode cL_isActed 109 = .ok (.iconst 0, 1) := by decide +kernel
theorem dL_isActed_110 : decode cL_isActed 110 = .ok (.iaload, 1) := by decide +kernel
theorem dL_isActed_111 : decode cL_isActed 111 = .ok (.if_icmp .ne 7, 3) := by decide +kernel
theorem dL_isActed_114 : decode cL_isActed 114 = .ok (.iconst 1, 1) := by decide +kernel
theorem dL_isActed_115 : decode cL_isActed 115 = .ok (.goto 4, 3) := by decide +kernel
theorem dL_isActed_118 : decode cL_isActed 118 = .ok (.iconst 0, 1) := by decide +kernel
theorem dL_isActed_119 : decode cL_isActed 119 = .ok (.istore 12, 2) := by decide +kernel
theorem dL_isActed_121 : decode cL_isActed 121 = .ok (.iload 6, 2) := by decide +kernel
theorem dL_isActed_123 : decode cL_isActed 123 = .ok (.bipush 6, 2) := by decide +kernel
theorem dL_isActed_125 : decode cL_isActed 125 = .ok (.if_icmp .ge 16, 3) := by decide +kernel
theorem dL_isActed_128 : decode cL_isActed 128 = .ok (.aload_n 1, 1) := by decide +kernel
theorem dL_isActed_129 : decode cL_isActed 129 = .ok (.aload_n 2, 1) := by decide +kernel
theorem dL_isActed_130 : decode cL_isActed 130 = .ok (.aload_n 3, 1) := by decide +kernel
theorem dL_isActed_131 : decode cL_isActed 131 = .ok (.aload 4, 2) := by decide +kernel
theorem dL_isActed_133 : decode cL_isActed 133 = .ok (.aload 5, 2) := by decide +kernel
theorem dL_isActed_135 : decode cL_isActed 135 = .ok (.invokestatic 70, 3) := by decide +kernel
theorem dL_isActed_138 : decode cL_isActed 138 = .ok (.goto 4, 3) := by decide +kernel
theorem dL_isActed_141 : decode cL_isActed 141 = .ok (.iconst 0, 1) := by decide +kernel
theorem dL_isActed_142 : decode cL_isActed 142 = .ok (.istore 13, 2) := by decide +kernel
theorem dL_isActed_144 : decode cL_isActed 144 = .ok (.iload 12, 2) := by decide +kernel
theorem dL_isActed_146 : decode cL_isActed 146 = .ok (.ifCond .eq 23, 3) := by decide +kernel
theorem dL_isActed_149 : decode cL_isActed 149 = .ok (.iload 6, 2) := by decide +kernel
theorem dL_isActed_151 : decode cL_isActed 151 = .ok (.iconst 5, 1) := by decide +kernel
theorem dL_isActed_152 : decode cL_isActed 152 = .ok (.if_icmp .gt 13, 3) := by decide +kernel
theorem dL_isActed_155 : decode cL_isActed 155 = .ok (.aload_n 0, 1) := by decide +kernel
theorem dL_isActed_156 : decode cL_isActed 156 = .ok (.iconst 1, 1) := by decide +kernel
theorem dL_isActed_157 : decode cL_isActed 157 = .ok (.invokevirtual 74, 3) := by decide +kernel
theorem dL_isActed_160 : decode cL_isActed 160 = .ok (.iload 13, 2) := by decide +kernel
theorem dL_isActed_162 : decode cL_isActed 162 = .ok (.if_icmp .ne 7, 3) := by decide +kernel
theorem dL_isActed_165 : decode cL_isActed 165 = .ok (.iconst 1, 1) := by decide +kernel
theorem dL_isActed_166 : decode cL_isActed 166 = .ok (.goto 4, 3) := by decide +kernel
theorem dL_isActed_169 : decode cL_isActed 169 = .ok (.iconst 0, 1) := by decide +kernel
theorem dL_isActed_170 : decode cL_isActed 170 = .ok (.ireturn, 1) := by decide +kernel
theorem dL_isActed_171 : decode cL_isActed 171 = .ok (.iload 6, 2) := by decide +kernel
theorem dL_isActed_173 : decode cL_isActed 173 = .ok (.bipush 11, 2) := by decide +kernel
theorem dL_isActed_175 : decode cL_isActed 175 = .ok (.if_icmp .ge 13, 3) := by decide +kernel
theorem dL_isActed_178 : decode cL_isActed 178 = .ok (.aload_n 0, 1) := by decide +kernel
theorem dL_isActed_179 : decode cL_isActed 179 = .ok (.aload_n 3, 1) := by decide +kernel
theorem dL_isActed_180 : decode cL_isActed 180 = .ok (.aload 4, 2) := by decide +kernel
theorem dL_isActed_182 : decode cL_isActed 182 = .ok (.iload 7, 2) := by decide +kernel
theorem dL_isActed_184 : decode cL_isActed 184 = .ok (.invokestatic 77, 3) := by decide +kernel
theorem dL_isActed_187 : decode cL_isActed 187 = .ok (.ireturn, 1) := by decide +kernel
theorem dL_isActed_188 : decode cL_isActed 188 = .ok (.iload 6, 2) := by decide +kernel
theorem dL_isActed_190 : decode cL_isActed 190 = .ok (.bipush 11, 2) := by decide +kernel
theorem dL_isActed_192 : decode cL_isActed 192 = .ok (.if_icmp .ne 111, 3) := by decide +kernel
theorem dL_isActed_195 : decode cL_isActed 195 = .ok (.iload 7, 2) := by decide +kernel
theorem dL_isActed_197 : decode cL_isActed 197 = .ok (.bipush 9, 2) := by decide +kernel
theorem dL_isActed_199 : decode cL_isActed 199 = .ok (.irem, 1) := by decide +kernel
theorem dL_isActed_200 : decode cL_isActed 200 = .ok (.istore 8, 2) := by decide +kernel
theorem dL_isActed_202 : decode cL_isActed 202 = .ok (.iload 8, 2) := by decide +kernel
theorem dL_isActed_204 : decode cL_isActed 204 = .ok (.aload_n 3, 1) := by decide +kernel
theorem dL_isActed_205 : decode cL_isActed 205 = .ok (.bipush 9, 2) := by decide +kernel
theorem dL_isActed_207 : decode cL_isActed 207 = .ok (.iaload, 1) := by decide +kernel
theorem dL_isActed_208 : decode cL_isActed 208 = .ok (.if_icmp .ge 7, 3) := by decide +kernel
theorem dL_isActed_211 : decode cL_isActed 211 = .ok (.iconst 1, 1) := by decide +kernel
theorem dL_isActed_212 : decode cL_isActed 212 = .ok (.goto 4, 3) := by decide +kernel
theorem dL_isActed_215 : decode cL_isActed 215 = .ok (.iconst 0, 1) := by decide +kernel
theorem dL_isActed_216 : decode cL_isActed 216 = .ok (.istore 9, 2) := by decide +kernel
theorem dL_isActed_218 : decode cL_isActed 218 = .ok (.aload_n 3, 1) := by decide +kernel
theorem dL_isActed_219 : decode cL_isActed 219 = .ok (.bipush 9, 2) := by decide +kernel
theorem dL_isActed_221 : decode cL_isActed 221 = .ok (.dup2, 1) := by decide +kernel
theorem dL_isActed_222 : decode cL_isActed 222 = .ok (.iaload, 1) := by decide +kernel
theorem dL_isActed_223 : decode cL_isActed 223 = .ok (.iload 9, 2) := by decide +kernel
theorem dL_isActed_225 : decode cL_isActed 225 = .ok (.ifCond .eq 7, 3) := by decide +kernel
theorem dL_isActed_228 : decode cL_isActed 228 = .ok (.iconst 1, 1) := by decide +kernel
theorem dL_isActed_229 : decode cL_isActed 229 = .ok (.goto 4, 3) := by decide +kernel
theorem dL_isActed_232 : decode cL_isActed 232 = .ok (.iconst 0, 1) := by decide +kernel
theorem dL_isActed_233 : decode cL_isActed 233 = .ok (.isub, 1) := by decide +kernel
theorem dL_isActed_234 : decode cL_isActed 234 = .ok (.iastore, 1) := by decide +kernel
theorem dL_isActed_235 : decode cL_isActed 235 = .ok (.iconst 4, 1) := by decide +kernel
theorem dL_isActed_236 : decode cL_isActed 236 = .ok (.iload 8, 2) := by decide +kernel
theorem dL_isActed_238 : decode cL_isActed 238 = .ok (.imul, 1) := by decide +kernel
theorem dL_isActed_239 : decode cL_isActed 239 = .ok (.istore 10, 2) := by decide +kernel
theorem dL_isActed_241 : decode cL_isActed 241 = .ok (.iload 10, 2) := by decide +kernel
theorem dL_isActed_243 : decode cL_isActed 243 = .ok (.iconst 4, 1) := by decide +kernel
theorem dL_isActed_244 : decode cL_isActed 244 = .ok (.aload_n 3, 1) := by decide +kernel
theorem dL_isActed_245 : decode cL_isActed 245 = .ok (.bipush 9, 2) := by decide +kernel
theorem dL_isActed_247 : decode cL_isActed 247 = .ok (.iaload, 1) := by decide +kernel
theorem dL_isActed_248 : decode cL_isActed 248 = .ok (.imul, 1) := by decide +kernel
theorem dL_isActed_249 : decode cL_isActed 249 = .ok (.if_icmp .ge 26, 3) := by decide +kernel
theorem dL_isActed_252 : decode cL_isActed 252 = .ok (.iload 9, 2) := by decide +kernel
theorem dL_isActed_254 : decode cL_isActed 254 = .ok (.ifCond .eq 21, 3) := by decide +kernel
theorem dL_isActed_257 : decode cL_isActed 257 = .ok (.aload 4, 2) := by decide +kernel
theorem dL_isActed_259 : decode cL_isActed 259 = .ok (.iload 10, 2) := by decide +kernel
theorem dL_isActed_261 : decode cL_isActed 261 = .ok (.aload 4, 2) := by decide +kernel
theorem dL_isActed_263 : decode cL_isActed 263 = .ok (.iload 10, 2) := by decide +kernel
theorem dL_isActed_265 : decode cL_isActed 265 = .ok (.iconst 4, 1) := by decide +kernel
theorem dL_isActed_266 : decode cL_isActed 266 = .ok (.iadd, 1) := by decide +kernel
theorem dL_isActed_267 : decode cL_isActed 267 = .ok (.iaload, 1) := by decide +kernel
theorem dL_isActed_268 : decode cL_isActed 268 = .ok (.iastore, 1) := by decide +kernel
theorem dL_isActed_269 : decode cL_isActed 269 = .ok (.iinc 10 1, 3) := by decide +kernel
theorem dL_isActed_272 : decode cL_isActed 272 = .ok (.goto (-31), 3) := by decide +kernel
theorem dL_isActed_275 : decode cL_isActed 275 = .ok (.aload_n 0, 1) := by decide +kernel
theorem dL_isActed_276 : decode cL_isActed 276 = .ok (.iload 8, 2) := by decide +kernel
theorem dL_isActed_278 : decode cL_isActed 278 = .ok (.invokevirtual 81, 3) := by decide +kernel
theorem dL_isActed_281 : decode cL_isActed 281 = .ok (.iload 9, 2) := by decide +kernel
theorem dL_isActed_283 : decode cL_isActed 283 = .ok (.ifCond .eq 10, 3) := by decide +kernel
theorem dL_isActed_286 : decode cL_isActed 286 = .ok (.aload_n 3, 1) := by decide +kernel
theorem dL_isActed_287 : decode cL_isActed 287 = .ok (.bipush 9, 2) := by decide +kernel
theorem dL_isActed_289 : decode cL_isActed 289 = .ok (.iaload, 1) := by decide +kernel
theorem dL_isActed_290 : decode cL_isActed 290 = .ok (.goto 4, 3) := by decide +kernel
theorem dL_isActed_293 : decode cL_isActed 293 = .ok (.iconst (-1), 1) := by decide +kernel
theorem dL_isActed_294 : decode cL_isActed 294 = .ok (.if_icmp .ne 7, 3) := by decide +kernel
theorem dL_isActed_297 : decode cL_isActed 297 = .ok (.iconst 1, 1) := by decide +kernel
theorem dL_isActed_298 : decode cL_isActed 298 = .ok (.goto 4, 3) := by decide +kernel
theorem dL_isActed_301 : decode cL_isActed 301 = .ok (.iconst 0, 1) := by decide +kernel
theorem dL_isActed_302 : decode cL_isActed 302 = .ok (.ireturn, 1) := by decide +kernel
theorem dL_isActed_303 : decode cL_isActed 303 = .ok (.iload 6, 2) := by decide +kernel
theorem dL_isActed_305 : decode cL_isActed 305 = .ok (.bipush 12, 2) := by decide +kernel
theorem dL_isActed_307 : decode cL_isActed 307 = .ok (.if_icmp .ne 44, 3) := by decide +kernel
theorem dL_isActed_310 : decode cL_isActed 310 = .ok (.aload_n 3, 1) := by decide +kernel
theorem dL_isActed_311 : decode cL_isActed 311 = .ok (.bipush 8, 2) := by decide +kernel
theorem dL_isActed_313 : decode cL_isActed 313 = .ok (.dup2, 1) := by decide +kernel
theorem dL_isActed_314 : decode cL_isActed 314 = .ok (.iaload, 1) := by decide +kernel
theorem dL_isActed_315 : decode cL_isActed 315 = .ok (.iconst 1, 1) := by decide +kernel
theorem dL_isActed_316 : decode cL_isActed 316 = .ok (.iload 7, 2) := by decide +kernel
theorem dL_isActed_318 : decode cL_isActed 318 = .ok (.iconst 4, 1) := by decide +kernel
theorem dL_isActed_319 : decode cL_isActed 319 = .ok (.irem, 1) := by decide +kernel
theorem dL_isActed_320 : decode cL_isActed 320 = .ok (.ishl, 1) := by decide +kernel
theorem dL_isActed_321 : decode cL_isActed 321 = .ok (.ixor, 1) := by decide +kernel
theorem dL_isActed_322 : decode cL_isActed 322 = .ok (.iastore, 1) := by decide +kernel
theorem dL_isActed_323 : decode cL_isActed 323 = .ok (.aload_n 0, 1) := by decide +kernel
theorem dL_isActed_324 : decode cL_isActed 324 = .ok (.iload 7, 2) := by decide +kernel
theorem dL_isActed_326 : decode cL_isActed 326 = .ok (.iconst 4, 1) := by decide +kernel
theorem dL_isActed_327 : decode cL_isActed 327 = .ok (.irem, 1) := by decide +kernel
theorem dL_isActed_328 : decode cL_isActed 328 = .ok (.invokevirtual 84, 3) := by decide +kernel
theorem dL_isActed_331 : decode cL_isActed 331 = .ok (.aload_n 3, 1) := by decide +kernel
theorem dL_isActed_332 : decode cL_isActed 332 = .ok (.bipush 8, 2) := by decide +kernel
theorem dL_isActed_334 : decode cL_isActed 334 = .ok (.iaload, 1) := by decide +kernel
theorem dL_isActed_335 : decode cL_isActed 335 = .ok (.iload 7, 2) := by decide +kernel
theorem dL_isActed_337 : decode cL_isActed 337 = .ok (.iconst 4, 1) := by decide +kernel
theorem dL_isActed_338 : decode cL_isActed 338 = .ok (.irem, 1) := by decide +kernel
theorem dL_isActed_339 : decode cL_isActed 339 = .ok (.ishr, 1) := by decide +kernel
theorem dL_isActed_340 : decode cL_isActed 340 = .ok (.iconst 1, 1) := by decide +kernel
theorem dL_isActed_341 : decode cL_isActed 341 = .ok (.iand, 1) := by decide +kernel
theorem dL_isActed_342 : decode cL_isActed 342 = .ok (.if_icmp .ne 7, 3) := by decide +kernel
theorem dL_isActed_345 : decode cL_isActed 345 = .ok (.iconst 1, 1) := by decide +kernel
theorem dL_isActed_346 : decode cL_isActed 346 = .ok (.goto 4, 3) := by decide +kernel
theorem dL_isActed_349 : decode cL_isActed 349 = .ok (.iconst 0, 1) := by decide +kernel
theorem dL_isActed_350 : decode cL_isActed 350 = .ok (.ireturn, 1) := by decide +kernel
theorem dL_isActed_351 : decode cL_isActed 351 = .ok (.iload 6, 2) := by decide +kernel
theorem dL_isActed_353 : decode cL_isActed 353 = .ok (.bipush 13, 2) := by decide +kernel
theorem dL_isActed_355 : decode cL_isActed 355 = .ok (.if_icmp .ne 46, 3) := by decide +kernel
theorem dL_isActed_358 : decode cL_isActed 358 = .ok (.aload_n 3, 1) := by decide +kernel
theorem dL_isActed_359 : decode cL_isActed 359 = .ok (.iload 7, 2) := by decide +kernel
theorem dL_isActed_361 : decode cL_isActed 361 = .ok (.iconst 5, 1) := by decide +kernel
theorem dL_isActed_362 : decode cL_isActed 362 = .ok (.irem, 1) := by decide +kernel
theorem dL_isActed_363 : decode cL_isActed 363 = .ok (.iaload, 1) := by decide +kernel
theorem dL_isActed_364 : decode cL_isActed 364 = .ok (.istore 8, 2) := by decide +kernel
theorem dL_isActed_366 : decode cL_isActed 366 = .ok (.aload_n 3, 1) := by decide +kernel
theorem dL_isActed_367 : decode cL_isActed 367 = .ok (.iload 7, 2) := by decide +kernel
theorem dL_isActed_369 : decode cL_isActed 369 = .ok (.iconst 5, 1) := by decide +kernel
theorem dL_isActed_370 : decode cL_isActed 370 = .ok (.irem, 1) := by decide +kernel
theorem dL_isActed_371 : decode cL_isActed 371 = .ok (.iconst 0, 1) := by decide +kernel
theorem dL_isActed_372 : decode cL_isActed 372 = .ok (.iastore, 1) := by decide +kernel
theorem dL_isActed_373 : decode cL_isActed 373 = .ok (.aload_n 3, 1) := by decide +kernel
theorem dL_isActed_374 : decode cL_isActed 374 = .ok (.bipush 15, 2) := by decide +kernel
theorem dL_isActed_376 : decode cL_isActed 376 = .ok (.dup2, 1) := by decide +kernel
theorem dL_isActed_377 : decode cL_isActed 377 = .ok (.iaload, 1) := by decide +kernel
theorem dL_isActed_378 : decode cL_isActed 378 = .ok (.iload 8, 2) := by decide +kernel
theorem dL_isActed_380 : decode cL_isActed 380 = .ok (.iadd, 1) := by decide +kernel
theorem dL_isActed_381 : decode cL_isActed 381 = .ok (.iastore, 1) := by decide +kernel
theorem dL_isActed_382 : decode cL_isActed 382 = .ok (.aload_n 0, 1) := by decide +kernel
theorem dL_isActed_383 : decode cL_isActed 383 = .ok (.iload 7, 2) := by decide +kernel
theorem dL_isActed_385 : decode cL_isActed 385 = .ok (.iconst 5, 1) := by decide +kernel
theorem dL_isActed_386 : decode cL_isActed 386 = .ok (.irem, 1) := by decide +kernel
theorem dL_isActed_387 : decode cL_isActed 387 = .ok (.invokevirtual 87, 3) := by decide +kernel
theorem dL_isActed_390 : decode cL_isActed 390 = .ok (.iload 8, 2) := by decide +kernel
theorem dL_isActed_392 : decode cL_isActed 392 = .ok (.if_icmp .ne 7, 3) := by decide +kernel
theorem dL_isActed_395 : decode cL_isActed 395 = .ok (.iconst 1, 1) := by decide +kernel
theorem dL_isActed_396 : decode cL_isActed 396 = .ok (.goto 4, 3) := by decide +kernel
theorem dL_isActed_399 : decode cL_isActed 399 = .ok (.iconst 0, 1) := by decide +kernel
theorem dL_isActed_400 : decode cL_isActed 400 = .ok (.ireturn, 1) := by decide +kernel
theorem dL_isActed_401 : decode cL_isActed 401 = .ok (.iload 6, 2) := by decide +kernel
theorem dL_isActed_403 : decode cL_isActed 403 = .ok (.bipush 14, 2) := by decide +kernel
theorem dL_isActed_405 : decode cL_isActed 405 = .ok (.if_icmp .ne 17, 3) := by decide +kernel
theorem dL_isActed_408 : decode cL_isActed 408 = .ok (.aload_n 0, 1) := by decide +kernel
theorem dL_isActed_409 : decode cL_isActed 409 = .ok (.aload_n 3, 1) := by decide +kernel
theorem dL_isActed_410 : decode cL_isActed 410 = .ok (.iload 7, 2) := by decide +kernel
theorem dL_isActed_412 : decode cL_isActed 412 = .ok (.iconst 3, 1) := by decide +kernel
theorem dL_isActed_413 : decode cL_isActed 413 = .ok (.irem, 1) := by decide +kernel
theorem dL_isActed_414 : decode cL_isActed 414 = .ok (.iload 7, 2) := by decide +kernel
theorem dL_isActed_416 : decode cL_isActed 416 = .ok (.iconst 3, 1) := by decide +kernel
theorem dL_isActed_417 : decode cL_isActed 417 = .ok (.idiv, 1) := by decide +kernel
theorem dL_isActed_418 : decode cL_isActed 418 = .ok (.invokestatic 90, 3) := by decide +kernel
theorem dL_isActed_421 : decode cL_isActed 421 = .ok (.ireturn, 1) := by decide +kernel
theorem dL_isActed_422 : decode cL_isActed 422 = .ok (.iconst 1, 1) := by decide +kernel
theorem dL_isActed_423 : decode cL_isActed 423 = .ok (.iload 7, 2) := by decide +kernel
theorem dL_isActed_425 : decode cL_isActed 425 = .ok (.bipush 6, 2) := by decide +kernel
theorem dL_isActed_427 : decode cL_isActed 427 = .ok (.irem, 1) := by decide +kernel
theorem dL_isActed_428 : decode cL_isActed 428 = .ok (.iadd, 1) := by decide +kernel
theorem dL_isActed_429 : decode cL_isActed 429 = .ok (.istore 8, 2) := by decide +kernel
theorem dL_isActed_431 : decode cL_isActed 431 = .ok (.iconst 0, 1) := by decide +kernel
theorem dL_isActed_432 : decode cL_isActed 432 = .ok (.istore 9, 2) := by decide +kernel
theorem dL_isActed_434 : decode cL_isActed 434 = .ok (.iconst 0, 1) := by decide +kernel
theorem dL_isActed_435 : decode cL_isActed 435 = .ok (.istore 10, 2) := by decide +kernel
theorem dL_isActed_437 : decode cL_isActed 437 = .ok (.iload 10, 2) := by decide +kernel
theorem dL_isActed_439 : decode cL_isActed 439 = .ok (.iload 8, 2) := by decide +kernel
theorem dL_isActed_441 : decode cL_isActed 441 = .ok (.if_icmp .ge 24, 3) := by decide +kernel
theorem dL_isActed_444 : decode cL_isActed 444 = .ok (.iload 9, 2) := by decide +kernel
theorem dL_isActed_446 : decode cL_isActed 446 = .ok (.aload_n 1, 1) := by decide +kernel
theorem dL_isActed_447 : decode cL_isActed 447 = .ok (.aload_n 2, 1) := by decide +kernel
theorem dL_isActed_448 : decode cL_isActed 448 = .ok (.aload_n 3, 1) := by decide +kernel
theorem dL_isActed_449 : decode cL_isActed 449 = .ok (.aload 4, 2) := by decide +kernel
theorem dL_isActed_451 : decode cL_isActed 451 = .ok (.aload 5, 2) := by decide +kernel
theorem dL_isActed_453 : decode cL_isActed 453 = .ok (.invokestatic 70, 3) := by decide +kernel
theorem dL_isActed_456 : decode cL_isActed 456 = .ok (.iadd, 1) := by decide +kernel
theorem dL_isActed_457 : decode cL_isActed 457 = .ok (.istore 9, 2) := by decide +kernel
theorem dL_isActed_459 : decode cL_isActed 459 = .ok (.iinc 10 1, 3) := by decide +kernel
theorem dL_isActed_462 : decode cL_isActed 462 = .ok (.goto (-25), 3) := by decide +kernel
theorem dL_isActed_465 : decode cL_isActed 465 = .ok (.aload_n 0, 1) := by decide +kernel
theorem dL_isActed_466 : decode cL_isActed 466 = .ok (.iload 8, 2) := by decide +kernel
theorem dL_isActed_468 : decode cL_isActed 468 = .ok (.invokevirtual 74, 3) := by decide +kernel
theorem dL_isActed_471 : decode cL_isActed 471 = .ok (.iload 9, 2) := by decide +kernel
theorem dL_isActed_473 : decode cL_isActed 473 = .ok (.if_icmp .ne 7, 3) := by decide +kernel
theorem dL_isActed_476 : decode cL_isActed 476 = .ok (.iconst 1, 1) := by decide +kernel
theorem dL_isActed_477 : decode cL_isActed 477 = .ok (.goto 4, 3) := by decide +kernel
theorem dL_isActed_480 : decode cL_isActed 480 = .ok (.iconst 0, 1) := by decide +kernel
theorem dL_isActed_481 : decode cL_isActed 481 = .ok (.ireturn, 1) := by decide +kernel
set_option maxRecDepth 20000 in
theorem ggL_law_X7_init : GoodIn wsL_law wsX7_init := goodIn_r _ [7, 8, 9, 10, 11, 12, 13, 14, 15, 16, 17, 18, 19, 20, 21, 22, 23, 24, 25, 26, 27, 28, 29, 30, 31, 32, 33, 34, 35, 36, 37, 38, 39, 40, 3, 41, 42, 43, 44, 45, 46, 47, 48, 49, 50, 51, 52, 53, 54, 55, 56, 57, 58, 59, 60, 61, 62, 63, 64, 65, 66, 67, 68, 69, 70, 71, 72, 73, 74, 75, 76, 77, 78, 79, 80, 81, 82, 83, 84, 85, 86, 429, 430, 431, 432, 433, 434, 435, 436, 437, 438, 439, 423, 424, 425, 426, 427, 428, 440, 441, 442, 443, 444, 445, 446, 447, 448, 449, 450, 451, 452, 453, 454, 455, 456, 457, 458] (by decide +kernel) (by decide +kernel)
set_option maxRecDepth 20000 in
theorem gL_law_X7_init : GoodIn wsL_law (wsX7_init) := ggL_law_X7_init
set_option maxRecDepth 20000 in
theorem ggL_law_L_cell : GoodIn wsL_law wsL_cell := goodIn_r _ [90, 91] (by decide +kernel) (by decide +kernel)
set_option maxRecDepth 20000 in
theorem gL_law_L_cell : GoodIn wsL_law (va_wsS RL 95 yL_cell wsL_cell) := goodIn_app (goodIn_of _ (by decide +kernel)) ggL_law_L_cell
theorem inLr1 {x : Cond} (h : x ∈ wsL_law_r1) : x ∈ wsL_law := (List.mem_append_left _ (List.mem_append_left _ (List.mem_append_left _ (List.mem_append_left _ (List.mem_append_left _ (List.mem_append_left _ (List.mem_append_left _ (List.mem_append_left _ (List.mem_append_left _ h)))))))))
theorem inLr2 {x : Cond} (h : x ∈ wsL_law_r2) : x ∈ wsL_law := (List.mem_append_left _ (List.mem_append_left _ (List.mem_append_left _ (List.mem_append_left _ (List.mem_append_left _ (List.mem_append_left _ (List.mem_append_left _ (List.mem_append_left _ (List.mem_append_right _ (List.mem_append_left _ h))))))))))
theorem inLr3 {x : Cond} (h : x ∈ wsL_law_r3) : x ∈ wsL_law := (List.mem_append_left _ (List.mem_append_left _ (List.mem_append_left _ (List.mem_append_left _ (List.mem_append_left _ (List.mem_append_left _ (List.mem_append_left _ (List.mem_append_left _ (List.mem_append_right _ (List.mem_append_right _ (List.mem_append_left _ h)))))))))))
theorem inLr4 {x : Cond} (h : x ∈ wsL_law_r4) : x ∈ wsL_law := (List.mem_append_left _ (List.mem_append_left _ (List.mem_append_left _ (List.mem_append_left _ (List.mem_append_left _ (List.mem_append_left _ (List.mem_append_left _ (List.mem_append_left _ (List.mem_append_right _ (List.mem_append_right _ (List.mem_append_right _ (List.mem_append_left _ h))))))))))))
theorem inLr5 {x : Cond} (h : x ∈ wsL_law_r5) : x ∈ wsL_law := (List.mem_append_left _ (List.mem_append_left _ (List.mem_append_left _ (List.mem_append_left _ (List.mem_append_left _ (List.mem_append_left _ (List.mem_append_left _ (List.mem_append_left _ (List.mem_append_right _ (List.mem_append_right _ (List.mem_append_right _ (List.mem_append_right _ (List.mem_append_left _ h)))))))))))))
theorem inLr6 {x : Cond} (h : x ∈ wsL_law_r6) : x ∈ wsL_law := (List.mem_append_left _ (List.mem_append_left _ (List.mem_append_left _ (List.mem_append_left _ (List.mem_append_left _ (List.mem_append_left _ (List.mem_append_left _ (List.mem_append_left _ (List.mem_append_right _ (List.mem_append_right _ (List.mem_append_right _ (List.mem_append_right _ (List.mem_append_right _ (List.mem_append_left _ h))))))))))))))
theorem inLr7 {x : Cond} (h : x ∈ wsL_law_r7) : x ∈ wsL_law := (List.mem_append_left _ (List.mem_append_left _ (List.mem_append_left _ (List.mem_append_left _ (List.mem_append_left _ (List.mem_append_left _ (List.mem_append_left _ (List.mem_append_left _ (List.mem_append_right _ (List.mem_append_right _ (List.mem_append_right _ (List.mem_append_right _ (List.mem_append_right _ (List.mem_append_right _ (List.mem_append_left _ h)))))))))))))))
theorem inLr8 {x : Cond} (h : x ∈ wsL_law_r8) : x ∈ wsL_law := (List.mem_append_left _ (List.mem_append_left _ (List.mem_append_left _ (List.mem_append_left _ (List.mem_append_left _ (List.mem_append_left _ (List.mem_append_left _ (List.mem_append_left _ (List.mem_append_right _ (List.mem_append_right _ (List.mem_append_right _ (List.mem_append_right _ (List.mem_append_right _ (List.mem_append_right _ (List.mem_append_right _ (List.mem_append_left _ h))))))))))))))))
theorem inLr9 {x : Cond} (h : x ∈ wsL_law_r9) : x ∈ wsL_law := (List.mem_append_left _ (List.mem_append_left _ (List.mem_append_left _ (List.mem_append_left _ (List.mem_append_left _ (List.mem_append_left _ (List.mem_append_left _ (List.mem_append_left _ (List.mem_append_right _ (List.mem_append_right _ (List.mem_append_right _ (List.mem_append_right _ (List.mem_append_right _ (List.mem_append_right _ (List.mem_append_right _ (List.mem_append_right _ (List.mem_append_left _ h)))))))))))))))))
theorem inLr10 {x : Cond} (h : x ∈ wsL_law_r10) : x ∈ wsL_law := (List.mem_append_left _ (List.mem_append_left _ (List.mem_append_left _ (List.mem_append_left _ (List.mem_append_left _ (List.mem_append_left _ (List.mem_append_left _ (List.mem_append_left _ (List.mem_append_right _ (List.mem_append_right _ (List.mem_append_right _ (List.mem_append_right _ (List.mem_append_right _ (List.mem_append_right _ (List.mem_append_right _ (List.mem_append_right _ (List.mem_append_right _ (List.mem_append_left _ h))))))))))))))))))
theorem inLr11 {x : Cond} (h : x ∈ wsL_law_r11) : x ∈ wsL_law := (List.mem_append_left _ (List.mem_append_left _ (List.mem_append_left _ (List.mem_append_left _ (List.mem_append_left _ (List.mem_append_left _ (List.mem_append_left _ (List.mem_append_left _ (List.mem_append_right _ (List.mem_append_right _ (List.mem_append_right _ (List.mem_append_right _ (List.mem_append_right _ (List.mem_append_right _ (List.mem_append_right _ (List.mem_append_right _ (List.mem_append_right _ (List.mem_append_right _ (List.mem_append_left _ h)))))))))))))))))))
theorem inLr12 {x : Cond} (h : x ∈ wsL_law_r12) : x ∈ wsL_law := (List.mem_append_left _ (List.mem_append_left _ (List.mem_append_left _ (List.mem_append_left _ (List.mem_append_left _ (List.mem_append_left _ (List.mem_append_left _ (List.mem_append_left _ (List.mem_append_right _ (List.mem_append_right _ (List.mem_append_right _ (List.mem_append_right _ (List.mem_append_right _ (List.mem_append_right _ (List.mem_append_right _ (List.mem_append_right _ (List.mem_append_right _ (List.mem_append_right _ (List.mem_append_right _ (List.mem_append_left _ h))))))))))))))))))))
theorem inLr13 {x : Cond} (h : x ∈ wsL_law_r13) : x ∈ wsL_law := (List.mem_append_left _ (List.mem_append_left _ (List.mem_append_left _ (List.mem_append_left _ (List.mem_append_left _ (List.mem_append_left _ (List.mem_append_left _ (List.mem_append_left _ (List.mem_append_right _ (List.mem_append_right _ (List.mem_append_right _ (List.mem_append_right _ (List.mem_append_right _ (List.mem_append_right _ (List.mem_append_right _ (List.mem_append_right _ (List.mem_append_right _ (List.mem_append_right _ (List.mem_append_right _ (List.mem_append_right _ (List.mem_append_left _ h)))))))))))))))))))))
theorem inLr14 {x : Cond} (h : x ∈ wsL_law_r14) : x ∈ wsL_law := (List.mem_append_left _ (List.mem_append_left _ (List.mem_append_left _ (List.mem_append_left _ (List.mem_append_left _ (List.mem_append_left _ (List.mem_append_left _ (List.mem_append_left _ (List.mem_append_right _ (List.mem_append_right _ (List.mem_append_right _ (List.mem_append_right _ (List.mem_append_right _ (List.mem_append_right _ (List.mem_append_right _ (List.mem_append_right _ (List.mem_append_right _ (List.mem_append_right _ (List.mem_append_right _ (List.mem_append_right _ (List.mem_append_right _ (List.mem_append_left _ h))))))))))))))))))))))
theorem inLr15 {x : Cond} (h : x ∈ wsL_law_r15) : x ∈ wsL_law := (List.mem_append_left _ (List.mem_append_left _ (List.mem_append_left _ (List.mem_append_left _ (List.mem_append_left _ (List.mem_append_left _ (List.mem_append_left _ (List.mem_append_left _ (List.mem_append_right _ (List.mem_append_right _ (List.mem_append_right _ (List.mem_append_right _ (List.mem_append_right _ (List.mem_append_right _ (List.mem_append_right _ (List.mem_append_right _ (List.mem_append_right _ (List.mem_append_right _ (List.mem_append_right _ (List.mem_append_right _ (List.mem_append_right _ (List.mem_append_right _ (List.mem_append_left _ h)))))))))))))))))))))))
theorem inLr16 {x : Cond} (h : x ∈ wsL_law_r16) : x ∈ wsL_law := (List.mem_append_left _ (List.mem_append_left _ (List.mem_append_left _ (List.mem_append_left _ (List.mem_append_left _ (List.mem_append_left _ (List.mem_append_left _ (List.mem_append_left _ (List.mem_append_right _ (List.mem_append_right _ (List.mem_append_right _ (List.mem_append_right _ (List.mem_append_right _ (List.mem_append_right _ (List.mem_append_right _ (List.mem_append_right _ (List.mem_append_right _ (List.mem_append_right _ (List.mem_append_right _ (List.mem_append_right _ (List.mem_append_right _ (List.mem_append_right _ (List.mem_append_right _ (List.mem_append_left _ h))))))))))))))))))))))))
theorem inLr17 {x : Cond} (h : x ∈ wsL_law_r17) : x ∈ wsL_law := (List.mem_append_left _ (List.mem_append_left _ (List.mem_append_left _ (List.mem_append_left _ (List.mem_append_left _ (List.mem_append_left _ (List.mem_append_left _ (List.mem_append_left _ (List.mem_append_right _ (List.mem_append_right _ (List.mem_append_right _ (List.mem_append_right _ (List.mem_append_right _ (List.mem_append_right _ (List.mem_append_right _ (List.mem_append_right _ (List.mem_append_right _ (List.mem_append_right _ (List.mem_append_right _ (List.mem_append_right _ (List.mem_append_right _ (List.mem_append_right _ (List.mem_append_right _ (List.mem_append_right _ (List.mem_append_left _ h)))))))))))))))))))))))))
theorem inLr18 {x : Cond} (h : x ∈ wsL_law_r18) : x ∈ wsL_law := (List.mem_append_left _ (List.mem_append_left _ (List.mem_append_left _ (List.mem_append_left _ (List.mem_append_left _ (List.mem_append_left _ (List.mem_append_left _ (List.mem_append_left _ (List.mem_append_right _ (List.mem_append_right _ (List.mem_append_right _ (List.mem_append_right _ (List.mem_append_right _ (List.mem_append_right _ (List.mem_append_right _ (List.mem_append_right _ (List.mem_append_right _ (List.mem_append_right _ (List.mem_append_right _ (List.mem_append_right _ (List.mem_append_right _ (List.mem_append_right _ (List.mem_append_right _ (List.mem_append_right _ (List.mem_append_right _ h)))))))))))))))))))))))))
theorem wiL_isActed_1 : ∀ w ∈ wsL_isActed_r1, w ∈ wsL_law := List.forall_mem_cons.mpr ⟨(inLr4 (List.mem_of_getElem? (l := wsL_law_r4) (i := 23) rfl)), List.forall_mem_cons.mpr ⟨(inLr5 (List.mem_of_getElem? (l := wsL_law_r5) (i := 0) rfl)), List.forall_mem_cons.mpr ⟨(inLr4 (List.mem_of_getElem? (l := wsL_law_r4) (i := 17) rfl)), List.forall_mem_cons.mpr ⟨(inLr5 (List.mem_of_getElem? (l := wsL_law_r5) (i := 1) rfl)), List.forall_mem_cons.mpr ⟨(inLr5 (List.mem_of_getElem? (l := wsL_law_r5) (i := 2) rfl)), List.forall_mem_cons.mpr ⟨(inLr5 (List.mem_of_getElem? (l := wsL_law_r5) (i := 3) rfl)), List.forall_mem_cons.mpr ⟨(inLr5 (List.mem_of_getElem? (l := wsL_law_r5) (i := 4) rfl)), List.forall_mem_cons.mpr ⟨(inLr1 (List.mem_of_getElem? (l := wsL_law_r1) (i := 2) rfl)), List.forall_mem_cons.mpr ⟨(inLr5 (List.mem_of_getElem? (l := wsL_law_r5) (i := 5) rfl)), List.forall_mem_cons.mpr ⟨(inLr1 (List.mem_of_getElem? (l := wsL_law_r1) (i := 14) rfl)), List.forall_mem_cons.mpr ⟨(inLr5 (List.mem_of_getElem? (l := wsL_law_r5) (i := 6) rfl)), List.forall_mem_cons.mpr ⟨(inLr5 (List.mem_of_getElem? (l := wsL_law_r5) (i := 7) rfl)), List.forall_mem_cons.mpr ⟨(inLr1 (List.mem_of_getElem? (l := wsL_law_r1) (i := 20) rfl)), List.forall_mem_cons.mpr ⟨(inLr5 (List.mem_of_getElem? (l := wsL_law_r5) (i := 8) rfl)), List.forall_mem_cons.mpr ⟨(inLr5 (List.mem_of_getElem? (l := wsL_law_r5) (i := 9) rfl)), List.forall_mem_cons.mpr ⟨(inLr5 (List.mem_of_getElem? (l := wsL_law_r5) (i := 10) rfl)), List.forall_mem_cons.mpr ⟨(inLr5 (List.mem_of_getElem? (l := wsL_law_r5) (i := 11) rfl)), List.forall_mem_cons.mpr ⟨(inLr5 (List.mem_of_getElem? (l := wsL_law_r5) (i := 12) rfl)), List.forall_mem_cons.mpr ⟨(inLr5 (List.mem_of_getElem? (l := wsL_law_r5) (i := 13) rfl)), List.forall_mem_cons.mpr ⟨(inLr5 (List.mem_of_getElem? (l := wsL_law_r5) (i := 14) rfl)), List.forall_mem_cons.mpr ⟨(inLr1 (List.mem_of_getElem? (l := wsL_law_r1) (i := 19) rfl)), List.forall_mem_cons.mpr ⟨(inLr5 (List.mem_of_getElem? (l := wsL_law_r5) (i := 15) rfl)), List.forall_mem_cons.mpr ⟨(inLr4 (List.mem_of_getElem? (l := wsL_law_r4) (i := 3) rfl)), List.forall_mem_cons.mpr ⟨(inLr4 (List.mem_of_getElem? (l := wsL_law_r4) (i := 2) rfl)), fun _ h => absurd h List.not_mem_nil⟩⟩⟩⟩⟩⟩⟩⟩⟩⟩⟩⟩⟩⟩⟩⟩⟩⟩⟩⟩⟩⟩⟩⟩
theorem wiL_isActed_2 : ∀ w ∈ wsL_isActed_r2, w ∈ wsL_law := List.forall_mem_cons.mpr ⟨(inLr4 (List.mem_of_getElem? (l := wsL_law_r4) (i := 1) rfl)), List.forall_mem_cons.mpr ⟨(inLr5 (List.mem_of_getElem? (l := wsL_law_r5) (i := 16) rfl)), List.forall_mem_cons.mpr ⟨(inLr5 (List.mem_of_getElem? (l := wsL_law_r5) (i := 17) rfl)), List.forall_mem_cons.mpr ⟨(inLr5 (List.mem_of_getElem? (l := wsL_law_r5) (i := 18) rfl)), List.forall_mem_cons.mpr ⟨(inLr1 (List.mem_of_getElem? (l := wsL_law_r1) (i := 13) rfl)), List.forall_mem_cons.mpr ⟨(inLr5 (List.mem_of_getElem? (l := wsL_law_r5) (i := 19) rfl)), List.forall_mem_cons.mpr ⟨(inLr2 (List.mem_of_getElem? (l := wsL_law_r2) (i := 8) rfl)), List.forall_mem_cons.mpr ⟨(inLr2 (List.mem_of_getElem? (l := wsL_law_r2) (i := 12) rfl)), List.forall_mem_cons.mpr ⟨(inLr2 (List.mem_of_getElem? (l := wsL_law_r2) (i := 16) rfl)), List.forall_mem_cons.mpr ⟨(inLr2 (List.mem_of_getElem? (l := wsL_law_r2) (i := 17) rfl)), List.forall_mem_cons.mpr ⟨(inLr5 (List.mem_of_getElem? (l := wsL_law_r5) (i := 20) rfl)), List.forall_mem_cons.mpr ⟨(inLr5 (List.mem_of_getElem? (l := wsL_law_r5) (i := 21) rfl)), List.forall_mem_cons.mpr ⟨(inLr5 (List.mem_of_getElem? (l := wsL_law_r5) (i := 22) rfl)), List.forall_mem_cons.mpr ⟨(inLr5 (List.mem_of_getElem? (l := wsL_law_r5) (i := 23) rfl)), List.forall_mem_cons.mpr ⟨(inLr2 (List.mem_of_getElem? (l := wsL_law_r2) (i := 19) rfl)), List.forall_mem_cons.mpr ⟨(inLr2 (List.mem_of_getElem? (l := wsL_law_r2) (i := 20) rfl)), List.forall_mem_cons.mpr ⟨(inLr2 (List.mem_of_getElem? (l := wsL_law_r2) (i := 21) rfl)), List.forall_mem_cons.mpr ⟨(inLr2 (List.mem_of_getElem? (l := wsL_law_r2) (i := 22) rfl)), List.forall_mem_cons.mpr ⟨(inLr2 (List.mem_of_getElem? (l := wsL_law_r2) (i := 23) rfl)), List.forall_mem_cons.mpr ⟨(inLr3 (List.mem_of_getElem? (l := wsL_law_r3) (i := 0) rfl)), List.forall_mem_cons.mpr ⟨(inLr3 (List.mem_of_getElem? (l := wsL_law_r3) (i := 1) rfl)), List.forall_mem_cons.mpr ⟨(inLr6 (List.mem_of_getElem? (l := wsL_law_r6) (i := 0) rfl)), List.forall_mem_cons.mpr ⟨(inLr6 (List.mem_of_getElem? (l := wsL_law_r6) (i := 1) rfl)), List.forall_mem_cons.mpr ⟨(inLr6 (List.mem_of_getElem? (l := wsL_law_r6) (i := 2) rfl)), fun _ h => absurd h List.not_mem_nil⟩⟩⟩⟩⟩⟩⟩⟩⟩⟩⟩⟩⟩⟩⟩⟩⟩⟩⟩⟩⟩⟩⟩⟩
theorem wiL_isActed_3 : ∀ w ∈ wsL_isActed_r3, w ∈ wsL_law := List.forall_mem_cons.mpr ⟨(inLr2 (List.mem_of_getElem? (l := wsL_law_r2) (i := 7) rfl)), List.forall_mem_cons.mpr ⟨(inLr6 (List.mem_of_getElem? (l := wsL_law_r6) (i := 3) rfl)), List.forall_mem_cons.mpr ⟨(inLr3 (List.mem_of_getElem? (l := wsL_law_r3) (i := 5) rfl)), List.forall_mem_cons.mpr ⟨(inLr6 (List.mem_of_getElem? (l := wsL_law_r6) (i := 4) rfl)), List.forall_mem_cons.mpr ⟨(inLr3 (List.mem_of_getElem? (l := wsL_law_r3) (i := 6) rfl)), List.forall_mem_cons.mpr ⟨(inLr3 (List.mem_of_getElem? (l := wsL_law_r3) (i := 7) rfl)), List.forall_mem_cons.mpr ⟨(inLr6 (List.mem_of_getElem? (l := wsL_law_r6) (i := 5) rfl)), List.forall_mem_cons.mpr ⟨(inLr6 (List.mem_of_getElem? (l := wsL_law_r6) (i := 6) rfl)), List.forall_mem_cons.mpr ⟨(inLr6 (List.mem_of_getElem? (l := wsL_law_r6) (i := 7) rfl)), List.forall_mem_cons.mpr ⟨(inLr2 (List.mem_of_getElem? (l := wsL_law_r2) (i := 11) rfl)), List.forall_mem_cons.mpr ⟨(inLr6 (List.mem_of_getElem? (l := wsL_law_r6) (i := 8) rfl)), List.forall_mem_cons.mpr ⟨(inLr3 (List.mem_of_getElem? (l := wsL_law_r3) (i := 12) rfl)), List.forall_mem_cons.mpr ⟨(inLr6 (List.mem_of_getElem? (l := wsL_law_r6) (i := 9) rfl)), List.forall_mem_cons.mpr ⟨(inLr3 (List.mem_of_getElem? (l := wsL_law_r3) (i := 13) rfl)), List.forall_mem_cons.mpr ⟨(inLr3 (List.mem_of_getElem? (l := wsL_law_r3) (i := 14) rfl)), List.forall_mem_cons.mpr ⟨(inLr6 (List.mem_of_getElem? (l := wsL_law_r6) (i := 10) rfl)), List.forall_mem_cons.mpr ⟨(inLr6 (List.mem_of_getElem? (l := wsL_law_r6) (i := 11) rfl)), List.forall_mem_cons.mpr ⟨(inLr6 (List.mem_of_getElem? (l := wsL_law_r6) (i := 12) rfl)), List.forall_mem_cons.mpr ⟨(inLr2 (List.mem_of_getElem? (l := wsL_law_r2) (i := 15) rfl)), List.forall_mem_cons.mpr ⟨(inLr6 (List.mem_of_getElem? (l := wsL_law_r6) (i := 13) rfl)), List.forall_mem_cons.mpr ⟨(inLr3 (List.mem_of_getElem? (l := wsL_law_r3) (i := 18) rfl)), List.forall_mem_cons.mpr ⟨(inLr6 (List.mem_of_getElem? (l := wsL_law_r6) (i := 14) rfl)), List.forall_mem_cons.mpr ⟨(inLr3 (List.mem_of_getElem? (l := wsL_law_r3) (i := 19) rfl)), List.forall_mem_cons.mpr ⟨(inLr6 (List.mem_of_getElem? (l := wsL_law_r6) (i := 15) rfl)), fun _ h => absurd h List.not_mem_nil⟩⟩⟩⟩⟩⟩⟩⟩⟩⟩⟩⟩⟩⟩⟩⟩⟩⟩⟩⟩⟩⟩⟩⟩
theorem wiL_isActed_4 : ∀ w ∈ wsL_isActed_r4, w ∈ wsL_law := List.forall_mem_cons.mpr ⟨(inLr6 (List.mem_of_getElem? (l := wsL_law_r6) (i := 16) rfl)), List.forall_mem_cons.mpr ⟨(inLr6 (List.mem_of_getElem? (l := wsL_law_r6) (i := 17) rfl)), List.forall_mem_cons.mpr ⟨(inLr6 (List.mem_of_getElem? (l := wsL_law_r6) (i := 18) rfl)), List.forall_mem_cons.mpr ⟨(inLr6 (List.mem_of_getElem? (l := wsL_law_r6) (i := 19) rfl)), List.forall_mem_cons.mpr ⟨(inLr6 (List.mem_of_getElem? (l := wsL_law_r6) (i := 20) rfl)), List.forall_mem_cons.mpr ⟨(inLr6 (List.mem_of_getElem? (l := wsL_law_r6) (i := 21) rfl)), List.forall_mem_cons.mpr ⟨(inLr6 (List.mem_of_getElem? (l := wsL_law_r6) (i := 22) rfl)), List.forall_mem_cons.mpr ⟨(inLr6 (List.mem_of_getElem? (l := wsL_law_r6) (i := 23) rfl)), List.forall_mem_cons.mpr ⟨(inLr7 (List.mem_of_getElem? (l := wsL_law_r7) (i := 0) rfl)), List.forall_mem_cons.mpr ⟨(inLr7 (List.mem_of_getElem? (l := wsL_law_r7) (i := 1) rfl)), List.forall_mem_cons.mpr ⟨(inLr7 (List.mem_of_getElem? (l := wsL_law_r7) (i := 2) rfl)), List.forall_mem_cons.mpr ⟨(inLr7 (List.mem_of_getElem? (l := wsL_law_r7) (i := 3) rfl)), List.forall_mem_cons.mpr ⟨(inLr7 (List.mem_of_getElem? (l := wsL_law_r7) (i := 4) rfl)), List.forall_mem_cons.mpr ⟨(inLr7 (List.mem_of_getElem? (l := wsL_law_r7) (i := 5) rfl)), List.forall_mem_cons.mpr ⟨(inLr7 (List.mem_of_getElem? (l := wsL_law_r7) (i := 6) rfl)), List.forall_mem_cons.mpr ⟨(inLr7 (List.mem_of_getElem? (l := wsL_law_r7) (i := 7) rfl)), List.forall_mem_cons.mpr ⟨(inLr7 (List.mem_of_getElem? (l := wsL_law_r7) (i := 8) rfl)), List.forall_mem_cons.mpr ⟨(inLr7 (List.mem_of_getElem? (l := wsL_law_r7) (i := 9) rfl)), List.forall_mem_cons.mpr ⟨(inLr7 (List.mem_of_getElem? (l := wsL_law_r7) (i := 10) rfl)), List.forall_mem_cons.mpr ⟨(inLr7 (List.mem_of_getElem? (l := wsL_law_r7) (i := 11) rfl)), List.forall_mem_cons.mpr ⟨(inLr7 (List.mem_of_getElem? (l := wsL_law_r7) (i := 12) rfl)), List.forall_mem_cons.mpr ⟨(inLr7 (List.mem_of_getElem? (l := wsL_law_r7) (i := 13) rfl)), List.forall_mem_cons.mpr ⟨(inLr7 (List.mem_of_getElem? (l := wsL_law_r7) (i := 14) rfl)), List.forall_mem_cons.mpr ⟨(inLr7 (List.mem_of_getElem? (l := wsL_law_r7) (i := 15) rfl)), fun _ h => absurd h List.not_mem_nil⟩⟩⟩⟩⟩⟩⟩⟩⟩⟩⟩⟩⟩⟩⟩⟩⟩⟩⟩⟩⟩⟩⟩⟩
theorem wiL_isActed_5 : ∀ w ∈ wsL_isActed_r5, w ∈ wsL_law := List.forall_mem_cons.mpr ⟨(inLr7 (List.mem_of_getElem? (l := wsL_law_r7) (i := 16) rfl)), List.forall_mem_cons.mpr ⟨(inLr7 (List.mem_of_getElem? (l := wsL_law_r7) (i := 17) rfl)), List.forall_mem_cons.mpr ⟨(inLr7 (List.mem_of_getElem? (l := wsL_law_r7) (i := 18) rfl)), List.forall_mem_cons.mpr ⟨(inLr7 (List.mem_of_getElem? (l := wsL_law_r7) (i := 19) rfl)), List.forall_mem_cons.mpr ⟨(inLr7 (List.mem_of_getElem? (l := wsL_law_r7) (i := 20) rfl)), List.forall_mem_cons.mpr ⟨(inLr7 (List.mem_of_getElem? (l := wsL_law_r7) (i := 21) rfl)), List.forall_mem_cons.mpr ⟨(inLr7 (List.mem_of_getElem? (l := wsL_law_r7) (i := 22) rfl)), List.forall_mem_cons.mpr ⟨(inLr7 (List.mem_of_getElem? (l := wsL_law_r7) (i := 23) rfl)), List.forall_mem_cons.mpr ⟨(inLr8 (List.mem_of_getElem? (l := wsL_law_r8) (i := 0) rfl)), List.forall_mem_cons.mpr ⟨(inLr8 (List.mem_of_getElem? (l := wsL_law_r8) (i := 1) rfl)), List.forall_mem_cons.mpr ⟨(inLr8 (List.mem_of_getElem? (l := wsL_law_r8) (i := 2) rfl)), List.forall_mem_cons.mpr ⟨(inLr8 (List.mem_of_getElem? (l := wsL_law_r8) (i := 3) rfl)), List.forall_mem_cons.mpr ⟨(inLr8 (List.mem_of_getElem? (l := wsL_law_r8) (i := 4) rfl)), List.forall_mem_cons.mpr ⟨(inLr8 (List.mem_of_getElem? (l := wsL_law_r8) (i := 5) rfl)), List.forall_mem_cons.mpr ⟨(inLr8 (List.mem_of_getElem? (l := wsL_law_r8) (i := 6) rfl)), List.forall_mem_cons.mpr ⟨(inLr8 (List.mem_of_getElem? (l := wsL_law_r8) (i := 7) rfl)), List.forall_mem_cons.mpr ⟨(inLr8 (List.mem_of_getElem? (l := wsL_law_r8) (i := 8) rfl)), List.forall_mem_cons.mpr ⟨(inLr8 (List.mem_of_getElem? (l := wsL_law_r8) (i := 9) rfl)), List.forall_mem_cons.mpr ⟨(inLr8 (List.mem_of_getElem? (l := wsL_law_r8) (i := 10) rfl)), List.forall_mem_cons.mpr ⟨(inLr8 (List.mem_of_getElem? (l := wsL_law_r8) (i := 11) rfl)), List.forall_mem_cons.mpr ⟨(inLr8 (List.mem_of_getElem? (l := wsL_law_r8) (i := 12) rfl)), List.forall_mem_cons.mpr ⟨(inLr8 (List.mem_of_getElem? (l := wsL_law_r8) (i := 13) rfl)), List.forall_mem_cons.mpr ⟨(inLr8 (List.mem_of_getElem? (l := wsL_law_r8) (i := 14) rfl)), List.forall_mem_cons.mpr ⟨(inLr8 (List.mem_of_getElem? (l := wsL_law_r8) (i := 15) rfl)), fun _ h => absurd h List.not_mem_nil⟩⟩⟩⟩⟩⟩⟩⟩⟩⟩⟩⟩⟩⟩⟩⟩⟩⟩⟩⟩⟩⟩⟩⟩
theorem wiL_isActed_6 : ∀ w ∈ wsL_isActed_r6, w ∈ wsL_law := List.forall_mem_cons.mpr ⟨(inLr8 (List.mem_of_getElem? (l := wsL_law_r8) (i := 16) rfl)), List.forall_mem_cons.mpr ⟨(inLr8 (List.mem_of_getElem? (l := wsL_law_r8) (i := 17) rfl)), List.forall_mem_cons.mpr ⟨(inLr8 (List.mem_of_getElem? (l := wsL_law_r8) (i := 18) rfl)), List.forall_mem_cons.mpr ⟨(inLr8 (List.mem_of_getElem? (l := wsL_law_r8) (i := 19) rfl)), List.forall_mem_cons.mpr ⟨(inLr8 (List.mem_of_getElem? (l := wsL_law_r8) (i := 20) rfl)), List.forall_mem_cons.mpr ⟨(inLr8 (List.mem_of_getElem? (l := wsL_law_r8) (i := 21) rfl)), List.forall_mem_cons.mpr ⟨(inLr8 (List.mem_of_getElem? (l := wsL_law_r8) (i := 22) rfl)), List.forall_mem_cons.mpr ⟨(inLr8 (List.mem_of_getElem? (l := wsL_law_r8) (i := 23) rfl)), List.forall_mem_cons.mpr ⟨(inLr9 (List.mem_of_getElem? (l := wsL_law_r9) (i := 0) rfl)), List.forall_mem_cons.mpr ⟨(inLr9 (List.mem_of_getElem? (l := wsL_law_r9) (i := 1) rfl)), List.forall_mem_cons.mpr ⟨(inLr9 (List.mem_of_getElem? (l := wsL_law_r9) (i := 2) rfl)), List.forall_mem_cons.mpr ⟨(inLr9 (List.mem_of_getElem? (l := wsL_law_r9) (i := 3) rfl)), List.forall_mem_cons.mpr ⟨(inLr9 (List.mem_of_getElem? (l := wsL_law_r9) (i := 4) rfl)), List.forall_mem_cons.mpr ⟨(inLr9 (List.mem_of_getElem? (l := wsL_law_r9) (i := 5) rfl)), List.forall_mem_cons.mpr ⟨(inLr9 (List.mem_of_getElem? (l := wsL_law_r9) (i := 6) rfl)), List.forall_mem_cons.mpr ⟨(inLr9 (List.mem_of_getElem? (l := wsL_law_r9) (i := 7) rfl)), List.forall_mem_cons.mpr ⟨(inLr9 (List.mem_of_getElem? (l := wsL_law_r9) (i := 8) rfl)), List.forall_mem_cons.mpr ⟨(inLr9 (List.mem_of_getElem? (l := wsL_law_r9) (i := 9) rfl)), List.forall_mem_cons.mpr ⟨(inLr9 (List.mem_of_getElem? (l := wsL_law_r9) (i := 10) rfl)), List.forall_mem_cons.mpr ⟨(inLr9 (List.mem_of_getElem? (l := wsL_law_r9) (i := 11) rfl)), List.forall_mem_cons.mpr ⟨(inLr9 (List.mem_of_getElem? (l := wsL_law_r9) (i := 12) rfl)), List.forall_mem_cons.mpr ⟨(inLr9 (List.mem_of_getElem? (l := wsL_law_r9) (i := 13) rfl)), List.forall_mem_cons.mpr ⟨(inLr9 (List.mem_of_getElem? (l := wsL_law_r9) (i := 14) rfl)), List.forall_mem_cons.mpr ⟨(inLr9 (List.mem_of_getElem? (l := wsL_law_r9) (i := 15) rfl)), fun _ h => absurd h List.not_mem_nil⟩⟩⟩⟩⟩⟩⟩⟩⟩⟩⟩⟩⟩⟩⟩⟩⟩⟩⟩⟩⟩⟩⟩⟩
theorem wiL_isActed_7 : ∀ w ∈ wsL_isActed_r7, w ∈ wsL_law := List.forall_mem_cons.mpr ⟨(inLr9 (List.mem_of_getElem? (l := wsL_law_r9) (i := 16) rfl)), List.forall_mem_cons.mpr ⟨(inLr9 (List.mem_of_getElem? (l := wsL_law_r9) (i := 17) rfl)), List.forall_mem_cons.mpr ⟨(inLr9 (List.mem_of_getElem? (l := wsL_law_r9) (i := 18) rfl)), List.forall_mem_cons.mpr ⟨(inLr9 (List.mem_of_getElem? (l := wsL_law_r9) (i := 19) rfl)), List.forall_mem_cons.mpr ⟨(inLr9 (List.mem_of_getElem? (l := wsL_law_r9) (i := 20) rfl)), List.forall_mem_cons.mpr ⟨(inLr9 (List.mem_of_getElem? (l := wsL_law_r9) (i := 21) rfl)), List.forall_mem_cons.mpr ⟨(inLr9 (List.mem_of_getElem? (l := wsL_law_r9) (i := 22) rfl)), List.forall_mem_cons.mpr ⟨(inLr9 (List.mem_of_getElem? (l := wsL_law_r9) (i := 23) rfl)), List.forall_mem_cons.mpr ⟨(inLr10 (List.mem_of_getElem? (l := wsL_law_r10) (i := 0) rfl)), List.forall_mem_cons.mpr ⟨(inLr10 (List.mem_of_getElem? (l := wsL_law_r10) (i := 1) rfl)), List.forall_mem_cons.mpr ⟨(inLr10 (List.mem_of_getElem? (l := wsL_law_r10) (i := 2) rfl)), List.forall_mem_cons.mpr ⟨(inLr10 (List.mem_of_getElem? (l := wsL_law_r10) (i := 3) rfl)), List.forall_mem_cons.mpr ⟨(inLr10 (List.mem_of_getElem? (l := wsL_law_r10) (i := 4) rfl)), List.forall_mem_cons.mpr ⟨(inLr10 (List.mem_of_getElem? (l := wsL_law_r10) (i := 5) rfl)), List.forall_mem_cons.mpr ⟨(inLr10 (List.mem_of_getElem? (l := wsL_law_r10) (i := 6) rfl)), List.forall_mem_cons.mpr ⟨(inLr10 (List.mem_of_getElem? (l := wsL_law_r10) (i := 7) rfl)), List.forall_mem_cons.mpr ⟨(inLr10 (List.mem_of_getElem? (l := wsL_law_r10) (i := 8) rfl)), List.forall_mem_cons.mpr ⟨(inLr10 (List.mem_of_getElem? (l := wsL_law_r10) (i := 9) rfl)), List.forall_mem_cons.mpr ⟨(inLr10 (List.mem_of_getElem? (l := wsL_law_r10) (i := 10) rfl)), List.forall_mem_cons.mpr ⟨(inLr10 (List.mem_of_getElem? (l := wsL_law_r10) (i := 11) rfl)), List.forall_mem_cons.mpr ⟨(inLr10 (List.mem_of_getElem? (l := wsL_law_r10) (i := 12) rfl)), List.forall_mem_cons.mpr ⟨(inLr10 (List.mem_of_getElem? (l := wsL_law_r10) (i := 13) rfl)), List.forall_mem_cons.mpr ⟨(inLr10 (List.mem_of_getElem? (l := wsL_law_r10) (i := 14) rfl)), List.forall_mem_cons.mpr ⟨(inLr10 (List.mem_of_getElem? (l := wsL_law_r10) (i := 15) rfl)), fun _ h => absurd h List.not_mem_nil⟩⟩⟩⟩⟩⟩⟩⟩⟩⟩⟩⟩⟩⟩⟩⟩⟩⟩⟩⟩⟩⟩⟩⟩
theorem wiL_isActed_8 : ∀ w ∈ wsL_isActed_r8, w ∈ wsL_law := List.forall_mem_cons.mpr ⟨(inLr10 (List.mem_of_getElem? (l := wsL_law_r10) (i := 16) rfl)), List.forall_mem_cons.mpr ⟨(inLr10 (List.mem_of_getElem? (l := wsL_law_r10) (i := 17) rfl)), List.forall_mem_cons.mpr ⟨(inLr10 (List.mem_of_getElem? (l := wsL_law_r10) (i := 18) rfl)), List.forall_mem_cons.mpr ⟨(inLr10 (List.mem_of_getElem? (l := wsL_law_r10) (i := 19) rfl)), List.forall_mem_cons.mpr ⟨(inLr10 (List.mem_of_getElem? (l := wsL_law_r10) (i := 20) rfl)), List.forall_mem_cons.mpr ⟨(inLr10 (List.mem_of_getElem? (l := wsL_law_r10) (i := 21) rfl)), List.forall_mem_cons.mpr ⟨(inLr10 (List.mem_of_getElem? (l := wsL_law_r10) (i := 22) rfl)), List.forall_mem_cons.mpr ⟨(inLr10 (List.mem_of_getElem? (l := wsL_law_r10) (i := 23) rfl)), List.forall_mem_cons.mpr ⟨(inLr11 (List.mem_of_getElem? (l := wsL_law_r11) (i := 0) rfl)), List.forall_mem_cons.mpr ⟨(inLr11 (List.mem_of_getElem? (l := wsL_law_r11) (i := 1) rfl)), List.forall_mem_cons.mpr ⟨(inLr11 (List.mem_of_getElem? (l := wsL_law_r11) (i := 2) rfl)), List.forall_mem_cons.mpr ⟨(inLr11 (List.mem_of_getElem? (l := wsL_law_r11) (i := 3) rfl)), List.forall_mem_cons.mpr ⟨(inLr11 (List.mem_of_getElem? (l := wsL_law_r11) (i := 4) rfl)), List.forall_mem_cons.mpr ⟨(inLr11 (List.mem_of_getElem? (l := wsL_law_r11) (i := 5) rfl)), List.forall_mem_cons.mpr ⟨(inLr11 (List.mem_of_getElem? (l := wsL_law_r11) (i := 6) rfl)), List.forall_mem_cons.mpr ⟨(inLr11 (List.mem_of_getElem? (l := wsL_law_r11) (i := 7) rfl)), List.forall_mem_cons.mpr ⟨(inLr11 (List.mem_of_getElem? (l := wsL_law_r11) (i := 8) rfl)), List.forall_mem_cons.mpr ⟨(inLr11 (List.mem_of_getElem? (l := wsL_law_r11) (i := 9) rfl)), List.forall_mem_cons.mpr ⟨(inLr11 (List.mem_of_getElem? (l := wsL_law_r11) (i := 10) rfl)), List.forall_mem_cons.mpr ⟨(inLr11 (List.mem_of_getElem? (l := wsL_law_r11) (i := 11) rfl)), List.forall_mem_cons.mpr ⟨(inLr11 (List.mem_of_getElem? (l := wsL_law_r11) (i := 12) rfl)), List.forall_mem_cons.mpr ⟨(inLr11 (List.mem_of_getElem? (l := wsL_law_r11) (i := 13) rfl)), List.forall_mem_cons.mpr ⟨(inLr11 (List.mem_of_getElem? (l := wsL_law_r11) (i := 14) rfl)), List.forall_mem_cons.mpr ⟨(inLr11 (List.mem_of_getElem? (l := wsL_law_r11) (i := 15) rfl)), fun _ h => absurd h List.not_mem_nil⟩⟩⟩⟩⟩⟩⟩⟩⟩⟩⟩⟩⟩⟩⟩⟩⟩⟩⟩⟩⟩⟩⟩⟩
theorem wiL_isActed_9 : ∀ w ∈ wsL_isActed_r9, w ∈ wsL_law := List.forall_mem_cons.mpr ⟨(inLr11 (List.mem_of_getElem? (l := wsL_law_r11) (i := 16) rfl)), List.forall_mem_cons.mpr ⟨(inLr11 (List.mem_of_getElem? (l := wsL_law_r11) (i := 17) rfl)), List.forall_mem_cons.mpr ⟨(inLr11 (List.mem_of_getElem? (l := wsL_law_r11) (i := 18) rfl)), List.forall_mem_cons.mpr ⟨(inLr11 (List.mem_of_getElem? (l := wsL_law_r11) (i := 19) rfl)), List.forall_mem_cons.mpr ⟨(inLr11 (List.mem_of_getElem? (l := wsL_law_r11) (i := 20) rfl)), List.forall_mem_cons.mpr ⟨(inLr11 (List.mem_of_getElem? (l := wsL_law_r11) (i := 21) rfl)), List.forall_mem_cons.mpr ⟨(inLr11 (List.mem_of_getElem? (l := wsL_law_r11) (i := 22) rfl)), List.forall_mem_cons.mpr ⟨(inLr11 (List.mem_of_getElem? (l := wsL_law_r11) (i := 23) rfl)), List.forall_mem_cons.mpr ⟨(inLr12 (List.mem_of_getElem? (l := wsL_law_r12) (i := 0) rfl)), List.forall_mem_cons.mpr ⟨(inLr12 (List.mem_of_getElem? (l := wsL_law_r12) (i := 1) rfl)), List.forall_mem_cons.mpr ⟨(inLr12 (List.mem_of_getElem? (l := wsL_law_r12) (i := 2) rfl)), List.forall_mem_cons.mpr ⟨(inLr12 (List.mem_of_getElem? (l := wsL_law_r12) (i := 3) rfl)), List.forall_mem_cons.mpr ⟨(inLr12 (List.mem_of_getElem? (l := wsL_law_r12) (i := 4) rfl)), List.forall_mem_cons.mpr ⟨(inLr12 (List.mem_of_getElem? (l := wsL_law_r12) (i := 5) rfl)), List.forall_mem_cons.mpr ⟨(inLr12 (List.mem_of_getElem? (l := wsL_law_r12) (i := 6) rfl)), List.forall_mem_cons.mpr ⟨(inLr12 (List.mem_of_getElem? (l := wsL_law_r12) (i := 7) rfl)), List.forall_mem_cons.mpr ⟨(inLr12 (List.mem_of_getElem? (l := wsL_law_r12) (i := 8) rfl)), List.forall_mem_cons.mpr ⟨(inLr12 (List.mem_of_getElem? (l := wsL_law_r12) (i := 9) rfl)), List.forall_mem_cons.mpr ⟨(inLr12 (List.mem_of_getElem? (l := wsL_law_r12) (i := 10) rfl)), List.forall_mem_cons.mpr ⟨(inLr12 (List.mem_of_getElem? (l := wsL_law_r12) (i := 11) rfl)), List.forall_mem_cons.mpr ⟨(inLr12 (List.mem_of_getElem? (l := wsL_law_r12) (i := 12) rfl)), List.forall_mem_cons.mpr ⟨(inLr12 (List.mem_of_getElem? (l := wsL_law_r12) (i := 13) rfl)), List.forall_mem_cons.mpr ⟨(inLr12 (List.mem_of_getElem? (l := wsL_law_r12) (i := 14) rfl)), List.forall_mem_cons.mpr ⟨(inLr12 (List.mem_of_getElem? (l := wsL_law_r12) (i := 15) rfl)), fun _ h => absurd h List.not_mem_nil⟩⟩⟩⟩⟩⟩⟩⟩⟩⟩⟩⟩⟩⟩⟩⟩⟩⟩⟩⟩⟩⟩⟩⟩
theorem wiL_isActed_10 : ∀ w ∈ wsL_isActed_r10, w ∈ wsL_law := List.forall_mem_cons.mpr ⟨(inLr12 (List.mem_of_getElem? (l := wsL_law_r12) (i := 16) rfl)), List.forall_mem_cons.mpr ⟨(inLr12 (List.mem_of_getElem? (l := wsL_law_r12) (i := 17) rfl)), List.forall_mem_cons.mpr ⟨(inLr12 (List.mem_of_getElem? (l := wsL_law_r12) (i := 18) rfl)), List.forall_mem_cons.mpr ⟨(inLr12 (List.mem_of_getElem? (l := wsL_law_r12) (i := 19) rfl)), List.forall_mem_cons.mpr ⟨(inLr12 (List.mem_of_getElem? (l := wsL_law_r12) (i := 20) rfl)), List.forall_mem_cons.mpr ⟨(inLr12 (List.mem_of_getElem? (l := wsL_law_r12) (i := 21) rfl)), List.forall_mem_cons.mpr ⟨(inLr12 (List.mem_of_getElem? (l := wsL_law_r12) (i := 22) rfl)), List.forall_mem_cons.mpr ⟨(inLr12 (List.mem_of_getElem? (l := wsL_law_r12) (i := 23) rfl)), List.forall_mem_cons.mpr ⟨(inLr13 (List.mem_of_getElem? (l := wsL_law_r13) (i := 0) rfl)), List.forall_mem_cons.mpr ⟨(inLr13 (List.mem_of_getElem? (l := wsL_law_r13) (i := 1) rfl)), List.forall_mem_cons.mpr ⟨(inLr13 (List.mem_of_getElem? (l := wsL_law_r13) (i := 2) rfl)), List.forall_mem_cons.mpr ⟨(inLr13 (List.mem_of_getElem? (l := wsL_law_r13) (i := 3) rfl)), List.forall_mem_cons.mpr ⟨(inLr13 (List.mem_of_getElem? (l := wsL_law_r13) (i := 4) rfl)), List.forall_mem_cons.mpr ⟨(inLr13 (List.mem_of_getElem? (l := wsL_law_r13) (i := 5) rfl)), List.forall_mem_cons.mpr ⟨(inLr13 (List.mem_of_getElem? (l := wsL_law_r13) (i := 6) rfl)), List.forall_mem_cons.mpr ⟨(inLr13 (List.mem_of_getElem? (l := wsL_law_r13) (i := 7) rfl)), List.forall_mem_cons.mpr ⟨(inLr13 (List.mem_of_getElem? (l := wsL_law_r13) (i := 8) rfl)), fun _ h => absurd h List.not_mem_nil⟩⟩⟩⟩⟩⟩⟩⟩⟩⟩⟩⟩⟩⟩⟩⟩⟩
theorem ggL_law_L_isActed : GoodIn wsL_law wsL_isActed := goodIn_sub (List.forall_mem_cons.mpr ⟨(inLr4 (List.mem_of_getElem? (l := wsL_law_r4) (i := 22) rfl)), List.forall_mem_append.mpr ⟨List.forall_mem_append.mpr ⟨List.forall_mem_append.mpr ⟨List.forall_mem_append.mpr ⟨List.forall_mem_append.mpr ⟨List.forall_mem_append.mpr ⟨List.forall_mem_append.mpr ⟨wiL_isActed_1, List.forall_mem_append.mpr ⟨wiL_isActed_2, List.forall_mem_append.mpr ⟨wiL_isActed_3, List.forall_mem_append.mpr ⟨wiL_isActed_4, List.forall_mem_append.mpr ⟨wiL_isActed_5, List.forall_mem_append.mpr ⟨wiL_isActed_6, List.forall_mem_append.mpr ⟨wiL_isActed_7, List.forall_mem_append.mpr ⟨wiL_isActed_8, List.forall_mem_append.mpr ⟨wiL_isActed_9, wiL_isActed_10⟩⟩⟩⟩⟩⟩⟩⟩⟩, inlX7⟩, inlX5⟩, inlX0⟩, inlX3⟩, inlX1⟩, inlX2⟩⟩) (by decide +kernel)
set_option maxRecDepth 20000 in
theorem gL_law_L_isActed : GoodIn wsL_law (va_wsS RL 98 yL_isActed wsL_isActed) := goodIn_app (goodIn_of _ (by decide +kernel)) ggL_law_L_isActed
theorem wiL_isBelt_1 : ∀ w ∈ wsL_isBelt_r1, w ∈ wsL_law := List.forall_mem_cons.mpr ⟨(inLr13 (List.mem_of_getElem? (l := wsL_law_r13) (i := 12) rfl)), List.forall_mem_cons.mpr ⟨(inLr13 (List.mem_of_getElem? (l := wsL_law_r13) (i := 13) rfl)), List.forall_mem_cons.mpr ⟨(inLr13 (List.mem_of_getElem? (l := wsL_law_r13) (i := 14) rfl)), List.forall_mem_cons.mpr ⟨(inLr1 (List.mem_of_getElem? (l := wsL_law_r1) (i := 2) rfl)), List.forall_mem_cons.mpr ⟨(inLr13 (List.mem_of_getElem? (l := wsL_law_r13) (i := 15) rfl)), List.forall_mem_cons.mpr ⟨(inLr1 (List.mem_of_getElem? (l := wsL_law_r1) (i := 14) rfl)), List.forall_mem_cons.mpr ⟨(inLr5 (List.mem_of_getElem? (l := wsL_law_r5) (i := 6) rfl)), List.forall_mem_cons.mpr ⟨(inLr5 (List.mem_of_getElem? (l := wsL_law_r5) (i := 7) rfl)), List.forall_mem_cons.mpr ⟨(inLr13 (List.mem_of_getElem? (l := wsL_law_r13) (i := 16) rfl)), List.forall_mem_cons.mpr ⟨(inLr13 (List.mem_of_getElem? (l := wsL_law_r13) (i := 17) rfl)), List.forall_mem_cons.mpr ⟨(inLr13 (List.mem_of_getElem? (l := wsL_law_r13) (i := 18) rfl)), List.forall_mem_cons.mpr ⟨(inLr13 (List.mem_of_getElem? (l := wsL_law_r13) (i := 19) rfl)), List.forall_mem_cons.mpr ⟨(inLr2 (List.mem_of_getElem? (l := wsL_law_r2) (i := 11) rfl)), List.forall_mem_cons.mpr ⟨(inLr13 (List.mem_of_getElem? (l := wsL_law_r13) (i := 20) rfl)), List.forall_mem_cons.mpr ⟨(inLr3 (List.mem_of_getElem? (l := wsL_law_r3) (i := 12) rfl)), List.forall_mem_cons.mpr ⟨(inLr3 (List.mem_of_getElem? (l := wsL_law_r3) (i := 14) rfl)), List.forall_mem_cons.mpr ⟨(inLr13 (List.mem_of_getElem? (l := wsL_law_r13) (i := 21) rfl)), List.forall_mem_cons.mpr ⟨(inLr9 (List.mem_of_getElem? (l := wsL_law_r9) (i := 6) rfl)), List.forall_mem_cons.mpr ⟨(inLr5 (List.mem_of_getElem? (l := wsL_law_r5) (i := 10) rfl)), List.forall_mem_cons.mpr ⟨(inLr9 (List.mem_of_getElem? (l := wsL_law_r9) (i := 7) rfl)), List.forall_mem_cons.mpr ⟨(inLr13 (List.mem_of_getElem? (l := wsL_law_r13) (i := 22) rfl)), List.forall_mem_cons.mpr ⟨(inLr13 (List.mem_of_getElem? (l := wsL_law_r13) (i := 23) rfl)), List.forall_mem_cons.mpr ⟨(inLr14 (List.mem_of_getElem? (l := wsL_law_r14) (i := 0) rfl)), List.forall_mem_cons.mpr ⟨(inLr1 (List.mem_of_getElem? (l := wsL_law_r1) (i := 13) rfl)), fun _ h => absurd h List.not_mem_nil⟩⟩⟩⟩⟩⟩⟩⟩⟩⟩⟩⟩⟩⟩⟩⟩⟩⟩⟩⟩⟩⟩⟩⟩
theorem wiL_isBelt_2 : ∀ w ∈ wsL_isBelt_r2, w ∈ wsL_law := List.forall_mem_cons.mpr ⟨(inLr14 (List.mem_of_getElem? (l := wsL_law_r14) (i := 1) rfl)), List.forall_mem_cons.mpr ⟨(inLr2 (List.mem_of_getElem? (l := wsL_law_r2) (i := 12) rfl)), List.forall_mem_cons.mpr ⟨(inLr8 (List.mem_of_getElem? (l := wsL_law_r8) (i := 2) rfl)), List.forall_mem_cons.mpr ⟨(inLr8 (List.mem_of_getElem? (l := wsL_law_r8) (i := 3) rfl)), List.forall_mem_cons.mpr ⟨(inLr8 (List.mem_of_getElem? (l := wsL_law_r8) (i := 4) rfl)), List.forall_mem_cons.mpr ⟨(inLr8 (List.mem_of_getElem? (l := wsL_law_r8) (i := 5) rfl)), List.forall_mem_cons.mpr ⟨(inLr8 (List.mem_of_getElem? (l := wsL_law_r8) (i := 6) rfl)), List.forall_mem_cons.mpr ⟨(inLr8 (List.mem_of_getElem? (l := wsL_law_r8) (i := 7) rfl)), List.forall_mem_cons.mpr ⟨(inLr2 (List.mem_of_getElem? (l := wsL_law_r2) (i := 8) rfl)), List.forall_mem_cons.mpr ⟨(inLr8 (List.mem_of_getElem? (l := wsL_law_r8) (i := 8) rfl)), List.forall_mem_cons.mpr ⟨(inLr8 (List.mem_of_getElem? (l := wsL_law_r8) (i := 9) rfl)), List.forall_mem_cons.mpr ⟨(inLr8 (List.mem_of_getElem? (l := wsL_law_r8) (i := 10) rfl)), List.forall_mem_cons.mpr ⟨(inLr8 (List.mem_of_getElem? (l := wsL_law_r8) (i := 11) rfl)), List.forall_mem_cons.mpr ⟨(inLr8 (List.mem_of_getElem? (l := wsL_law_r8) (i := 12) rfl)), List.forall_mem_cons.mpr ⟨(inLr8 (List.mem_of_getElem? (l := wsL_law_r8) (i := 13) rfl)), List.forall_mem_cons.mpr ⟨(inLr8 (List.mem_of_getElem? (l := wsL_law_r8) (i := 14) rfl)), List.forall_mem_cons.mpr ⟨(inLr8 (List.mem_of_getElem? (l := wsL_law_r8) (i := 15) rfl)), List.forall_mem_cons.mpr ⟨(inLr2 (List.mem_of_getElem? (l := wsL_law_r2) (i := 17) rfl)), List.forall_mem_cons.mpr ⟨(inLr8 (List.mem_of_getElem? (l := wsL_law_r8) (i := 16) rfl)), List.forall_mem_cons.mpr ⟨(inLr8 (List.mem_of_getElem? (l := wsL_law_r8) (i := 17) rfl)), List.forall_mem_cons.mpr ⟨(inLr8 (List.mem_of_getElem? (l := wsL_law_r8) (i := 18) rfl)), List.forall_mem_cons.mpr ⟨(inLr8 (List.mem_of_getElem? (l := wsL_law_r8) (i := 19) rfl)), List.forall_mem_cons.mpr ⟨(inLr8 (List.mem_of_getElem? (l := wsL_law_r8) (i := 20) rfl)), List.forall_mem_cons.mpr ⟨(inLr8 (List.mem_of_getElem? (l := wsL_law_r8) (i := 21) rfl)), fun _ h => absurd h List.not_mem_nil⟩⟩⟩⟩⟩⟩⟩⟩⟩⟩⟩⟩⟩⟩⟩⟩⟩⟩⟩⟩⟩⟩⟩⟩
theorem wiL_isBelt_3 : ∀ w ∈ wsL_isBelt_r3, w ∈ wsL_law := List.forall_mem_cons.mpr ⟨(inLr8 (List.mem_of_getElem? (l := wsL_law_r8) (i := 22) rfl)), List.forall_mem_cons.mpr ⟨(inLr8 (List.mem_of_getElem? (l := wsL_law_r8) (i := 23) rfl)), List.forall_mem_cons.mpr ⟨(inLr9 (List.mem_of_getElem? (l := wsL_law_r9) (i := 0) rfl)), List.forall_mem_cons.mpr ⟨(inLr9 (List.mem_of_getElem? (l := wsL_law_r9) (i := 1) rfl)), List.forall_mem_cons.mpr ⟨(inLr9 (List.mem_of_getElem? (l := wsL_law_r9) (i := 2) rfl)), List.forall_mem_cons.mpr ⟨(inLr9 (List.mem_of_getElem? (l := wsL_law_r9) (i := 3) rfl)), List.forall_mem_cons.mpr ⟨(inLr9 (List.mem_of_getElem? (l := wsL_law_r9) (i := 4) rfl)), List.forall_mem_cons.mpr ⟨(inLr9 (List.mem_of_getElem? (l := wsL_law_r9) (i := 5) rfl)), List.forall_mem_cons.mpr ⟨(inLr9 (List.mem_of_getElem? (l := wsL_law_r9) (i := 8) rfl)), List.forall_mem_cons.mpr ⟨(inLr6 (List.mem_of_getElem? (l := wsL_law_r6) (i := 16) rfl)), List.forall_mem_cons.mpr ⟨(inLr6 (List.mem_of_getElem? (l := wsL_law_r6) (i := 17) rfl)), List.forall_mem_cons.mpr ⟨(inLr9 (List.mem_of_getElem? (l := wsL_law_r9) (i := 9) rfl)), List.forall_mem_cons.mpr ⟨(inLr9 (List.mem_of_getElem? (l := wsL_law_r9) (i := 10) rfl)), List.forall_mem_cons.mpr ⟨(inLr9 (List.mem_of_getElem? (l := wsL_law_r9) (i := 11) rfl)), List.forall_mem_cons.mpr ⟨(inLr2 (List.mem_of_getElem? (l := wsL_law_r2) (i := 7) rfl)), List.forall_mem_cons.mpr ⟨(inLr9 (List.mem_of_getElem? (l := wsL_law_r9) (i := 12) rfl)), List.forall_mem_cons.mpr ⟨(inLr3 (List.mem_of_getElem? (l := wsL_law_r3) (i := 7) rfl)), List.forall_mem_cons.mpr ⟨(inLr3 (List.mem_of_getElem? (l := wsL_law_r3) (i := 5) rfl)), List.forall_mem_cons.mpr ⟨(inLr3 (List.mem_of_getElem? (l := wsL_law_r3) (i := 6) rfl)), List.forall_mem_cons.mpr ⟨(inLr9 (List.mem_of_getElem? (l := wsL_law_r9) (i := 13) rfl)), List.forall_mem_cons.mpr ⟨(inLr9 (List.mem_of_getElem? (l := wsL_law_r9) (i := 14) rfl)), List.forall_mem_cons.mpr ⟨(inLr9 (List.mem_of_getElem? (l := wsL_law_r9) (i := 15) rfl)), List.forall_mem_cons.mpr ⟨(inLr9 (List.mem_of_getElem? (l := wsL_law_r9) (i := 16) rfl)), List.forall_mem_cons.mpr ⟨(inLr9 (List.mem_of_getElem? (l := wsL_law_r9) (i := 17) rfl)), fun _ h => absurd h List.not_mem_nil⟩⟩⟩⟩⟩⟩⟩⟩⟩⟩⟩⟩⟩⟩⟩⟩⟩⟩⟩⟩⟩⟩⟩⟩
theorem wiL_isBelt_4 : ∀ w ∈ wsL_isBelt_r4, w ∈ wsL_law := List.forall_mem_cons.mpr ⟨(inLr9 (List.mem_of_getElem? (l := wsL_law_r9) (i := 18) rfl)), List.forall_mem_cons.mpr ⟨(inLr10 (List.mem_of_getElem? (l := wsL_law_r10) (i := 17) rfl)), List.forall_mem_cons.mpr ⟨(inLr10 (List.mem_of_getElem? (l := wsL_law_r10) (i := 18) rfl)), List.forall_mem_cons.mpr ⟨(inLr10 (List.mem_of_getElem? (l := wsL_law_r10) (i := 19) rfl)), List.forall_mem_cons.mpr ⟨(inLr10 (List.mem_of_getElem? (l := wsL_law_r10) (i := 20) rfl)), List.forall_mem_cons.mpr ⟨(inLr14 (List.mem_of_getElem? (l := wsL_law_r14) (i := 2) rfl)), List.forall_mem_cons.mpr ⟨(inLr14 (List.mem_of_getElem? (l := wsL_law_r14) (i := 3) rfl)), List.forall_mem_cons.mpr ⟨(inLr4 (List.mem_of_getElem? (l := wsL_law_r4) (i := 17) rfl)), List.forall_mem_cons.mpr ⟨(inLr14 (List.mem_of_getElem? (l := wsL_law_r14) (i := 4) rfl)), List.forall_mem_cons.mpr ⟨(inLr7 (List.mem_of_getElem? (l := wsL_law_r7) (i := 5) rfl)), List.forall_mem_cons.mpr ⟨(inLr7 (List.mem_of_getElem? (l := wsL_law_r7) (i := 6) rfl)), List.forall_mem_cons.mpr ⟨(inLr7 (List.mem_of_getElem? (l := wsL_law_r7) (i := 7) rfl)), List.forall_mem_cons.mpr ⟨(inLr4 (List.mem_of_getElem? (l := wsL_law_r4) (i := 23) rfl)), List.forall_mem_cons.mpr ⟨(inLr5 (List.mem_of_getElem? (l := wsL_law_r5) (i := 0) rfl)), List.forall_mem_cons.mpr ⟨(inLr5 (List.mem_of_getElem? (l := wsL_law_r5) (i := 1) rfl)), List.forall_mem_cons.mpr ⟨(inLr7 (List.mem_of_getElem? (l := wsL_law_r7) (i := 8) rfl)), List.forall_mem_cons.mpr ⟨(inLr7 (List.mem_of_getElem? (l := wsL_law_r7) (i := 9) rfl)), List.forall_mem_cons.mpr ⟨(inLr7 (List.mem_of_getElem? (l := wsL_law_r7) (i := 10) rfl)), List.forall_mem_cons.mpr ⟨(inLr7 (List.mem_of_getElem? (l := wsL_law_r7) (i := 11) rfl)), List.forall_mem_cons.mpr ⟨(inLr7 (List.mem_of_getElem? (l := wsL_law_r7) (i := 12) rfl)), List.forall_mem_cons.mpr ⟨(inLr7 (List.mem_of_getElem? (l := wsL_law_r7) (i := 13) rfl)), List.forall_mem_cons.mpr ⟨(inLr14 (List.mem_of_getElem? (l := wsL_law_r14) (i := 5) rfl)), List.forall_mem_cons.mpr ⟨(inLr14 (List.mem_of_getElem? (l := wsL_law_r14) (i := 6) rfl)), List.forall_mem_cons.mpr ⟨(inLr14 (List.mem_of_getElem? (l := wsL_law_r14) (i := 7) rfl)), fun _ h => absurd h List.not_mem_nil⟩⟩⟩⟩⟩⟩⟩⟩⟩⟩⟩⟩⟩⟩⟩⟩⟩⟩⟩⟩⟩⟩⟩⟩
theorem wiL_isBelt_5 : ∀ w ∈ wsL_isBelt_r5, w ∈ wsL_law := List.forall_mem_cons.mpr ⟨(inLr14 (List.mem_of_getElem? (l := wsL_law_r14) (i := 8) rfl)), List.forall_mem_cons.mpr ⟨(inLr11 (List.mem_of_getElem? (l := wsL_law_r11) (i := 5) rfl)), List.forall_mem_cons.mpr ⟨(inLr11 (List.mem_of_getElem? (l := wsL_law_r11) (i := 6) rfl)), List.forall_mem_cons.mpr ⟨(inLr14 (List.mem_of_getElem? (l := wsL_law_r14) (i := 9) rfl)), List.forall_mem_cons.mpr ⟨(inLr14 (List.mem_of_getElem? (l := wsL_law_r14) (i := 10) rfl)), List.forall_mem_cons.mpr ⟨(inLr14 (List.mem_of_getElem? (l := wsL_law_r14) (i := 11) rfl)), List.forall_mem_cons.mpr ⟨(inLr14 (List.mem_of_getElem? (l := wsL_law_r14) (i := 12) rfl)), List.forall_mem_cons.mpr ⟨(inLr14 (List.mem_of_getElem? (l := wsL_law_r14) (i := 13) rfl)), List.forall_mem_cons.mpr ⟨(inLr14 (List.mem_of_getElem? (l := wsL_law_r14) (i := 14) rfl)), List.forall_mem_cons.mpr ⟨(inLr14 (List.mem_of_getElem? (l := wsL_law_r14) (i := 15) rfl)), List.forall_mem_cons.mpr ⟨(inLr2 (List.mem_of_getElem? (l := wsL_law_r2) (i := 0) rfl)), List.forall_mem_cons.mpr ⟨(inLr1 (List.mem_of_getElem? (l := wsL_law_r1) (i := 20) rfl)), List.forall_mem_cons.mpr ⟨(inLr14 (List.mem_of_getElem? (l := wsL_law_r14) (i := 16) rfl)), List.forall_mem_cons.mpr ⟨(inLr14 (List.mem_of_getElem? (l := wsL_law_r14) (i := 17) rfl)), List.forall_mem_cons.mpr ⟨(inLr14 (List.mem_of_getElem? (l := wsL_law_r14) (i := 18) rfl)), List.forall_mem_cons.mpr ⟨(inLr14 (List.mem_of_getElem? (l := wsL_law_r14) (i := 19) rfl)), List.forall_mem_cons.mpr ⟨(inLr14 (List.mem_of_getElem? (l := wsL_law_r14) (i := 20) rfl)), List.forall_mem_cons.mpr ⟨(inLr14 (List.mem_of_getElem? (l := wsL_law_r14) (i := 21) rfl)), List.forall_mem_cons.mpr ⟨(inLr14 (List.mem_of_getElem? (l := wsL_law_r14) (i := 22) rfl)), List.forall_mem_cons.mpr ⟨(inLr14 (List.mem_of_getElem? (l := wsL_law_r14) (i := 23) rfl)), List.forall_mem_cons.mpr ⟨(inLr15 (List.mem_of_getElem? (l := wsL_law_r15) (i := 0) rfl)), List.forall_mem_cons.mpr ⟨(inLr15 (List.mem_of_getElem? (l := wsL_law_r15) (i := 1) rfl)), List.forall_mem_cons.mpr ⟨(inLr15 (List.mem_of_getElem? (l := wsL_law_r15) (i := 2) rfl)), List.forall_mem_cons.mpr ⟨(inLr2 (List.mem_of_getElem? (l := wsL_law_r2) (i := 15) rfl)), fun _ h => absurd h List.not_mem_nil⟩⟩⟩⟩⟩⟩⟩⟩⟩⟩⟩⟩⟩⟩⟩⟩⟩⟩⟩⟩⟩⟩⟩⟩
theorem wiL_isBelt_6 : ∀ w ∈ wsL_isBelt_r6, w ∈ wsL_law := List.forall_mem_cons.mpr ⟨(inLr15 (List.mem_of_getElem? (l := wsL_law_r15) (i := 3) rfl)), List.forall_mem_cons.mpr ⟨(inLr3 (List.mem_of_getElem? (l := wsL_law_r3) (i := 18) rfl)), List.forall_mem_cons.mpr ⟨(inLr15 (List.mem_of_getElem? (l := wsL_law_r15) (i := 4) rfl)), List.forall_mem_cons.mpr ⟨(inLr15 (List.mem_of_getElem? (l := wsL_law_r15) (i := 5) rfl)), List.forall_mem_cons.mpr ⟨(inLr15 (List.mem_of_getElem? (l := wsL_law_r15) (i := 6) rfl)), List.forall_mem_cons.mpr ⟨(inLr15 (List.mem_of_getElem? (l := wsL_law_r15) (i := 7) rfl)), List.forall_mem_cons.mpr ⟨(inLr15 (List.mem_of_getElem? (l := wsL_law_r15) (i := 8) rfl)), List.forall_mem_cons.mpr ⟨(inLr15 (List.mem_of_getElem? (l := wsL_law_r15) (i := 9) rfl)), List.forall_mem_cons.mpr ⟨(inLr15 (List.mem_of_getElem? (l := wsL_law_r15) (i := 10) rfl)), List.forall_mem_cons.mpr ⟨(inLr15 (List.mem_of_getElem? (l := wsL_law_r15) (i := 11) rfl)), List.forall_mem_cons.mpr ⟨(inLr2 (List.mem_of_getElem? (l := wsL_law_r2) (i := 16) rfl)), List.forall_mem_cons.mpr ⟨(inLr10 (List.mem_of_getElem? (l := wsL_law_r10) (i := 16) rfl)), List.forall_mem_cons.mpr ⟨(inLr15 (List.mem_of_getElem? (l := wsL_law_r15) (i := 12) rfl)), List.forall_mem_cons.mpr ⟨(inLr15 (List.mem_of_getElem? (l := wsL_law_r15) (i := 13) rfl)), List.forall_mem_cons.mpr ⟨(inLr15 (List.mem_of_getElem? (l := wsL_law_r15) (i := 14) rfl)), List.forall_mem_cons.mpr ⟨(inLr15 (List.mem_of_getElem? (l := wsL_law_r15) (i := 15) rfl)), List.forall_mem_cons.mpr ⟨(inLr3 (List.mem_of_getElem? (l := wsL_law_r3) (i := 19) rfl)), List.forall_mem_cons.mpr ⟨(inLr15 (List.mem_of_getElem? (l := wsL_law_r15) (i := 16) rfl)), List.forall_mem_cons.mpr ⟨(inLr15 (List.mem_of_getElem? (l := wsL_law_r15) (i := 17) rfl)), List.forall_mem_cons.mpr ⟨(inLr15 (List.mem_of_getElem? (l := wsL_law_r15) (i := 18) rfl)), List.forall_mem_cons.mpr ⟨(inLr15 (List.mem_of_getElem? (l := wsL_law_r15) (i := 19) rfl)), List.forall_mem_cons.mpr ⟨(inLr13 (List.mem_of_getElem? (l := wsL_law_r13) (i := 5) rfl)), List.forall_mem_cons.mpr ⟨(inLr13 (List.mem_of_getElem? (l := wsL_law_r13) (i := 6) rfl)), List.forall_mem_cons.mpr ⟨(inLr13 (List.mem_of_getElem? (l := wsL_law_r13) (i := 7) rfl)), fun _ h => absurd h List.not_mem_nil⟩⟩⟩⟩⟩⟩⟩⟩⟩⟩⟩⟩⟩⟩⟩⟩⟩⟩⟩⟩⟩⟩⟩⟩
theorem wiL_isBelt_7 : ∀ w ∈ wsL_isBelt_r7, w ∈ wsL_law := List.forall_mem_cons.mpr ⟨(inLr13 (List.mem_of_getElem? (l := wsL_law_r13) (i := 8) rfl)), fun _ h => absurd h List.not_mem_nil⟩
theorem ggL_law_L_isBelt : GoodIn wsL_law wsL_isBelt := goodIn_sub (List.forall_mem_cons.mpr ⟨(inLr13 (List.mem_of_getElem? (l := wsL_law_r13) (i := 11) rfl)), List.forall_mem_append.mpr ⟨List.forall_mem_append.mpr ⟨List.forall_mem_append.mpr ⟨List.forall_mem_append.mpr ⟨List.forall_mem_append.mpr ⟨List.forall_mem_append.mpr ⟨List.forall_mem_append.mpr ⟨List.forall_mem_append.mpr ⟨wiL_isBelt_1, List.forall_mem_append.mpr ⟨wiL_isBelt_2, List.forall_mem_append.mpr ⟨wiL_isBelt_3, List.forall_mem_append.mpr ⟨wiL_isBelt_4, List.forall_mem_append.mpr ⟨wiL_isBelt_5, List.forall_mem_append.mpr ⟨wiL_isBelt_6, wiL_isBelt_7⟩⟩⟩⟩⟩⟩, inlX7⟩, inlX5⟩, inlX0⟩, inlX1⟩, inlX4⟩, inlX3⟩, inlX2⟩⟩) (by decide +kernel)
set_option maxRecDepth 20000 in
theorem gL_law_L_isBelt : GoodIn wsL_law (va_wsS RL 102 yL_isBelt wsL_isBelt) := goodIn_app (goodIn_of _ (by decide +kernel)) ggL_law_L_isBelt
theorem wiL_areBoxes_1 : ∀ w ∈ wsL_areBoxes_r1, w ∈ wsL_law := List.forall_mem_cons.mpr ⟨(inLr15 (List.mem_of_getElem? (l := wsL_law_r15) (i := 23) rfl)), List.forall_mem_cons.mpr ⟨(inLr16 (List.mem_of_getElem? (l := wsL_law_r16) (i := 0) rfl)), List.forall_mem_cons.mpr ⟨(inLr16 (List.mem_of_getElem? (l := wsL_law_r16) (i := 1) rfl)), List.forall_mem_cons.mpr ⟨(inLr1 (List.mem_of_getElem? (l := wsL_law_r1) (i := 2) rfl)), List.forall_mem_cons.mpr ⟨(inLr16 (List.mem_of_getElem? (l := wsL_law_r16) (i := 2) rfl)), List.forall_mem_cons.mpr ⟨(inLr1 (List.mem_of_getElem? (l := wsL_law_r1) (i := 14) rfl)), List.forall_mem_cons.mpr ⟨(inLr14 (List.mem_of_getElem? (l := wsL_law_r14) (i := 10) rfl)), List.forall_mem_cons.mpr ⟨(inLr16 (List.mem_of_getElem? (l := wsL_law_r16) (i := 3) rfl)), List.forall_mem_cons.mpr ⟨(inLr12 (List.mem_of_getElem? (l := wsL_law_r12) (i := 7) rfl)), List.forall_mem_cons.mpr ⟨(inLr12 (List.mem_of_getElem? (l := wsL_law_r12) (i := 12) rfl)), List.forall_mem_cons.mpr ⟨(inLr12 (List.mem_of_getElem? (l := wsL_law_r12) (i := 13) rfl)), List.forall_mem_cons.mpr ⟨(inLr12 (List.mem_of_getElem? (l := wsL_law_r12) (i := 14) rfl)), List.forall_mem_cons.mpr ⟨(inLr16 (List.mem_of_getElem? (l := wsL_law_r16) (i := 4) rfl)), List.forall_mem_cons.mpr ⟨(inLr16 (List.mem_of_getElem? (l := wsL_law_r16) (i := 5) rfl)), List.forall_mem_cons.mpr ⟨(inLr16 (List.mem_of_getElem? (l := wsL_law_r16) (i := 6) rfl)), List.forall_mem_cons.mpr ⟨(inLr2 (List.mem_of_getElem? (l := wsL_law_r2) (i := 15) rfl)), List.forall_mem_cons.mpr ⟨(inLr16 (List.mem_of_getElem? (l := wsL_law_r16) (i := 7) rfl)), List.forall_mem_cons.mpr ⟨(inLr3 (List.mem_of_getElem? (l := wsL_law_r3) (i := 18) rfl)), List.forall_mem_cons.mpr ⟨(inLr16 (List.mem_of_getElem? (l := wsL_law_r16) (i := 8) rfl)), List.forall_mem_cons.mpr ⟨(inLr15 (List.mem_of_getElem? (l := wsL_law_r15) (i := 13) rfl)), List.forall_mem_cons.mpr ⟨(inLr15 (List.mem_of_getElem? (l := wsL_law_r15) (i := 14) rfl)), List.forall_mem_cons.mpr ⟨(inLr15 (List.mem_of_getElem? (l := wsL_law_r15) (i := 15) rfl)), List.forall_mem_cons.mpr ⟨(inLr3 (List.mem_of_getElem? (l := wsL_law_r3) (i := 19) rfl)), List.forall_mem_cons.mpr ⟨(inLr16 (List.mem_of_getElem? (l := wsL_law_r16) (i := 9) rfl)), fun _ h => absurd h List.not_mem_nil⟩⟩⟩⟩⟩⟩⟩⟩⟩⟩⟩⟩⟩⟩⟩⟩⟩⟩⟩⟩⟩⟩⟩⟩
theorem wiL_areBoxes_2 : ∀ w ∈ wsL_areBoxes_r2, w ∈ wsL_law := List.forall_mem_cons.mpr ⟨(inLr9 (List.mem_of_getElem? (l := wsL_law_r9) (i := 6) rfl)), List.forall_mem_cons.mpr ⟨(inLr5 (List.mem_of_getElem? (l := wsL_law_r5) (i := 10) rfl)), List.forall_mem_cons.mpr ⟨(inLr9 (List.mem_of_getElem? (l := wsL_law_r9) (i := 7) rfl)), List.forall_mem_cons.mpr ⟨(inLr16 (List.mem_of_getElem? (l := wsL_law_r16) (i := 10) rfl)), List.forall_mem_cons.mpr ⟨(inLr15 (List.mem_of_getElem? (l := wsL_law_r15) (i := 9) rfl)), List.forall_mem_cons.mpr ⟨(inLr15 (List.mem_of_getElem? (l := wsL_law_r15) (i := 10) rfl)), List.forall_mem_cons.mpr ⟨(inLr1 (List.mem_of_getElem? (l := wsL_law_r1) (i := 13) rfl)), List.forall_mem_cons.mpr ⟨(inLr15 (List.mem_of_getElem? (l := wsL_law_r15) (i := 11) rfl)), List.forall_mem_cons.mpr ⟨(inLr2 (List.mem_of_getElem? (l := wsL_law_r2) (i := 16) rfl)), List.forall_mem_cons.mpr ⟨(inLr10 (List.mem_of_getElem? (l := wsL_law_r10) (i := 16) rfl)), List.forall_mem_cons.mpr ⟨(inLr15 (List.mem_of_getElem? (l := wsL_law_r15) (i := 12) rfl)), List.forall_mem_cons.mpr ⟨(inLr15 (List.mem_of_getElem? (l := wsL_law_r15) (i := 16) rfl)), List.forall_mem_cons.mpr ⟨(inLr15 (List.mem_of_getElem? (l := wsL_law_r15) (i := 17) rfl)), List.forall_mem_cons.mpr ⟨(inLr15 (List.mem_of_getElem? (l := wsL_law_r15) (i := 18) rfl)), List.forall_mem_cons.mpr ⟨(inLr15 (List.mem_of_getElem? (l := wsL_law_r15) (i := 19) rfl)), List.forall_mem_cons.mpr ⟨(inLr2 (List.mem_of_getElem? (l := wsL_law_r2) (i := 8) rfl)), List.forall_mem_cons.mpr ⟨(inLr9 (List.mem_of_getElem? (l := wsL_law_r9) (i := 9) rfl)), List.forall_mem_cons.mpr ⟨(inLr9 (List.mem_of_getElem? (l := wsL_law_r9) (i := 10) rfl)), List.forall_mem_cons.mpr ⟨(inLr9 (List.mem_of_getElem? (l := wsL_law_r9) (i := 11) rfl)), List.forall_mem_cons.mpr ⟨(inLr2 (List.mem_of_getElem? (l := wsL_law_r2) (i := 7) rfl)), List.forall_mem_cons.mpr ⟨(inLr9 (List.mem_of_getElem? (l := wsL_law_r9) (i := 12) rfl)), List.forall_mem_cons.mpr ⟨(inLr3 (List.mem_of_getElem? (l := wsL_law_r3) (i := 7) rfl)), List.forall_mem_cons.mpr ⟨(inLr3 (List.mem_of_getElem? (l := wsL_law_r3) (i := 5) rfl)), List.forall_mem_cons.mpr ⟨(inLr3 (List.mem_of_getElem? (l := wsL_law_r3) (i := 6) rfl)), fun _ h => absurd h List.not_mem_nil⟩⟩⟩⟩⟩⟩⟩⟩⟩⟩⟩⟩⟩⟩⟩⟩⟩⟩⟩⟩⟩⟩⟩⟩
theorem wiL_areBoxes_3 : ∀ w ∈ wsL_areBoxes_r3, w ∈ wsL_law := List.forall_mem_cons.mpr ⟨(inLr9 (List.mem_of_getElem? (l := wsL_law_r9) (i := 13) rfl)), List.forall_mem_cons.mpr ⟨(inLr9 (List.mem_of_getElem? (l := wsL_law_r9) (i := 14) rfl)), List.forall_mem_cons.mpr ⟨(inLr9 (List.mem_of_getElem? (l := wsL_law_r9) (i := 15) rfl)), List.forall_mem_cons.mpr ⟨(inLr9 (List.mem_of_getElem? (l := wsL_law_r9) (i := 16) rfl)), List.forall_mem_cons.mpr ⟨(inLr9 (List.mem_of_getElem? (l := wsL_law_r9) (i := 17) rfl)), List.forall_mem_cons.mpr ⟨(inLr9 (List.mem_of_getElem? (l := wsL_law_r9) (i := 0) rfl)), List.forall_mem_cons.mpr ⟨(inLr9 (List.mem_of_getElem? (l := wsL_law_r9) (i := 1) rfl)), List.forall_mem_cons.mpr ⟨(inLr9 (List.mem_of_getElem? (l := wsL_law_r9) (i := 18) rfl)), List.forall_mem_cons.mpr ⟨(inLr9 (List.mem_of_getElem? (l := wsL_law_r9) (i := 3) rfl)), List.forall_mem_cons.mpr ⟨(inLr9 (List.mem_of_getElem? (l := wsL_law_r9) (i := 4) rfl)), List.forall_mem_cons.mpr ⟨(inLr16 (List.mem_of_getElem? (l := wsL_law_r16) (i := 11) rfl)), List.forall_mem_cons.mpr ⟨(inLr16 (List.mem_of_getElem? (l := wsL_law_r16) (i := 12) rfl)), List.forall_mem_cons.mpr ⟨(inLr16 (List.mem_of_getElem? (l := wsL_law_r16) (i := 13) rfl)), List.forall_mem_cons.mpr ⟨(inLr16 (List.mem_of_getElem? (l := wsL_law_r16) (i := 14) rfl)), List.forall_mem_cons.mpr ⟨(inLr16 (List.mem_of_getElem? (l := wsL_law_r16) (i := 15) rfl)), List.forall_mem_cons.mpr ⟨(inLr16 (List.mem_of_getElem? (l := wsL_law_r16) (i := 16) rfl)), List.forall_mem_cons.mpr ⟨(inLr16 (List.mem_of_getElem? (l := wsL_law_r16) (i := 17) rfl)), List.forall_mem_cons.mpr ⟨(inLr16 (List.mem_of_getElem? (l := wsL_law_r16) (i := 18) rfl)), List.forall_mem_cons.mpr ⟨(inLr16 (List.mem_of_getElem? (l := wsL_law_r16) (i := 19) rfl)), List.forall_mem_cons.mpr ⟨(inLr16 (List.mem_of_getElem? (l := wsL_law_r16) (i := 20) rfl)), List.forall_mem_cons.mpr ⟨(inLr8 (List.mem_of_getElem? (l := wsL_law_r8) (i := 21) rfl)), List.forall_mem_cons.mpr ⟨(inLr8 (List.mem_of_getElem? (l := wsL_law_r8) (i := 18) rfl)), List.forall_mem_cons.mpr ⟨(inLr8 (List.mem_of_getElem? (l := wsL_law_r8) (i := 22) rfl)), List.forall_mem_cons.mpr ⟨(inLr16 (List.mem_of_getElem? (l := wsL_law_r16) (i := 21) rfl)), fun _ h => absurd h List.not_mem_nil⟩⟩⟩⟩⟩⟩⟩⟩⟩⟩⟩⟩⟩⟩⟩⟩⟩⟩⟩⟩⟩⟩⟩⟩
theorem wiL_areBoxes_4 : ∀ w ∈ wsL_areBoxes_r4, w ∈ wsL_law := List.forall_mem_cons.mpr ⟨(inLr16 (List.mem_of_getElem? (l := wsL_law_r16) (i := 22) rfl)), List.forall_mem_cons.mpr ⟨(inLr16 (List.mem_of_getElem? (l := wsL_law_r16) (i := 23) rfl)), List.forall_mem_cons.mpr ⟨(inLr17 (List.mem_of_getElem? (l := wsL_law_r17) (i := 0) rfl)), List.forall_mem_cons.mpr ⟨(inLr17 (List.mem_of_getElem? (l := wsL_law_r17) (i := 1) rfl)), List.forall_mem_cons.mpr ⟨(inLr17 (List.mem_of_getElem? (l := wsL_law_r17) (i := 2) rfl)), List.forall_mem_cons.mpr ⟨(inLr17 (List.mem_of_getElem? (l := wsL_law_r17) (i := 3) rfl)), List.forall_mem_cons.mpr ⟨(inLr17 (List.mem_of_getElem? (l := wsL_law_r17) (i := 4) rfl)), List.forall_mem_cons.mpr ⟨(inLr17 (List.mem_of_getElem? (l := wsL_law_r17) (i := 5) rfl)), List.forall_mem_cons.mpr ⟨(inLr17 (List.mem_of_getElem? (l := wsL_law_r17) (i := 6) rfl)), List.forall_mem_cons.mpr ⟨(inLr7 (List.mem_of_getElem? (l := wsL_law_r7) (i := 8) rfl)), List.forall_mem_cons.mpr ⟨(inLr7 (List.mem_of_getElem? (l := wsL_law_r7) (i := 9) rfl)), List.forall_mem_cons.mpr ⟨(inLr4 (List.mem_of_getElem? (l := wsL_law_r4) (i := 17) rfl)), List.forall_mem_cons.mpr ⟨(inLr7 (List.mem_of_getElem? (l := wsL_law_r7) (i := 10) rfl)), List.forall_mem_cons.mpr ⟨(inLr7 (List.mem_of_getElem? (l := wsL_law_r7) (i := 11) rfl)), List.forall_mem_cons.mpr ⟨(inLr7 (List.mem_of_getElem? (l := wsL_law_r7) (i := 12) rfl)), List.forall_mem_cons.mpr ⟨(inLr7 (List.mem_of_getElem? (l := wsL_law_r7) (i := 13) rfl)), List.forall_mem_cons.mpr ⟨(inLr14 (List.mem_of_getElem? (l := wsL_law_r14) (i := 5) rfl)), List.forall_mem_cons.mpr ⟨(inLr14 (List.mem_of_getElem? (l := wsL_law_r14) (i := 6) rfl)), List.forall_mem_cons.mpr ⟨(inLr14 (List.mem_of_getElem? (l := wsL_law_r14) (i := 7) rfl)), List.forall_mem_cons.mpr ⟨(inLr14 (List.mem_of_getElem? (l := wsL_law_r14) (i := 8) rfl)), List.forall_mem_cons.mpr ⟨(inLr11 (List.mem_of_getElem? (l := wsL_law_r11) (i := 5) rfl)), List.forall_mem_cons.mpr ⟨(inLr11 (List.mem_of_getElem? (l := wsL_law_r11) (i := 6) rfl)), List.forall_mem_cons.mpr ⟨(inLr14 (List.mem_of_getElem? (l := wsL_law_r14) (i := 9) rfl)), List.forall_mem_cons.mpr ⟨(inLr5 (List.mem_of_getElem? (l := wsL_law_r5) (i := 6) rfl)), fun _ h => absurd h List.not_mem_nil⟩⟩⟩⟩⟩⟩⟩⟩⟩⟩⟩⟩⟩⟩⟩⟩⟩⟩⟩⟩⟩⟩⟩⟩
theorem wiL_areBoxes_5 : ∀ w ∈ wsL_areBoxes_r5, w ∈ wsL_law := List.forall_mem_cons.mpr ⟨(inLr14 (List.mem_of_getElem? (l := wsL_law_r14) (i := 11) rfl)), List.forall_mem_cons.mpr ⟨(inLr14 (List.mem_of_getElem? (l := wsL_law_r14) (i := 12) rfl)), List.forall_mem_cons.mpr ⟨(inLr14 (List.mem_of_getElem? (l := wsL_law_r14) (i := 13) rfl)), List.forall_mem_cons.mpr ⟨(inLr14 (List.mem_of_getElem? (l := wsL_law_r14) (i := 14) rfl)), List.forall_mem_cons.mpr ⟨(inLr14 (List.mem_of_getElem? (l := wsL_law_r14) (i := 15) rfl)), List.forall_mem_cons.mpr ⟨(inLr2 (List.mem_of_getElem? (l := wsL_law_r2) (i := 0) rfl)), List.forall_mem_cons.mpr ⟨(inLr1 (List.mem_of_getElem? (l := wsL_law_r1) (i := 20) rfl)), List.forall_mem_cons.mpr ⟨(inLr14 (List.mem_of_getElem? (l := wsL_law_r14) (i := 16) rfl)), List.forall_mem_cons.mpr ⟨(inLr14 (List.mem_of_getElem? (l := wsL_law_r14) (i := 17) rfl)), List.forall_mem_cons.mpr ⟨(inLr14 (List.mem_of_getElem? (l := wsL_law_r14) (i := 18) rfl)), List.forall_mem_cons.mpr ⟨(inLr2 (List.mem_of_getElem? (l := wsL_law_r2) (i := 11) rfl)), List.forall_mem_cons.mpr ⟨(inLr14 (List.mem_of_getElem? (l := wsL_law_r14) (i := 19) rfl)), List.forall_mem_cons.mpr ⟨(inLr3 (List.mem_of_getElem? (l := wsL_law_r3) (i := 12) rfl)), List.forall_mem_cons.mpr ⟨(inLr14 (List.mem_of_getElem? (l := wsL_law_r14) (i := 20) rfl)), List.forall_mem_cons.mpr ⟨(inLr14 (List.mem_of_getElem? (l := wsL_law_r14) (i := 21) rfl)), List.forall_mem_cons.mpr ⟨(inLr14 (List.mem_of_getElem? (l := wsL_law_r14) (i := 22) rfl)), List.forall_mem_cons.mpr ⟨(inLr14 (List.mem_of_getElem? (l := wsL_law_r14) (i := 23) rfl)), List.forall_mem_cons.mpr ⟨(inLr15 (List.mem_of_getElem? (l := wsL_law_r15) (i := 0) rfl)), List.forall_mem_cons.mpr ⟨(inLr15 (List.mem_of_getElem? (l := wsL_law_r15) (i := 1) rfl)), List.forall_mem_cons.mpr ⟨(inLr15 (List.mem_of_getElem? (l := wsL_law_r15) (i := 2) rfl)), List.forall_mem_cons.mpr ⟨(inLr15 (List.mem_of_getElem? (l := wsL_law_r15) (i := 3) rfl)), List.forall_mem_cons.mpr ⟨(inLr15 (List.mem_of_getElem? (l := wsL_law_r15) (i := 4) rfl)), List.forall_mem_cons.mpr ⟨(inLr15 (List.mem_of_getElem? (l := wsL_law_r15) (i := 5) rfl)), List.forall_mem_cons.mpr ⟨(inLr15 (List.mem_of_getElem? (l := wsL_law_r15) (i := 6) rfl)), fun _ h => absurd h List.not_mem_nil⟩⟩⟩⟩⟩⟩⟩⟩⟩⟩⟩⟩⟩⟩⟩⟩⟩⟩⟩⟩⟩⟩⟩⟩
theorem wiL_areBoxes_6 : ∀ w ∈ wsL_areBoxes_r6, w ∈ wsL_law := List.forall_mem_cons.mpr ⟨(inLr15 (List.mem_of_getElem? (l := wsL_law_r15) (i := 7) rfl)), List.forall_mem_cons.mpr ⟨(inLr15 (List.mem_of_getElem? (l := wsL_law_r15) (i := 8) rfl)), List.forall_mem_cons.mpr ⟨(inLr13 (List.mem_of_getElem? (l := wsL_law_r13) (i := 5) rfl)), List.forall_mem_cons.mpr ⟨(inLr13 (List.mem_of_getElem? (l := wsL_law_r13) (i := 6) rfl)), List.forall_mem_cons.mpr ⟨(inLr13 (List.mem_of_getElem? (l := wsL_law_r13) (i := 7) rfl)), List.forall_mem_cons.mpr ⟨(inLr13 (List.mem_of_getElem? (l := wsL_law_r13) (i := 8) rfl)), List.forall_mem_cons.mpr ⟨(inLr2 (List.mem_of_getElem? (l := wsL_law_r2) (i := 17) rfl)), List.forall_mem_cons.mpr ⟨(inLr17 (List.mem_of_getElem? (l := wsL_law_r17) (i := 7) rfl)), List.forall_mem_cons.mpr ⟨(inLr17 (List.mem_of_getElem? (l := wsL_law_r17) (i := 8) rfl)), List.forall_mem_cons.mpr ⟨(inLr17 (List.mem_of_getElem? (l := wsL_law_r17) (i := 9) rfl)), List.forall_mem_cons.mpr ⟨(inLr17 (List.mem_of_getElem? (l := wsL_law_r17) (i := 10) rfl)), fun _ h => absurd h List.not_mem_nil⟩⟩⟩⟩⟩⟩⟩⟩⟩⟩⟩
theorem ggL_law_L_areBoxes : GoodIn wsL_law wsL_areBoxes := goodIn_sub (List.forall_mem_cons.mpr ⟨(inLr15 (List.mem_of_getElem? (l := wsL_law_r15) (i := 22) rfl)), List.forall_mem_append.mpr ⟨List.forall_mem_append.mpr ⟨List.forall_mem_append.mpr ⟨List.forall_mem_append.mpr ⟨List.forall_mem_append.mpr ⟨List.forall_mem_append.mpr ⟨List.forall_mem_append.mpr ⟨List.forall_mem_append.mpr ⟨wiL_areBoxes_1, List.forall_mem_append.mpr ⟨wiL_areBoxes_2, List.forall_mem_append.mpr ⟨wiL_areBoxes_3, List.forall_mem_append.mpr ⟨wiL_areBoxes_4, List.forall_mem_append.mpr ⟨wiL_areBoxes_5, wiL_areBoxes_6⟩⟩⟩⟩⟩, inlX7⟩, inlX5⟩, inlX2⟩, inlX1⟩, inlX4⟩, inlX3⟩, inlX0⟩⟩) (by decide +kernel)
set_option maxRecDepth 20000 in
theorem gL_law_L_areBoxes : GoodIn wsL_law (va_wsS RL 106 yL_areBoxes wsL_areBoxes) := goodIn_app (goodIn_of _ (by decide +kernel)) ggL_law_L_areBoxes
theorem wiL_areTold_1 : ∀ w ∈ wsL_areTold_r1, w ∈ wsL_law := List.forall_mem_cons.mpr ⟨(inLr14 (List.mem_of_getElem? (l := wsL_law_r14) (i := 5) rfl)), List.forall_mem_cons.mpr ⟨(inLr14 (List.mem_of_getElem? (l := wsL_law_r14) (i := 6) rfl)), List.forall_mem_cons.mpr ⟨(inLr14 (List.mem_of_getElem? (l := wsL_law_r14) (i := 7) rfl)), List.forall_mem_cons.mpr ⟨(inLr1 (List.mem_of_getElem? (l := wsL_law_r1) (i := 2) rfl)), List.forall_mem_cons.mpr ⟨(inLr14 (List.mem_of_getElem? (l := wsL_law_r14) (i := 8) rfl)), List.forall_mem_cons.mpr ⟨(inLr1 (List.mem_of_getElem? (l := wsL_law_r1) (i := 14) rfl)), List.forall_mem_cons.mpr ⟨(inLr11 (List.mem_of_getElem? (l := wsL_law_r11) (i := 5) rfl)), List.forall_mem_cons.mpr ⟨(inLr11 (List.mem_of_getElem? (l := wsL_law_r11) (i := 6) rfl)), List.forall_mem_cons.mpr ⟨(inLr14 (List.mem_of_getElem? (l := wsL_law_r14) (i := 9) rfl)), List.forall_mem_cons.mpr ⟨(inLr5 (List.mem_of_getElem? (l := wsL_law_r5) (i := 6) rfl)), List.forall_mem_cons.mpr ⟨(inLr14 (List.mem_of_getElem? (l := wsL_law_r14) (i := 10) rfl)), List.forall_mem_cons.mpr ⟨(inLr14 (List.mem_of_getElem? (l := wsL_law_r14) (i := 11) rfl)), List.forall_mem_cons.mpr ⟨(inLr14 (List.mem_of_getElem? (l := wsL_law_r14) (i := 12) rfl)), List.forall_mem_cons.mpr ⟨(inLr14 (List.mem_of_getElem? (l := wsL_law_r14) (i := 13) rfl)), List.forall_mem_cons.mpr ⟨(inLr14 (List.mem_of_getElem? (l := wsL_law_r14) (i := 14) rfl)), List.forall_mem_cons.mpr ⟨(inLr14 (List.mem_of_getElem? (l := wsL_law_r14) (i := 15) rfl)), List.forall_mem_cons.mpr ⟨(inLr2 (List.mem_of_getElem? (l := wsL_law_r2) (i := 0) rfl)), List.forall_mem_cons.mpr ⟨(inLr1 (List.mem_of_getElem? (l := wsL_law_r1) (i := 20) rfl)), List.forall_mem_cons.mpr ⟨(inLr14 (List.mem_of_getElem? (l := wsL_law_r14) (i := 16) rfl)), List.forall_mem_cons.mpr ⟨(inLr14 (List.mem_of_getElem? (l := wsL_law_r14) (i := 17) rfl)), List.forall_mem_cons.mpr ⟨(inLr14 (List.mem_of_getElem? (l := wsL_law_r14) (i := 18) rfl)), List.forall_mem_cons.mpr ⟨(inLr2 (List.mem_of_getElem? (l := wsL_law_r2) (i := 11) rfl)), List.forall_mem_cons.mpr ⟨(inLr14 (List.mem_of_getElem? (l := wsL_law_r14) (i := 19) rfl)), List.forall_mem_cons.mpr ⟨(inLr3 (List.mem_of_getElem? (l := wsL_law_r3) (i := 12) rfl)), fun _ h => absurd h List.not_mem_nil⟩⟩⟩⟩⟩⟩⟩⟩⟩⟩⟩⟩⟩⟩⟩⟩⟩⟩⟩⟩⟩⟩⟩⟩
theorem wiL_areTold_2 : ∀ w ∈ wsL_areTold_r2, w ∈ wsL_law := List.forall_mem_cons.mpr ⟨(inLr14 (List.mem_of_getElem? (l := wsL_law_r14) (i := 20) rfl)), List.forall_mem_cons.mpr ⟨(inLr14 (List.mem_of_getElem? (l := wsL_law_r14) (i := 21) rfl)), List.forall_mem_cons.mpr ⟨(inLr14 (List.mem_of_getElem? (l := wsL_law_r14) (i := 22) rfl)), List.forall_mem_cons.mpr ⟨(inLr14 (List.mem_of_getElem? (l := wsL_law_r14) (i := 23) rfl)), List.forall_mem_cons.mpr ⟨(inLr15 (List.mem_of_getElem? (l := wsL_law_r15) (i := 0) rfl)), List.forall_mem_cons.mpr ⟨(inLr15 (List.mem_of_getElem? (l := wsL_law_r15) (i := 1) rfl)), List.forall_mem_cons.mpr ⟨(inLr15 (List.mem_of_getElem? (l := wsL_law_r15) (i := 2) rfl)), List.forall_mem_cons.mpr ⟨(inLr2 (List.mem_of_getElem? (l := wsL_law_r2) (i := 15) rfl)), List.forall_mem_cons.mpr ⟨(inLr15 (List.mem_of_getElem? (l := wsL_law_r15) (i := 3) rfl)), List.forall_mem_cons.mpr ⟨(inLr3 (List.mem_of_getElem? (l := wsL_law_r3) (i := 18) rfl)), List.forall_mem_cons.mpr ⟨(inLr15 (List.mem_of_getElem? (l := wsL_law_r15) (i := 4) rfl)), List.forall_mem_cons.mpr ⟨(inLr15 (List.mem_of_getElem? (l := wsL_law_r15) (i := 5) rfl)), List.forall_mem_cons.mpr ⟨(inLr15 (List.mem_of_getElem? (l := wsL_law_r15) (i := 6) rfl)), List.forall_mem_cons.mpr ⟨(inLr1 (List.mem_of_getElem? (l := wsL_law_r1) (i := 13) rfl)), List.forall_mem_cons.mpr ⟨(inLr15 (List.mem_of_getElem? (l := wsL_law_r15) (i := 7) rfl)), List.forall_mem_cons.mpr ⟨(inLr15 (List.mem_of_getElem? (l := wsL_law_r15) (i := 8) rfl)), List.forall_mem_cons.mpr ⟨(inLr15 (List.mem_of_getElem? (l := wsL_law_r15) (i := 9) rfl)), List.forall_mem_cons.mpr ⟨(inLr15 (List.mem_of_getElem? (l := wsL_law_r15) (i := 10) rfl)), List.forall_mem_cons.mpr ⟨(inLr15 (List.mem_of_getElem? (l := wsL_law_r15) (i := 11) rfl)), List.forall_mem_cons.mpr ⟨(inLr2 (List.mem_of_getElem? (l := wsL_law_r2) (i := 16) rfl)), List.forall_mem_cons.mpr ⟨(inLr10 (List.mem_of_getElem? (l := wsL_law_r10) (i := 16) rfl)), List.forall_mem_cons.mpr ⟨(inLr15 (List.mem_of_getElem? (l := wsL_law_r15) (i := 12) rfl)), List.forall_mem_cons.mpr ⟨(inLr15 (List.mem_of_getElem? (l := wsL_law_r15) (i := 13) rfl)), List.forall_mem_cons.mpr ⟨(inLr15 (List.mem_of_getElem? (l := wsL_law_r15) (i := 14) rfl)), fun _ h => absurd h List.not_mem_nil⟩⟩⟩⟩⟩⟩⟩⟩⟩⟩⟩⟩⟩⟩⟩⟩⟩⟩⟩⟩⟩⟩⟩⟩
theorem wiL_areTold_3 : ∀ w ∈ wsL_areTold_r3, w ∈ wsL_law := List.forall_mem_cons.mpr ⟨(inLr15 (List.mem_of_getElem? (l := wsL_law_r15) (i := 15) rfl)), List.forall_mem_cons.mpr ⟨(inLr3 (List.mem_of_getElem? (l := wsL_law_r3) (i := 19) rfl)), List.forall_mem_cons.mpr ⟨(inLr15 (List.mem_of_getElem? (l := wsL_law_r15) (i := 16) rfl)), List.forall_mem_cons.mpr ⟨(inLr15 (List.mem_of_getElem? (l := wsL_law_r15) (i := 17) rfl)), List.forall_mem_cons.mpr ⟨(inLr15 (List.mem_of_getElem? (l := wsL_law_r15) (i := 18) rfl)), List.forall_mem_cons.mpr ⟨(inLr15 (List.mem_of_getElem? (l := wsL_law_r15) (i := 19) rfl)), List.forall_mem_cons.mpr ⟨(inLr2 (List.mem_of_getElem? (l := wsL_law_r2) (i := 8) rfl)), List.forall_mem_cons.mpr ⟨(inLr9 (List.mem_of_getElem? (l := wsL_law_r9) (i := 9) rfl)), List.forall_mem_cons.mpr ⟨(inLr9 (List.mem_of_getElem? (l := wsL_law_r9) (i := 10) rfl)), List.forall_mem_cons.mpr ⟨(inLr9 (List.mem_of_getElem? (l := wsL_law_r9) (i := 11) rfl)), List.forall_mem_cons.mpr ⟨(inLr2 (List.mem_of_getElem? (l := wsL_law_r2) (i := 7) rfl)), List.forall_mem_cons.mpr ⟨(inLr9 (List.mem_of_getElem? (l := wsL_law_r9) (i := 12) rfl)), List.forall_mem_cons.mpr ⟨(inLr3 (List.mem_of_getElem? (l := wsL_law_r3) (i := 7) rfl)), List.forall_mem_cons.mpr ⟨(inLr3 (List.mem_of_getElem? (l := wsL_law_r3) (i := 5) rfl)), List.forall_mem_cons.mpr ⟨(inLr3 (List.mem_of_getElem? (l := wsL_law_r3) (i := 6) rfl)), List.forall_mem_cons.mpr ⟨(inLr9 (List.mem_of_getElem? (l := wsL_law_r9) (i := 13) rfl)), List.forall_mem_cons.mpr ⟨(inLr9 (List.mem_of_getElem? (l := wsL_law_r9) (i := 14) rfl)), List.forall_mem_cons.mpr ⟨(inLr5 (List.mem_of_getElem? (l := wsL_law_r5) (i := 10) rfl)), List.forall_mem_cons.mpr ⟨(inLr9 (List.mem_of_getElem? (l := wsL_law_r9) (i := 15) rfl)), List.forall_mem_cons.mpr ⟨(inLr9 (List.mem_of_getElem? (l := wsL_law_r9) (i := 16) rfl)), List.forall_mem_cons.mpr ⟨(inLr9 (List.mem_of_getElem? (l := wsL_law_r9) (i := 6) rfl)), List.forall_mem_cons.mpr ⟨(inLr9 (List.mem_of_getElem? (l := wsL_law_r9) (i := 7) rfl)), List.forall_mem_cons.mpr ⟨(inLr9 (List.mem_of_getElem? (l := wsL_law_r9) (i := 17) rfl)), List.forall_mem_cons.mpr ⟨(inLr9 (List.mem_of_getElem? (l := wsL_law_r9) (i := 0) rfl)), fun _ h => absurd h List.not_mem_nil⟩⟩⟩⟩⟩⟩⟩⟩⟩⟩⟩⟩⟩⟩⟩⟩⟩⟩⟩⟩⟩⟩⟩⟩
theorem wiL_areTold_4 : ∀ w ∈ wsL_areTold_r4, w ∈ wsL_law := List.forall_mem_cons.mpr ⟨(inLr9 (List.mem_of_getElem? (l := wsL_law_r9) (i := 1) rfl)), List.forall_mem_cons.mpr ⟨(inLr9 (List.mem_of_getElem? (l := wsL_law_r9) (i := 18) rfl)), List.forall_mem_cons.mpr ⟨(inLr9 (List.mem_of_getElem? (l := wsL_law_r9) (i := 3) rfl)), List.forall_mem_cons.mpr ⟨(inLr9 (List.mem_of_getElem? (l := wsL_law_r9) (i := 4) rfl)), List.forall_mem_cons.mpr ⟨(inLr13 (List.mem_of_getElem? (l := wsL_law_r13) (i := 5) rfl)), List.forall_mem_cons.mpr ⟨(inLr13 (List.mem_of_getElem? (l := wsL_law_r13) (i := 6) rfl)), List.forall_mem_cons.mpr ⟨(inLr13 (List.mem_of_getElem? (l := wsL_law_r13) (i := 7) rfl)), List.forall_mem_cons.mpr ⟨(inLr13 (List.mem_of_getElem? (l := wsL_law_r13) (i := 8) rfl)), List.forall_mem_cons.mpr ⟨(inLr2 (List.mem_of_getElem? (l := wsL_law_r2) (i := 17) rfl)), List.forall_mem_cons.mpr ⟨(inLr17 (List.mem_of_getElem? (l := wsL_law_r17) (i := 14) rfl)), List.forall_mem_cons.mpr ⟨(inLr17 (List.mem_of_getElem? (l := wsL_law_r17) (i := 15) rfl)), List.forall_mem_cons.mpr ⟨(inLr17 (List.mem_of_getElem? (l := wsL_law_r17) (i := 16) rfl)), List.forall_mem_cons.mpr ⟨(inLr17 (List.mem_of_getElem? (l := wsL_law_r17) (i := 17) rfl)), List.forall_mem_cons.mpr ⟨(inLr17 (List.mem_of_getElem? (l := wsL_law_r17) (i := 18) rfl)), List.forall_mem_cons.mpr ⟨(inLr17 (List.mem_of_getElem? (l := wsL_law_r17) (i := 19) rfl)), List.forall_mem_cons.mpr ⟨(inLr11 (List.mem_of_getElem? (l := wsL_law_r11) (i := 18) rfl)), List.forall_mem_cons.mpr ⟨(inLr11 (List.mem_of_getElem? (l := wsL_law_r11) (i := 19) rfl)), List.forall_mem_cons.mpr ⟨(inLr11 (List.mem_of_getElem? (l := wsL_law_r11) (i := 20) rfl)), List.forall_mem_cons.mpr ⟨(inLr11 (List.mem_of_getElem? (l := wsL_law_r11) (i := 21) rfl)), List.forall_mem_cons.mpr ⟨(inLr17 (List.mem_of_getElem? (l := wsL_law_r17) (i := 3) rfl)), List.forall_mem_cons.mpr ⟨(inLr17 (List.mem_of_getElem? (l := wsL_law_r17) (i := 4) rfl)), List.forall_mem_cons.mpr ⟨(inLr17 (List.mem_of_getElem? (l := wsL_law_r17) (i := 5) rfl)), List.forall_mem_cons.mpr ⟨(inLr17 (List.mem_of_getElem? (l := wsL_law_r17) (i := 20) rfl)), List.forall_mem_cons.mpr ⟨(inLr17 (List.mem_of_getElem? (l := wsL_law_r17) (i := 21) rfl)), fun _ h => absurd h List.not_mem_nil⟩⟩⟩⟩⟩⟩⟩⟩⟩⟩⟩⟩⟩⟩⟩⟩⟩⟩⟩⟩⟩⟩⟩⟩
theorem wiL_areTold_5 : ∀ w ∈ wsL_areTold_r5, w ∈ wsL_law := List.forall_mem_cons.mpr ⟨(inLr17 (List.mem_of_getElem? (l := wsL_law_r17) (i := 22) rfl)), List.forall_mem_cons.mpr ⟨(inLr17 (List.mem_of_getElem? (l := wsL_law_r17) (i := 23) rfl)), List.forall_mem_cons.mpr ⟨(inLr12 (List.mem_of_getElem? (l := wsL_law_r12) (i := 2) rfl)), List.forall_mem_cons.mpr ⟨(inLr4 (List.mem_of_getElem? (l := wsL_law_r4) (i := 23) rfl)), List.forall_mem_cons.mpr ⟨(inLr5 (List.mem_of_getElem? (l := wsL_law_r5) (i := 0) rfl)), List.forall_mem_cons.mpr ⟨(inLr4 (List.mem_of_getElem? (l := wsL_law_r4) (i := 17) rfl)), List.forall_mem_cons.mpr ⟨(inLr5 (List.mem_of_getElem? (l := wsL_law_r5) (i := 1) rfl)), List.forall_mem_cons.mpr ⟨(inLr7 (List.mem_of_getElem? (l := wsL_law_r7) (i := 5) rfl)), List.forall_mem_cons.mpr ⟨(inLr7 (List.mem_of_getElem? (l := wsL_law_r7) (i := 6) rfl)), List.forall_mem_cons.mpr ⟨(inLr7 (List.mem_of_getElem? (l := wsL_law_r7) (i := 7) rfl)), List.forall_mem_cons.mpr ⟨(inLr18 (List.mem_of_getElem? (l := wsL_law_r18) (i := 0) rfl)), List.forall_mem_cons.mpr ⟨(inLr18 (List.mem_of_getElem? (l := wsL_law_r18) (i := 1) rfl)), List.forall_mem_cons.mpr ⟨(inLr18 (List.mem_of_getElem? (l := wsL_law_r18) (i := 2) rfl)), List.forall_mem_cons.mpr ⟨(inLr18 (List.mem_of_getElem? (l := wsL_law_r18) (i := 3) rfl)), List.forall_mem_cons.mpr ⟨(inLr5 (List.mem_of_getElem? (l := wsL_law_r5) (i := 8) rfl)), List.forall_mem_cons.mpr ⟨(inLr5 (List.mem_of_getElem? (l := wsL_law_r5) (i := 9) rfl)), List.forall_mem_cons.mpr ⟨(inLr5 (List.mem_of_getElem? (l := wsL_law_r5) (i := 11) rfl)), List.forall_mem_cons.mpr ⟨(inLr6 (List.mem_of_getElem? (l := wsL_law_r6) (i := 15) rfl)), List.forall_mem_cons.mpr ⟨(inLr6 (List.mem_of_getElem? (l := wsL_law_r6) (i := 16) rfl)), List.forall_mem_cons.mpr ⟨(inLr6 (List.mem_of_getElem? (l := wsL_law_r6) (i := 17) rfl)), List.forall_mem_cons.mpr ⟨(inLr18 (List.mem_of_getElem? (l := wsL_law_r18) (i := 4) rfl)), List.forall_mem_cons.mpr ⟨(inLr8 (List.mem_of_getElem? (l := wsL_law_r8) (i := 13) rfl)), List.forall_mem_cons.mpr ⟨(inLr8 (List.mem_of_getElem? (l := wsL_law_r8) (i := 14) rfl)), List.forall_mem_cons.mpr ⟨(inLr8 (List.mem_of_getElem? (l := wsL_law_r8) (i := 15) rfl)), fun _ h => absurd h List.not_mem_nil⟩⟩⟩⟩⟩⟩⟩⟩⟩⟩⟩⟩⟩⟩⟩⟩⟩⟩⟩⟩⟩⟩⟩⟩
theorem wiL_areTold_6 : ∀ w ∈ wsL_areTold_r6, w ∈ wsL_law := List.forall_mem_cons.mpr ⟨(inLr8 (List.mem_of_getElem? (l := wsL_law_r8) (i := 16) rfl)), List.forall_mem_cons.mpr ⟨(inLr8 (List.mem_of_getElem? (l := wsL_law_r8) (i := 17) rfl)), List.forall_mem_cons.mpr ⟨(inLr8 (List.mem_of_getElem? (l := wsL_law_r8) (i := 18) rfl)), List.forall_mem_cons.mpr ⟨(inLr8 (List.mem_of_getElem? (l := wsL_law_r8) (i := 19) rfl)), List.forall_mem_cons.mpr ⟨(inLr8 (List.mem_of_getElem? (l := wsL_law_r8) (i := 20) rfl)), List.forall_mem_cons.mpr ⟨(inLr8 (List.mem_of_getElem? (l := wsL_law_r8) (i := 21) rfl)), List.forall_mem_cons.mpr ⟨(inLr8 (List.mem_of_getElem? (l := wsL_law_r8) (i := 22) rfl)), List.forall_mem_cons.mpr ⟨(inLr8 (List.mem_of_getElem? (l := wsL_law_r8) (i := 23) rfl)), List.forall_mem_cons.mpr ⟨(inLr9 (List.mem_of_getElem? (l := wsL_law_r9) (i := 2) rfl)), List.forall_mem_cons.mpr ⟨(inLr9 (List.mem_of_getElem? (l := wsL_law_r9) (i := 5) rfl)), List.forall_mem_cons.mpr ⟨(inLr9 (List.mem_of_getElem? (l := wsL_law_r9) (i := 8) rfl)), List.forall_mem_cons.mpr ⟨(inLr18 (List.mem_of_getElem? (l := wsL_law_r18) (i := 5) rfl)), List.forall_mem_cons.mpr ⟨(inLr7 (List.mem_of_getElem? (l := wsL_law_r7) (i := 11) rfl)), List.forall_mem_cons.mpr ⟨(inLr7 (List.mem_of_getElem? (l := wsL_law_r7) (i := 12) rfl)), List.forall_mem_cons.mpr ⟨(inLr7 (List.mem_of_getElem? (l := wsL_law_r7) (i := 13) rfl)), List.forall_mem_cons.mpr ⟨(inLr18 (List.mem_of_getElem? (l := wsL_law_r18) (i := 6) rfl)), List.forall_mem_cons.mpr ⟨(inLr18 (List.mem_of_getElem? (l := wsL_law_r18) (i := 7) rfl)), List.forall_mem_cons.mpr ⟨(inLr18 (List.mem_of_getElem? (l := wsL_law_r18) (i := 8) rfl)), List.forall_mem_cons.mpr ⟨(inLr18 (List.mem_of_getElem? (l := wsL_law_r18) (i := 9) rfl)), List.forall_mem_cons.mpr ⟨(inLr18 (List.mem_of_getElem? (l := wsL_law_r18) (i := 10) rfl)), List.forall_mem_cons.mpr ⟨(inLr18 (List.mem_of_getElem? (l := wsL_law_r18) (i := 11) rfl)), List.forall_mem_cons.mpr ⟨(inLr18 (List.mem_of_getElem? (l := wsL_law_r18) (i := 12) rfl)), List.forall_mem_cons.mpr ⟨(inLr18 (List.mem_of_getElem? (l := wsL_law_r18) (i := 13) rfl)), List.forall_mem_cons.mpr ⟨(inLr18 (List.mem_of_getElem? (l := wsL_law_r18) (i := 14) rfl)), fun _ h => absurd h List.not_mem_nil⟩⟩⟩⟩⟩⟩⟩⟩⟩⟩⟩⟩⟩⟩⟩⟩⟩⟩⟩⟩⟩⟩⟩⟩
theorem wiL_areTold_7 : ∀ w ∈ wsL_areTold_r7, w ∈ wsL_law := List.forall_mem_cons.mpr ⟨(inLr7 (List.mem_of_getElem? (l := wsL_law_r7) (i := 8) rfl)), List.forall_mem_cons.mpr ⟨(inLr7 (List.mem_of_getElem? (l := wsL_law_r7) (i := 9) rfl)), List.forall_mem_cons.mpr ⟨(inLr7 (List.mem_of_getElem? (l := wsL_law_r7) (i := 10) rfl)), fun _ h => absurd h List.not_mem_nil⟩⟩⟩
theorem ggL_law_L_areTold : GoodIn wsL_law wsL_areTold := goodIn_sub (List.forall_mem_cons.mpr ⟨(inLr17 (List.mem_of_getElem? (l := wsL_law_r17) (i := 13) rfl)), List.forall_mem_append.mpr ⟨List.forall_mem_append.mpr ⟨List.forall_mem_append.mpr ⟨List.forall_mem_append.mpr ⟨List.forall_mem_append.mpr ⟨List.forall_mem_append.mpr ⟨List.forall_mem_append.mpr ⟨List.forall_mem_append.mpr ⟨wiL_areTold_1, List.forall_mem_append.mpr ⟨wiL_areTold_2, List.forall_mem_append.mpr ⟨wiL_areTold_3, List.forall_mem_append.mpr ⟨wiL_areTold_4, List.forall_mem_append.mpr ⟨wiL_areTold_5, List.forall_mem_append.mpr ⟨wiL_areTold_6, wiL_areTold_7⟩⟩⟩⟩⟩⟩, inlX7⟩, inlX5⟩, inlX1⟩, inlX4⟩, inlX3⟩, inlX0⟩, inlX2⟩⟩) (by decide +kernel)
set_option maxRecDepth 20000 in
theorem gL_law_L_areTold : GoodIn wsL_law (va_wsS RL 110 yL_areTold wsL_areTold) := goodIn_app (goodIn_of _ (by decide +kernel)) ggL_law_L_areTold
theorem dL_law_0 : decode cL_law 0 = .ok (.new 28, 3) := by decide +kernel
theorem dL_law_3 : decode cL_law 3 = .ok (.dup, 1) := by decide +kernel
theorem dL_law_4 : decode cL_law 4 = .ok (.invokespecial 94, 3) := by decide +kernel
theorem dL_law_7 : decode cL_law 7 = .ok (.astore_n 1, 1) := by decide +kernel
theorem dL_law_8 : decode cL_law 8 = .ok (.bipush 48, 2) := by decide +kernel
theorem dL_law_10 : decode cL_law 10 = .ok (.newarray .int, 2) := by decide +kernel
theorem dL_law_12 : decode cL_law 12 = .ok (.astore_n 2, 1) := by decide +kernel
theorem dL_law_13 : decode cL_law 13 = .ok (.bipush 60, 2) := by decide +kernel
theorem dL_law_15 : decode cL_law 15 = .ok (.newarray .int, 2) := by decide +kernel
theorem dL_law_17 : decode cL_law 17 = .ok (.astore_n 3, 1) := by decide +kernel
theorem dL_law_18 : decode cL_law 18 = .ok (.bipush 16, 2) := by decide +kernel
theorem dL_law_20 : decode cL_law 20 = .ok (.newarray .int, 2) := by decide +kernel
theorem dL_law_22 : decode cL_law 22 = .ok (.astore 4, 2) := by decide +kernel
theorem dL_law_24 : decode cL_law 24 = .ok (.bipush 36, 2) := by decide +kernel
theorem dL_law_26 : decode cL_law 26 = .ok (.newarray .int, 2) := by decide +kernel
theorem dL_law_28 : decode cL_law 28 = .ok (.astore 5, 2) := by decide +kernel
theorem dL_law_30 : decode cL_law 30 = .ok (.bipush 64, 2) := by decide +kernel
theorem dL_law_32 : decode cL_law 32 = .ok (.newarray .int, 2) := by decide +kernel
theorem dL_law_34 : decode cL_law 34 = .ok (.astore 6, 2) := by decide +kernel
theorem dL_law_36 : decode cL_law 36 = .ok (.aload 4, 2) := by decide +kernel
theorem dL_law_38 : decode cL_law 38 = .ok (.bipush 6, 2) := by decide +kernel
theorem dL_law_40 : decode cL_law 40 = .ok (.iconst 1, 1) := by decide +kernel
theorem dL_law_41 : decode cL_law 41 = .ok (.iastore, 1) := by decide +kernel
theorem dL_law_42 : decode cL_law 42 = .ok (.aload 4, 2) := by decide +kernel
theorem dL_law_44 : decode cL_law 44 = .ok (.bipush 7, 2) := by decide +kernel
theorem dL_law_46 : decode cL_law 46 = .ok (.bipush 10, 2) := by decide +kernel
theorem dL_law_48 : decode cL_law 48 = .ok (.iastore, 1) := by decide +kernel
theorem dL_law_49 : decode cL_law 49 = .ok (.aload 4, 2) := by decide +kernel
theorem dL_law_51 : decode cL_law 51 = .ok (.bipush 8, 2) := by decide +kernel
theorem dL_law_53 : decode cL_law 53 = .ok (.bipush 15, 2) := by decide +kernel
theorem dL_law_55 : decode cL_law 55 = .ok (.iastore, 1) := by decide +kernel
theorem dL_law_56 : decode cL_law 56 = .ok (.iconst 0, 1) := by decide +kernel
theorem dL_law_57 : decode cL_law 57 = .ok (.istore 7, 2) := by decide +kernel
theorem dL_law_59 : decode cL_law 59 = .ok (.iload 7, 2) := by decide +kernel
theorem dL_law_61 : decode cL_law 61 = .ok (.bipush 60, 2) := by decide +kernel
theorem dL_law_63 : decode cL_law 63 = .ok (.if_icmp .ge 105, 3) := by decide +kernel
theorem dL_law_66 : decode cL_law 66 = .ok (.aload_n 0, 1) := by decide +kernel
theorem dL_law_67 : decode cL_law 67 = .ok (.iload 7, 2) := by decide +kernel
theorem dL_law_69 : decode cL_law 69 = .ok (.invokestatic 95, 3) := by decide +kernel
theorem dL_law_72 : decode cL_law 72 = .ok (.ldc 8, 2) := by decide +kernel
theorem dL_law_74 : decode cL_law 74 = .ok (.iand, 1) := by decide +kernel
theorem dL_law_75 : decode cL_law 75 = .ok (.istore 8, 2) := by decide +kernel
theorem dL_law_77 : decode cL_law 77 = .ok (.aload_n 1, 1) := by decide +kernel
theorem dL_law_78 : decode cL_law 78 = .ok (.aload_n 2, 1) := by decide +kernel
theorem dL_law_79 : decode cL_law 79 = .ok (.aload_n 3, 1) := by decide +kernel
theorem dL_law_80 : decode cL_law 80 = .ok (.aload 4, 2) := by decide +kernel
theorem dL_law_82 : decode cL_law 82 = .ok (.aload 5, 2) := by decide +kernel
theorem dL_law_84 : decode cL_law 84 = .ok (.aload 6, 2) := by decide +kernel
theorem dL_law_86 : decode cL_law 86 = .ok (.iload 7, 2) := by decide +kernel
theorem dL_law_88 : decode cL_law 88 = .ok (.bipush 6, 2) := by decide +kernel
theorem dL_law_90 : decode cL_law 90 = .ok (.if_icmp .ge 13, 3) := by decide +kernel
theorem dL_law_93 : decode cL_law 93 = .ok (.bipush 8, 2) := by decide +kernel
theorem dL_law_95 : decode cL_law 95 = .ok (.iload 8, 2) := by decide +kernel
theorem dL_law_97 : decode cL_law 97 = .ok (.iconst 3, 1) := by decide +kernel
theorem dL_law_98 : decode cL_law 98 = .ok (.irem, 1) := by decide +kernel
theorem dL_law_99 : decode cL_law 99 = .ok (.iadd, 1) := by decide +kernel
theorem dL_law_100 : decode cL_law 100 = .ok (.goto 8, 3) := by decide +kernel
theorem dL_law_103 : decode cL_law 103 = .ok (.iload 8, 2) := by decide +kernel
theorem dL_law_105 : decode cL_law 105 = .ok (.bipush 17, 2) := by decide +kernel
theorem dL_law_107 : decode cL_law 107 = .ok (.irem, 1) := by decide +kernel
theorem dL_law_108 : decode cL_law 108 = .ok (.iload 8, 2) := by decide +kernel
theorem dL_law_110 : decode cL_law 110 = .ok (.bipush 17, 2) := by decide +kernel
theorem dL_law_112 : decode cL_law 112 = .ok (.idiv, 1) := by decide +kernel
theorem dL_law_113 : decode cL_law 113 = .ok (.invokestatic 98, 3) := by decide +kernel
theorem dL_law_116 : decode cL_law 116 = .ok (.ifCond .eq 44, 3) := by decide +kernel
theorem dL_law_119 : decode cL_law 119 = .ok (.aload_n 1, 1) := by decide +kernel
theorem dL_law_120 : decode cL_law 120 = .ok (.aload_n 2, 1) := by decide +kernel
theorem dL_law_121 : decode cL_law 121 = .ok (.aload 4, 2) := by decide +kernel
theorem dL_law_123 : decode cL_law 123 = .ok (.aload 5, 2) := by decide +kernel
theorem dL_law_125 : decode cL_law 125 = .ok (.invokestatic 102, 3) := by decide +kernel
theorem dL_law_128 : decode cL_law 128 = .ok (.ifCond .eq 32, 3) := by decide +kernel
theorem dL_law_131 : decode cL_law 131 = .ok (.aload_n 1, 1) := by decide +kernel
theorem dL_law_132 : decode cL_law 132 = .ok (.aload_n 3, 1) := by decide +kernel
theorem dL_law_133 : decode cL_law 133 = .ok (.aload 4, 2) := by decide +kernel
theorem dL_law_135 : decode cL_law 135 = .ok (.aload 5, 2) := by decide +kernel
theorem dL_law_137 : decode cL_law 137 = .ok (.aload 6, 2) := by decide +kernel
theorem dL_law_139 : decode cL_law 139 = .ok (.invokestatic 106, 3) := by decide +kernel
theorem dL_law_142 : decode cL_law 142 = .ok (.ifCond .eq 18, 3) := by decide +kernel
theorem dL_law_145 : decode cL_law 145 = .ok (.aload_n 1, 1) := by decide +kernel
theorem dL_law_146 : decode cL_law 146 = .ok (.aload 4, 2) := by decide +kernel
theorem dL_law_148 : decode cL_law 148 = .ok (.aload 5, 2) := by decide +kernel
theorem dL_law_150 : decode cL_law 150 = .ok (.iload 8, 2) := by decide +kernel
theorem dL_law_152 : decode cL_law 152 = .ok (.iconst 3, 1) := by decide +kernel
theorem dL_law_153 : decode cL_law 153 = .ok (.idiv, 1) := by decide +kernel
theorem dL_law_154 : decode cL_law 154 = .ok (.invokestatic 110, 3) := by decide +kernel
theorem dL_law_157 : decode cL_law 157 = .ok (.ifCond .ne 5, 3) := by decide +kernel
theorem dL_law_160 : decode cL_law 160 = .ok (.iconst 0, 1) := by decide +kernel
theorem dL_law_161 : decode cL_law 161 = .ok (.ireturn, 1) := by decide +kernel
theorem dL_law_162 : decode cL_law 162 = .ok (.iinc 7 1, 3) := by decide +kernel
theorem dL_law_165 : decode cL_law 165 = .ok (.goto (-106), 3) := by decide +kernel
theorem dL_law_168 : decode cL_law 168 = .ok (.iconst 1, 1) := by decide +kernel
theorem dL_law_169 : decode cL_law 169 = .ok (.ireturn, 1) := by decide +kernel
