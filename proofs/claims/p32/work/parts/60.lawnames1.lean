theorem dL_far_0 : decode cL_far 0 = .ok (.iload_n 0, 1) := by decide +kernel
theorem dL_far_1 : decode cL_far 1 = .ok (.bipush 8, 2) := by decide +kernel
theorem dL_far_3 : decode cL_far 3 = .ok (.idiv, 1) := by decide +kernel
theorem dL_far_4 : decode cL_far 4 = .ok (.iload_n 1, 1) := by decide +kernel
theorem dL_far_5 : decode cL_far 5 = .ok (.bipush 8, 2) := by decide +kernel
theorem dL_far_7 : decode cL_far 7 = .ok (.idiv, 1) := by decide +kernel
theorem dL_far_8 : decode cL_far 8 = .ok (.isub, 1) := by decide +kernel
theorem dL_far_9 : decode cL_far 9 = .ok (.istore_n 2, 1) := by decide +kernel
theorem dL_far_10 : decode cL_far 10 = .ok (.iload_n 0, 1) := by decide +kernel
theorem dL_far_11 : decode cL_far 11 = .ok (.bipush 8, 2) := by decide +kernel
theorem dL_far_13 : decode cL_far 13 = .ok (.irem, 1) := by decide +kernel
theorem dL_far_14 : decode cL_far 14 = .ok (.iload_n 1, 1) := by decide +kernel
theorem dL_far_15 : decode cL_far 15 = .ok (.bipush 8, 2) := by decide +kernel
theorem dL_far_17 : decode cL_far 17 = .ok (.irem, 1) := by decide +kernel
theorem dL_far_18 : decode cL_far 18 = .ok (.isub, 1) := by decide +kernel
theorem dL_far_19 : decode cL_far 19 = .ok (.istore_n 3, 1) := by decide +kernel
theorem dL_far_20 : decode cL_far 20 = .ok (.iload_n 2, 1) := by decide +kernel
theorem dL_far_21 : decode cL_far 21 = .ok (.ifCond .ge 8, 3) := by decide +kernel
theorem dL_far_24 : decode cL_far 24 = .ok (.iload_n 2, 1) := by decide +kernel
theorem dL_far_25 : decode cL_far 25 = .ok (.ineg, 1) := by decide +kernel
theorem dL_far_26 : decode cL_far 26 = .ok (.goto 4, 3) := by decide +kernel
theorem dL_far_29 : decode cL_far 29 = .ok (.iload_n 2, 1) := by decide +kernel
theorem dL_far_30 : decode cL_far 30 = .ok (.iload_n 3, 1) := by decide +kernel
theorem dL_far_31 : decode cL_far 31 = .ok (.ifCond .ge 8, 3) := by decide +kernel
theorem dL_far_34 : decode cL_far 34 = .ok (.iload_n 3, 1) := by decide +kernel
theorem dL_far_35 : decode cL_far 35 = .ok (.ineg, 1) := by decide +kernel
theorem dL_far_36 : decode cL_far 36 = .ok (.goto 4, 3) := by decide +kernel
theorem dL_far_39 : decode cL_far 39 = .ok (.iload_n 3, 1) := by decide +kernel
theorem dL_far_40 : decode cL_far 40 = .ok (.iadd, 1) := by decide +kernel
theorem dL_far_41 : decode cL_far 41 = .ok (.ireturn, 1) := by decide +kernel
set_option maxRecDepth 20000 in
theorem ggL_where_L_far : GoodIn wsL_where wsL_far := goodIn_r _ [5] (by decide +kernel) (by decide +kernel)
set_option maxRecDepth 20000 in
theorem gL_where_L_far : GoodIn wsL_where (va_wsS RL 7 yL_far wsL_far) := goodIn_app (goodIn_of _ (by decide +kernel)) ggL_where_L_far
theorem dL_where_0 : decode cL_where 0 = .ok (.lconst 0, 1) := by decide +kernel
theorem dL_where_1 : decode cL_where 1 = .ok (.lstore_n 2, 1) := by decide +kernel
theorem dL_where_2 : decode cL_where 2 = .ok (.iload_n 1, 1) := by decide +kernel
theorem dL_where_3 : decode cL_where 3 = .ok (.bipush 8, 2) := by decide +kernel
theorem dL_where_5 : decode cL_where 5 = .ok (.idiv, 1) := by decide +kernel
theorem dL_where_6 : decode cL_where 6 = .ok (.bipush 16, 2) := by decide +kernel
theorem dL_where_8 : decode cL_where 8 = .ok (.irem, 1) := by decide +kernel
theorem dL_where_9 : decode cL_where 9 = .ok (.istore 4, 2) := by decide +kernel
theorem dL_where_11 : decode cL_where 11 = .ok (.iconst 0, 1) := by decide +kernel
theorem dL_where_12 : decode cL_where 12 = .ok (.istore 5, 2) := by decide +kernel
theorem dL_where_14 : decode cL_where 14 = .ok (.iload 5, 2) := by decide +kernel
theorem dL_where_16 : decode cL_where 16 = .ok (.bipush 64, 2) := by decide +kernel
theorem dL_where_18 : decode cL_where 18 = .ok (.if_icmp .ge 195, 3) := by decide +kernel
theorem dL_where_21 : decode cL_where 21 = .ok (.iload_n 1, 1) := by decide +kernel
theorem dL_where_22 : decode cL_where 22 = .ok (.bipush 8, 2) := by decide +kernel
theorem dL_where_24 : decode cL_where 24 = .ok (.irem, 1) := by decide +kernel
theorem dL_where_25 : decode cL_where 25 = .ok (.ifCond .ne 11, 3) := by decide +kernel
theorem dL_where_28 : decode cL_where 28 = .ok (.iload 5, 2) := by decide +kernel
theorem dL_where_30 : decode cL_where 30 = .ok (.bipush 8, 2) := by decide +kernel
theorem dL_where_32 : decode cL_where 32 = .ok (.idiv, 1) := by decide +kernel
theorem dL_where_33 : decode cL_where 33 = .ok (.goto 62, 3) := by decide +kernel
theorem dL_where_36 : decode cL_where 36 = .ok (.iload_n 1, 1) := by decide +kernel
theorem dL_where_37 : decode cL_where 37 = .ok (.bipush 8, 2) := by decide +kernel
theorem dL_where_39 : decode cL_where 39 = .ok (.irem, 1) := by decide +kernel
theorem dL_where_40 : decode cL_where 40 = .ok (.iconst 1, 1) := by decide +kernel
theorem dL_where_41 : decode cL_where 41 = .ok (.if_icmp .ne 11, 3) := by decide +kernel
theorem dL_where_44 : decode cL_where 44 = .ok (.iload 5, 2) := by decide +kernel
theorem dL_where_46 : decode cL_where 46 = .ok (.bipush 8, 2) := by decide +kernel
theorem dL_where_48 : decode cL_where 48 = .ok (.irem, 1) := by decide +kernel
theorem dL_where_49 : decode cL_where 49 = .ok (.goto 46, 3) := by decide +kernel
theorem dL_where_52 : decode cL_where 52 = .ok (.iload_n 1, 1) := by decide +kernel
theorem dL_where_53 : decode cL_where 53 = .ok (.bipush 8, 2) := by decide +kernel
theorem dL_where_55 : decode cL_where 55 = .ok (.irem, 1) := by decide +kernel
theorem dL_where_56 : decode cL_where 56 = .ok (.iconst 2, 1) := by decide +kernel
theorem dL_where_57 : decode cL_where 57 = .ok (.if_icmp .ne 13, 3) := by decide +kernel
theorem dL_where_60 : decode cL_where 60 = .ok (.bipush 9, 2) := by decide +kernel
theorem dL_where_62 : decode cL_where 62 = .ok (.aload_n 0, 1) := by decide +kernel
theorem dL_where_63 : decode cL_where 63 = .ok (.iload 5, 2) := by decide +kernel
theorem dL_where_65 : decode cL_where 65 = .ok (.iaload, 1) := by decide +kernel
theorem dL_where_66 : decode cL_where 66 = .ok (.isub, 1) := by decide +kernel
theorem dL_where_67 : decode cL_where 67 = .ok (.goto 28, 3) := by decide +kernel
theorem dL_where_70 : decode cL_where 70 = .ok (.iload_n 1, 1) := by decide +kernel
theorem dL_where_71 : decode cL_where 71 = .ok (.bipush 8, 2) := by decide +kernel
theorem dL_where_73 : decode cL_where 73 = .ok (.irem, 1) := by decide +kernel
theorem dL_where_74 : decode cL_where 74 = .ok (.iconst 3, 1) := by decide +kernel
theorem dL_where_75 : decode cL_where 75 = .ok (.if_icmp .ne 19, 3) := by decide +kernel
theorem dL_where_78 : decode cL_where 78 = .ok (.iload 5, 2) := by decide +kernel
theorem dL_where_80 : decode cL_where 80 = .ok (.iload_n 1, 1) := by decide +kernel
theorem dL_where_81 : decode cL_where 81 = .ok (.sipush 128, 3) := by decide +kernel
theorem dL_where_84 : decode cL_where 84 = .ok (.idiv, 1) := by decide +kernel
theorem dL_where_85 : decode cL_where 85 = .ok (.bipush 64, 2) := by decide +kernel
theorem dL_where_87 : decode cL_where 87 = .ok (.irem, 1) := by decide +kernel
theorem dL_where_88 : decode cL_where 88 = .ok (.invokestatic 7, 3) := by decide +kernel
theorem dL_where_91 : decode cL_where 91 = .ok (.goto 4, 3) := by decide +kernel
theorem dL_where_94 : decode cL_where 94 = .ok (.iconst 0, 1) := by decide +kernel
theorem dL_where_95 : decode cL_where 95 = .ok (.istore 6, 2) := by decide +kernel
theorem dL_where_97 : decode cL_where 97 = .ok (.iload_n 1, 1) := by decide +kernel
theorem dL_where_98 : decode cL_where 98 = .ok (.bipush 8, 2) := by decide +kernel
theorem dL_where_100 : decode cL_where 100 = .ok (.irem, 1) := by decide +kernel
theorem dL_where_101 : decode cL_where 101 = .ok (.iconst 2, 1) := by decide +kernel
theorem dL_where_102 : decode cL_where 102 = .ok (.if_icmp .ge 18, 3) := by decide +kernel
theorem dL_where_105 : decode cL_where 105 = .ok (.iload 6, 2) := by decide +kernel
theorem dL_where_107 : decode cL_where 107 = .ok (.iload 4, 2) := by decide +kernel
theorem dL_where_109 : decode cL_where 109 = .ok (.if_icmp .ge 7, 3) := by decide +kernel
theorem dL_where_112 : decode cL_where 112 = .ok (.iconst 1, 1) := by decide +kernel
theorem dL_where_113 : decode cL_where 113 = .ok (.goto 76, 3) := by decide +kernel
theorem dL_where_116 : decode cL_where 116 = .ok (.iconst 0, 1) := by decide +kernel
theorem dL_where_117 : decode cL_where 117 = .ok (.goto 72, 3) := by decide +kernel
theorem dL_where_120 : decode cL_where 120 = .ok (.iload_n 1, 1) := by decide +kernel
theorem dL_where_121 : decode cL_where 121 = .ok (.bipush 8, 2) := by decide +kernel
theorem dL_where_123 : decode cL_where 123 = .ok (.irem, 1) := by decide +kernel
theorem dL_where_124 : decode cL_where 124 = .ok (.iconst 2, 1) := by decide +kernel
theorem dL_where_125 : decode cL_where 125 = .ok (.if_icmp .ne 21, 3) := by decide +kernel
theorem dL_where_128 : decode cL_where 128 = .ok (.iload 6, 2) := by decide +kernel
theorem dL_where_130 : decode cL_where 130 = .ok (.bipush 9, 2) := by decide +kernel
theorem dL_where_132 : decode cL_where 132 = .ok (.iload 4, 2) := by decide +kernel
theorem dL_where_134 : decode cL_where 134 = .ok (.isub, 1) := by decide +kernel
theorem dL_where_135 : decode cL_where 135 = .ok (.if_icmp .gt 7, 3) := by decide +kernel
theorem dL_where_138 : decode cL_where 138 = .ok (.iconst 1, 1) := by decide +kernel
theorem dL_where_139 : decode cL_where 139 = .ok (.goto 50, 3) := by decide +kernel
theorem dL_where_142 : decode cL_where 142 = .ok (.iconst 0, 1) := by decide +kernel
theorem dL_where_143 : decode cL_where 143 = .ok (.goto 46, 3) := by decide +kernel
theorem dL_where_146 : decode cL_where 146 = .ok (.iload_n 1, 1) := by decide +kernel
theorem dL_where_147 : decode cL_where 147 = .ok (.bipush 8, 2) := by decide +kernel
theorem dL_where_149 : decode cL_where 149 = .ok (.irem, 1) := by decide +kernel
theorem dL_where_150 : decode cL_where 150 = .ok (.iconst 3, 1) := by decide +kernel
theorem dL_where_151 : decode cL_where 151 = .ok (.if_icmp .ne 18, 3) := by decide +kernel
theorem dL_where_154 : decode cL_where 154 = .ok (.iload 6, 2) := by decide +kernel
theorem dL_where_156 : decode cL_where 156 = .ok (.iload 4, 2) := by decide +kernel
theorem dL_where_158 : decode cL_where 158 = .ok (.if_icmp .gt 7, 3) := by decide +kernel
theorem dL_where_161 : decode cL_where 161 = .ok (.iconst 1, 1) := by decide +kernel
theorem dL_where_162 : decode cL_where 162 = .ok (.goto 27, 3) := by decide +kernel
theorem dL_where_165 : decode cL_where 165 = .ok (.iconst 0, 1) := by decide +kernel
theorem dL_where_166 : decode cL_where 166 = .ok (.goto 23, 3) := by decide +kernel
theorem dL_where_169 : decode cL_where 169 = .ok (.iload 5, 2) := by decide +kernel
theorem dL_where_171 : decode cL_where 171 = .ok (.bipush 8, 2) := by decide +kernel
theorem dL_where_173 : decode cL_where 173 = .ok (.idiv, 1) := by decide +kernel
theorem dL_where_174 : decode cL_where 174 = .ok (.iload 5, 2) := by decide +kernel
theorem dL_where_176 : decode cL_where 176 = .ok (.iadd, 1) := by decide +kernel
theorem dL_where_177 : decode cL_where 177 = .ok (.iconst 2, 1) := by decide +kernel
theorem dL_where_178 : decode cL_where 178 = .ok (.irem, 1) := by decide +kernel
theorem dL_where_179 : decode cL_where 179 = .ok (.iload 4, 2) := by decide +kernel
theorem dL_where_181 : decode cL_where 181 = .ok (.if_icmp .ne 7, 3) := by decide +kernel
theorem dL_where_184 : decode cL_where 184 = .ok (.iconst 1, 1) := by decide +kernel
theorem dL_where_185 : decode cL_where 185 = .ok (.goto 4, 3) := by decide +kernel
theorem dL_where_188 : decode cL_where 188 = .ok (.iconst 0, 1) := by decide +kernel
theorem dL_where_189 : decode cL_where 189 = .ok (.istore 7, 2) := by decide +kernel
theorem dL_where_191 : decode cL_where 191 = .ok (.lload_n 2, 1) := by decide +kernel
theorem dL_where_192 : decode cL_where 192 = .ok (.iload 7, 2) := by decide +kernel
theorem dL_where_194 : decode cL_where 194 = .ok (.ifCond .eq 10, 3) := by decide +kernel
theorem dL_where_197 : decode cL_where 197 = .ok (.lconst 1, 1) := by decide +kernel
theorem dL_where_198 : decode cL_where 198 = .ok (.iload 5, 2) := by decide +kernel
theorem dL_where_200 : decode cL_where 200 = .ok (.lshl, 1) := by decide +kernel
theorem dL_where_201 : decode cL_where 201 = .ok (.goto 4, 3) := by decide +kernel
theorem dL_where_204 : decode cL_where 204 = .ok (.lconst 0, 1) := by decide +kernel
theorem dL_where_205 : decode cL_where 205 = .ok (.lor, 1) := by decide +kernel
theorem dL_where_206 : decode cL_where 206 = .ok (.lstore_n 2, 1) := by decide +kernel
theorem dL_where_207 : decode cL_where 207 = .ok (.iinc 5 1, 3) := by decide +kernel
theorem dL_where_210 : decode cL_where 210 = .ok (.goto (-196), 3) := by decide +kernel
theorem dL_where_213 : decode cL_where 213 = .ok (.iload_n 1, 1) := by decide +kernel
theorem dL_where_214 : decode cL_where 214 = .ok (.sipush 8191, 3) := by decide +kernel
theorem dL_where_217 : decode cL_where 217 = .ok (.if_icmp .le 11, 3) := by decide +kernel
theorem dL_where_220 : decode cL_where 220 = .ok (.lload_n 2, 1) := by decide +kernel
theorem dL_where_221 : decode cL_where 221 = .ok (.ldc2_w 13, 3) := by decide +kernel
theorem dL_where_224 : decode cL_where 224 = .ok (.lxor, 1) := by decide +kernel
theorem dL_where_225 : decode cL_where 225 = .ok (.goto 4, 3) := by decide +kernel
theorem dL_where_228 : decode cL_where 228 = .ok (.lload_n 2, 1) := by decide +kernel
theorem dL_where_229 : decode cL_where 229 = .ok (.lreturn, 1) := by decide +kernel
set_option maxRecDepth 20000 in
theorem ggL_all_L_where : GoodIn wsL_all wsL_where := goodIn_r _ [5, 1, 6, 7, 4, 8] (by decide +kernel) (by decide +kernel)
set_option maxRecDepth 20000 in
theorem gL_all_L_where : GoodIn wsL_all (va_wsS RL 15 yL_where wsL_where) := goodIn_app (goodIn_of _ (by decide +kernel)) ggL_all_L_where
theorem dL_all_0 : decode cL_all 0 = .ok (.ldc2_w 13, 3) := by decide +kernel
theorem dL_all_3 : decode cL_all 3 = .ok (.lstore 5, 2) := by decide +kernel
theorem dL_all_5 : decode cL_all 5 = .ok (.iconst 0, 1) := by decide +kernel
theorem dL_all_6 : decode cL_all 6 = .ok (.istore 7, 2) := by decide +kernel
theorem dL_all_8 : decode cL_all 8 = .ok (.iload 7, 2) := by decide +kernel
theorem dL_all_10 : decode cL_all 10 = .ok (.aload_n 2, 1) := by decide +kernel
theorem dL_all_11 : decode cL_all 11 = .ok (.iload_n 3, 1) := by decide +kernel
theorem dL_all_12 : decode cL_all 12 = .ok (.iaload, 1) := by decide +kernel
theorem dL_all_13 : decode cL_all 13 = .ok (.if_icmp .ge 39, 3) := by decide +kernel
theorem dL_all_16 : decode cL_all 16 = .ok (.lload 5, 2) := by decide +kernel
theorem dL_all_18 : decode cL_all 18 = .ok (.iload 7, 2) := by decide +kernel
theorem dL_all_20 : decode cL_all 20 = .ok (.iload 4, 2) := by decide +kernel
theorem dL_all_22 : decode cL_all 22 = .ok (.if_icmp .ne 9, 3) := by decide +kernel
theorem dL_all_25 : decode cL_all 25 = .ok (.ldc2_w 13, 3) := by decide +kernel
theorem dL_all_28 : decode cL_all 28 = .ok (.goto 15, 3) := by decide +kernel
theorem dL_all_31 : decode cL_all 31 = .ok (.aload_n 0, 1) := by decide +kernel
theorem dL_all_32 : decode cL_all 32 = .ok (.aload_n 1, 1) := by decide +kernel
theorem dL_all_33 : decode cL_all 33 = .ok (.iconst 5, 1) := by decide +kernel
theorem dL_all_34 : decode cL_all 34 = .ok (.iload_n 3, 1) := by decide +kernel
theorem dL_all_35 : decode cL_all 35 = .ok (.imul, 1) := by decide +kernel
theorem dL_all_36 : decode cL_all 36 = .ok (.iload 7, 2) := by decide +kernel
theorem dL_all_38 : decode cL_all 38 = .ok (.iadd, 1) := by decide +kernel
theorem dL_all_39 : decode cL_all 39 = .ok (.iaload, 1) := by decide +kernel
theorem dL_all_40 : decode cL_all 40 = .ok (.invokestatic 15, 3) := by decide +kernel
theorem dL_all_43 : decode cL_all 43 = .ok (.land, 1) := by decide +kernel
theorem dL_all_44 : decode cL_all 44 = .ok (.lstore 5, 2) := by decide +kernel
theorem dL_all_46 : decode cL_all 46 = .ok (.iinc 7 1, 3) := by decide +kernel
theorem dL_all_49 : decode cL_all 49 = .ok (.goto (-41), 3) := by decide +kernel
theorem dL_all_52 : decode cL_all 52 = .ok (.lload 5, 2) := by decide +kernel
theorem dL_all_54 : decode cL_all 54 = .ok (.lreturn, 1) := by decide +kernel
theorem dL_many_0 : decode cL_many 0 = .ok (.iconst 0, 1) := by decide +kernel
theorem dL_many_1 : decode cL_many 1 = .ok (.istore_n 2, 1) := by decide +kernel
theorem dL_many_2 : decode cL_many 2 = .ok (.lload_n 0, 1) := by decide +kernel
theorem dL_many_3 : decode cL_many 3 = .ok (.lstore_n 3, 1) := by decide +kernel
theorem dL_many_4 : decode cL_many 4 = .ok (.lload_n 3, 1) := by decide +kernel
theorem dL_many_5 : decode cL_many 5 = .ok (.lconst 0, 1) := by decide +kernel
theorem dL_many_6 : decode cL_many 6 = .ok (.lcmp, 1) := by decide +kernel
theorem dL_many_7 : decode cL_many 7 = .ok (.ifCond .eq 15, 3) := by decide +kernel
theorem dL_many_10 : decode cL_many 10 = .ok (.iinc 2 1, 3) := by decide +kernel
theorem dL_many_13 : decode cL_many 13 = .ok (.lload_n 3, 1) := by decide +kernel
theorem dL_many_14 : decode cL_many 14 = .ok (.lload_n 3, 1) := by decide +kernel
theorem dL_many_15 : decode cL_many 15 = .ok (.lconst 1, 1) := by decide +kernel
theorem dL_many_16 : decode cL_many 16 = .ok (.lsub, 1) := by decide +kernel
theorem dL_many_17 : decode cL_many 17 = .ok (.land, 1) := by decide +kernel
theorem dL_many_18 : decode cL_many 18 = .ok (.lstore_n 3, 1) := by decide +kernel
theorem dL_many_19 : decode cL_many 19 = .ok (.goto (-15), 3) := by decide +kernel
theorem dL_many_22 : decode cL_many 22 = .ok (.iload_n 2, 1) := by decide +kernel
theorem dL_many_23 : decode cL_many 23 = .ok (.ireturn, 1) := by decide +kernel
theorem dL_only_0 : decode cL_only 0 = .ok (.iconst (-1), 1) := by decide +kernel
theorem dL_only_1 : decode cL_only 1 = .ok (.istore_n 2, 1) := by decide +kernel
theorem dL_only_2 : decode cL_only 2 = .ok (.iconst 0, 1) := by decide +kernel
theorem dL_only_3 : decode cL_only 3 = .ok (.istore_n 3, 1) := by decide +kernel
theorem dL_only_4 : decode cL_only 4 = .ok (.iload_n 3, 1) := by decide +kernel
theorem dL_only_5 : decode cL_only 5 = .ok (.bipush 64, 2) := by decide +kernel
theorem dL_only_7 : decode cL_only 7 = .ok (.if_icmp .ge 23, 3) := by decide +kernel
theorem dL_only_10 : decode cL_only 10 = .ok (.lload_n 0, 1) := by decide +kernel
theorem dL_only_11 : decode cL_only 11 = .ok (.lconst 1, 1) := by decide +kernel
theorem dL_only_12 : decode cL_only 12 = .ok (.iload_n 3, 1) := by decide +kernel
theorem dL_only_13 : decode cL_only 13 = .ok (.lshl, 1) := by decide +kernel
theorem dL_only_14 : decode cL_only 14 = .ok (.lcmp, 1) := by decide +kernel
theorem dL_only_15 : decode cL_only 15 = .ok (.ifCond .ne 7, 3) := by decide +kernel
theorem dL_only_18 : decode cL_only 18 = .ok (.iload_n 3, 1) := by decide +kernel
theorem dL_only_19 : decode cL_only 19 = .ok (.goto 4, 3) := by decide +kernel
theorem dL_only_22 : decode cL_only 22 = .ok (.iload_n 2, 1) := by decide +kernel
theorem dL_only_23 : decode cL_only 23 = .ok (.istore_n 2, 1) := by decide +kernel
theorem dL_only_24 : decode cL_only 24 = .ok (.iinc 3 1, 3) := by decide +kernel
theorem dL_only_27 : decode cL_only 27 = .ok (.goto (-23), 3) := by decide +kernel
theorem dL_only_30 : decode cL_only 30 = .ok (.iload_n 2, 1) := by decide +kernel
theorem dL_only_31 : decode cL_only 31 = .ok (.ireturn, 1) := by decide +kernel
set_option maxRecDepth 20000 in
theorem ggL_lays_L_far : GoodIn wsL_lays wsL_far := goodIn_r _ [6] (by decide +kernel) (by decide +kernel)
set_option maxRecDepth 20000 in
theorem gL_lays_L_far : GoodIn wsL_lays (va_wsS RL 7 yL_far wsL_far) := goodIn_app (goodIn_of _ (by decide +kernel)) ggL_lays_L_far
theorem dL_lays_0 : decode cL_lays 0 = .ok (.bipush 64, 2) := by decide +kernel
theorem dL_lays_2 : decode cL_lays 2 = .ok (.newarray .int, 2) := by decide +kernel
theorem dL_lays_4 : decode cL_lays 4 = .ok (.astore 4, 2) := by decide +kernel
theorem dL_lays_6 : decode cL_lays 6 = .ok (.iconst 0, 1) := by decide +kernel
theorem dL_lays_7 : decode cL_lays 7 = .ok (.istore 5, 2) := by decide +kernel
theorem dL_lays_9 : decode cL_lays 9 = .ok (.iload 5, 2) := by decide +kernel
theorem dL_lays_11 : decode cL_lays 11 = .ok (.bipush 64, 2) := by decide +kernel
theorem dL_lays_13 : decode cL_lays 13 = .ok (.if_icmp .ge 25, 3) := by decide +kernel
theorem dL_lays_16 : decode cL_lays 16 = .ok (.aload_n 3, 1) := by decide +kernel
theorem dL_lays_17 : decode cL_lays 17 = .ok (.iload 5, 2) := by decide +kernel
theorem dL_lays_19 : decode cL_lays 19 = .ok (.iload 5, 2) := by decide +kernel
theorem dL_lays_21 : decode cL_lays 21 = .ok (.iload_n 2, 1) := by decide +kernel
theorem dL_lays_22 : decode cL_lays 22 = .ok (.if_icmp .ne 7, 3) := by decide +kernel
theorem dL_lays_25 : decode cL_lays 25 = .ok (.iconst 0, 1) := by decide +kernel
theorem dL_lays_26 : decode cL_lays 26 = .ok (.goto 5, 3) := by decide +kernel
theorem dL_lays_29 : decode cL_lays 29 = .ok (.ldc 19, 2) := by decide +kernel
theorem dL_lays_31 : decode cL_lays 31 = .ok (.iastore, 1) := by decide +kernel
theorem dL_lays_32 : decode cL_lays 32 = .ok (.iinc 5 1, 3) := by decide +kernel
theorem dL_lays_35 : decode cL_lays 35 = .ok (.goto (-26), 3) := by decide +kernel
theorem dL_lays_38 : decode cL_lays 38 = .ok (.iconst 0, 1) := by decide +kernel
theorem dL_lays_39 : decode cL_lays 39 = .ok (.istore 5, 2) := by decide +kernel
theorem dL_lays_41 : decode cL_lays 41 = .ok (.iload 5, 2) := by decide +kernel
theorem dL_lays_43 : decode cL_lays 43 = .ok (.bipush 64, 2) := by decide +kernel
theorem dL_lays_45 : decode cL_lays 45 = .ok (.if_icmp .ge 188, 3) := by decide +kernel
theorem dL_lays_48 : decode cL_lays 48 = .ok (.iconst (-1), 1) := by decide +kernel
theorem dL_lays_49 : decode cL_lays 49 = .ok (.istore 6, 2) := by decide +kernel
theorem dL_lays_51 : decode cL_lays 51 = .ok (.iconst 0, 1) := by decide +kernel
theorem dL_lays_52 : decode cL_lays 52 = .ok (.istore 7, 2) := by decide +kernel
theorem dL_lays_54 : decode cL_lays 54 = .ok (.iload 7, 2) := by decide +kernel
theorem dL_lays_56 : decode cL_lays 56 = .ok (.bipush 64, 2) := by decide +kernel
theorem dL_lays_58 : decode cL_lays 58 = .ok (.if_icmp .ge 51, 3) := by decide +kernel
theorem dL_lays_61 : decode cL_lays 61 = .ok (.aload 4, 2) := by decide +kernel
theorem dL_lays_63 : decode cL_lays 63 = .ok (.iload 7, 2) := by decide +kernel
theorem dL_lays_65 : decode cL_lays 65 = .ok (.iaload, 1) := by decide +kernel
theorem dL_lays_66 : decode cL_lays 66 = .ok (.ifCond .ne 33, 3) := by decide +kernel
theorem dL_lays_69 : decode cL_lays 69 = .ok (.aload_n 3, 1) := by decide +kernel
theorem dL_lays_70 : decode cL_lays 70 = .ok (.iload 7, 2) := by decide +kernel
theorem dL_lays_72 : decode cL_lays 72 = .ok (.iaload, 1) := by decide +kernel
theorem dL_lays_73 : decode cL_lays 73 = .ok (.ldc 19, 2) := by decide +kernel
theorem dL_lays_75 : decode cL_lays 75 = .ok (.if_icmp .ge 24, 3) := by decide +kernel
theorem dL_lays_78 : decode cL_lays 78 = .ok (.iload 6, 2) := by decide +kernel
theorem dL_lays_80 : decode cL_lays 80 = .ok (.ifCond .lt 14, 3) := by decide +kernel
theorem dL_lays_83 : decode cL_lays 83 = .ok (.aload_n 3, 1) := by decide +kernel
theorem dL_lays_84 : decode cL_lays 84 = .ok (.iload 7, 2) := by decide +kernel
theorem dL_lays_86 : decode cL_lays 86 = .ok (.iaload, 1) := by decide +kernel
theorem dL_lays_87 : decode cL_lays 87 = .ok (.aload_n 3, 1) := by decide +kernel
theorem dL_lays_88 : decode cL_lays 88 = .ok (.iload 6, 2) := by decide +kernel
theorem dL_lays_90 : decode cL_lays 90 = .ok (.iaload, 1) := by decide +kernel
theorem dL_lays_91 : decode cL_lays 91 = .ok (.if_icmp .ge 8, 3) := by decide +kernel
theorem dL_lays_94 : decode cL_lays 94 = .ok (.iload 7, 2) := by decide +kernel
theorem dL_lays_96 : decode cL_lays 96 = .ok (.goto 5, 3) := by decide +kernel
theorem dL_lays_99 : decode cL_lays 99 = .ok (.iload 6, 2) := by decide +kernel
theorem dL_lays_101 : decode cL_lays 101 = .ok (.istore 6, 2) := by decide +kernel
theorem dL_lays_103 : decode cL_lays 103 = .ok (.iinc 7 1, 3) := by decide +kernel
theorem dL_lays_106 : decode cL_lays 106 = .ok (.goto (-52), 3) := by decide +kernel
theorem dL_lays_109 : decode cL_lays 109 = .ok (.iload 6, 2) := by decide +kernel
theorem dL_lays_111 : decode cL_lays 111 = .ok (.ifCond .lt 116, 3) := by decide +kernel
theorem dL_lays_114 : decode cL_lays 114 = .ok (.aload 4, 2) := by decide +kernel
theorem dL_lays_116 : decode cL_lays 116 = .ok (.iload 6, 2) := by decide +kernel
theorem dL_lays_118 : decode cL_lays 118 = .ok (.iconst 1, 1) := by decide +kernel
theorem dL_lays_119 : decode cL_lays 119 = .ok (.iastore, 1) := by decide +kernel
theorem dL_lays_120 : decode cL_lays 120 = .ok (.iconst 0, 1) := by decide +kernel
theorem dL_lays_121 : decode cL_lays 121 = .ok (.istore 7, 2) := by decide +kernel
theorem dL_lays_123 : decode cL_lays 123 = .ok (.iload 7, 2) := by decide +kernel
theorem dL_lays_125 : decode cL_lays 125 = .ok (.bipush 64, 2) := by decide +kernel
theorem dL_lays_127 : decode cL_lays 127 = .ok (.if_icmp .ge 100, 3) := by decide +kernel
theorem dL_lays_130 : decode cL_lays 130 = .ok (.aload_n 0, 1) := by decide +kernel
theorem dL_lays_131 : decode cL_lays 131 = .ok (.iload 7, 2) := by decide +kernel
theorem dL_lays_133 : decode cL_lays 133 = .ok (.iaload, 1) := by decide +kernel
theorem dL_lays_134 : decode cL_lays 134 = .ok (.aload_n 0, 1) := by decide +kernel
theorem dL_lays_135 : decode cL_lays 135 = .ok (.iload 6, 2) := by decide +kernel
theorem dL_lays_137 : decode cL_lays 137 = .ok (.iaload, 1) := by decide +kernel
theorem dL_lays_138 : decode cL_lays 138 = .ok (.isub, 1) := by decide +kernel
theorem dL_lays_139 : decode cL_lays 139 = .ok (.istore 8, 2) := by decide +kernel
theorem dL_lays_141 : decode cL_lays 141 = .ok (.aload_n 3, 1) := by decide +kernel
theorem dL_lays_142 : decode cL_lays 142 = .ok (.iload 6, 2) := by decide +kernel
theorem dL_lays_144 : decode cL_lays 144 = .ok (.iaload, 1) := by decide +kernel
theorem dL_lays_145 : decode cL_lays 145 = .ok (.iconst 1, 1) := by decide +kernel
theorem dL_lays_146 : decode cL_lays 146 = .ok (.iadd, 1) := by decide +kernel
theorem dL_lays_147 : decode cL_lays 147 = .ok (.iload 8, 2) := by decide +kernel
theorem dL_lays_149 : decode cL_lays 149 = .ok (.ifCond .ge 9, 3) := by decide +kernel
theorem dL_lays_152 : decode cL_lays 152 = .ok (.iload 8, 2) := by decide +kernel
theorem dL_lays_154 : decode cL_lays 154 = .ok (.ineg, 1) := by decide +kernel
theorem dL_lays_155 : decode cL_lays 155 = .ok (.goto 5, 3) := by decide +kernel
theorem dL_lays_158 : decode cL_lays 158 = .ok (.iload 8, 2) := by decide +kernel
theorem dL_lays_160 : decode cL_lays 160 = .ok (.iadd, 1) := by decide +kernel
theorem dL_lays_161 : decode cL_lays 161 = .ok (.istore 9, 2) := by decide +kernel
theorem dL_lays_163 : decode cL_lays 163 = .ok (.iload 7, 2) := by decide +kernel
theorem dL_lays_165 : decode cL_lays 165 = .ok (.iload 6, 2) := by decide +kernel
theorem dL_lays_167 : decode cL_lays 167 = .ok (.invokestatic 7, 3) := by decide +kernel
theorem dL_lays_170 : decode cL_lays 170 = .ok (.iconst 1, 1) := by decide +kernel
theorem dL_lays_171 : decode cL_lays 171 = .ok (.if_icmp .ne 29, 3) := by decide +kernel
theorem dL_lays_174 : decode cL_lays 174 = .ok (.aload_n 1, 1) := by decide +kernel
theorem dL_lays_175 : decode cL_lays 175 = .ok (.iconst 0, 1) := by decide +kernel
theorem dL_lays_176 : decode cL_lays 176 = .ok (.laload, 1) := by decide +kernel
theorem dL_lays_177 : decode cL_lays 177 = .ok (.iload 6, 2) := by decide +kernel
theorem dL_lays_179 : decode cL_lays 179 = .ok (.lshr, 1) := by decide +kernel
theorem dL_lays_180 : decode cL_lays 180 = .ok (.lconst 1, 1) := by decide +kernel
theorem dL_lays_181 : decode cL_lays 181 = .ok (.land, 1) := by decide +kernel
theorem dL_lays_182 : decode cL_lays 182 = .ok (.lconst 0, 1) := by decide +kernel
theorem dL_lays_183 : decode cL_lays 183 = .ok (.lcmp, 1) := by decide +kernel
theorem dL_lays_184 : decode cL_lays 184 = .ok (.ifCond .ne 16, 3) := by decide +kernel
theorem dL_lays_187 : decode cL_lays 187 = .ok (.iload 9, 2) := by decide +kernel
theorem dL_lays_189 : decode cL_lays 189 = .ok (.aload_n 3, 1) := by decide +kernel
theorem dL_lays_190 : decode cL_lays 190 = .ok (.iload 7, 2) := by decide +kernel
theorem dL_lays_192 : decode cL_lays 192 = .ok (.iaload, 1) := by decide +kernel
theorem dL_lays_193 : decode cL_lays 193 = .ok (.if_icmp .ge 7, 3) := by decide +kernel
theorem dL_lays_196 : decode cL_lays 196 = .ok (.iconst 1, 1) := by decide +kernel
theorem dL_lays_197 : decode cL_lays 197 = .ok (.goto 4, 3) := by decide +kernel
theorem dL_lays_200 : decode cL_lays 200 = .ok (.iconst 0, 1) := by decide +kernel
theorem dL_lays_201 : decode cL_lays 201 = .ok (.istore 10, 2) := by decide +kernel
theorem dL_lays_203 : decode cL_lays 203 = .ok (.aload_n 3, 1) := by decide +kernel
theorem dL_lays_204 : decode cL_lays 204 = .ok (.iload 7, 2) := by decide +kernel
theorem dL_lays_206 : decode cL_lays 206 = .ok (.iload 10, 2) := by decide +kernel
theorem dL_lays_208 : decode cL_lays 208 = .ok (.ifCond .eq 8, 3) := by decide +kernel
theorem dL_lays_211 : decode cL_lays 211 = .ok (.iload 9, 2) := by decide +kernel
theorem dL_lays_213 : decode cL_lays 213 = .ok (.goto 7, 3) := by decide +kernel
theorem dL_lays_216 : decode cL_lays 216 = .ok (.aload_n 3, 1) := by decide +kernel
theorem dL_lays_217 : decode cL_lays 217 = .ok (.iload 7, 2) := by decide +kernel
theorem dL_lays_219 : decode cL_lays 219 = .ok (.iaload, 1) := by decide +kernel
theorem dL_lays_220 : decode cL_lays 220 = .ok (.iastore, 1) := by decide +kernel
theorem dL_lays_221 : decode cL_lays 221 = .ok (.iinc 7 1, 3) := by decide +kernel
theorem dL_lays_224 : decode cL_lays 224 = .ok (.goto (-101), 3) := by decide +kernel
theorem dL_lays_227 : decode cL_lays 227 = .ok (.iinc 5 1, 3) := by decide +kernel
theorem dL_lays_230 : decode cL_lays 230 = .ok (.goto (-189), 3) := by decide +kernel
theorem dL_lays_233 : decode cL_lays 233 = .ok (.return_, 1) := by decide +kernel
set_option maxRecDepth 20000 in
theorem ggL_step_L_far : GoodIn wsL_step wsL_far := goodIn_r _ [5] (by decide +kernel) (by decide +kernel)
set_option maxRecDepth 20000 in
theorem gL_step_L_far : GoodIn wsL_step (va_wsS RL 7 yL_far wsL_far) := goodIn_app (goodIn_of _ (by decide +kernel)) ggL_step_L_far
theorem dL_step_0 : decode cL_step 0 = .ok (.iconst (-1), 1) := by decide +kernel
theorem dL_step_1 : decode cL_step 1 = .ok (.istore 4, 2) := by decide +kernel
theorem dL_step_3 : decode cL_step 3 = .ok (.ldc 19, 2) := by decide +kernel
theorem dL_step_5 : decode cL_step 5 = .ok (.istore 5, 2) := by decide +kernel
theorem dL_step_7 : decode cL_step 7 = .ok (.iconst 0, 1) := by decide +kernel
theorem dL_step_8 : decode cL_step 8 = .ok (.istore 6, 2) := by decide +kernel
theorem dL_step_10 : decode cL_step 10 = .ok (.iload 6, 2) := by decide +kernel
theorem dL_step_12 : decode cL_step 12 = .ok (.bipush 64, 2) := by decide +kernel
theorem dL_step_14 : decode cL_step 14 = .ok (.if_icmp .ge 106, 3) := by decide +kernel
theorem dL_step_17 : decode cL_step 17 = .ok (.aload_n 0, 1) := by decide +kernel
theorem dL_step_18 : decode cL_step 18 = .ok (.iload_n 3, 1) := by decide +kernel
theorem dL_step_19 : decode cL_step 19 = .ok (.iaload, 1) := by decide +kernel
theorem dL_step_20 : decode cL_step 20 = .ok (.aload_n 0, 1) := by decide +kernel
theorem dL_step_21 : decode cL_step 21 = .ok (.iload 6, 2) := by decide +kernel
theorem dL_step_23 : decode cL_step 23 = .ok (.iaload, 1) := by decide +kernel
theorem dL_step_24 : decode cL_step 24 = .ok (.isub, 1) := by decide +kernel
theorem dL_step_25 : decode cL_step 25 = .ok (.istore 7, 2) := by decide +kernel
theorem dL_step_27 : decode cL_step 27 = .ok (.iconst 1, 1) := by decide +kernel
theorem dL_step_28 : decode cL_step 28 = .ok (.iload 7, 2) := by decide +kernel
theorem dL_step_30 : decode cL_step 30 = .ok (.ifCond .ge 9, 3) := by decide +kernel
theorem dL_step_33 : decode cL_step 33 = .ok (.iload 7, 2) := by decide +kernel
theorem dL_step_35 : decode cL_step 35 = .ok (.ineg, 1) := by decide +kernel
theorem dL_step_36 : decode cL_step 36 = .ok (.goto 5, 3) := by decide +kernel
theorem dL_step_39 : decode cL_step 39 = .ok (.iload 7, 2) := by decide +kernel
theorem dL_step_41 : decode cL_step 41 = .ok (.iadd, 1) := by decide +kernel
theorem dL_step_42 : decode cL_step 42 = .ok (.aload_n 2, 1) := by decide +kernel
theorem dL_step_43 : decode cL_step 43 = .ok (.iload 6, 2) := by decide +kernel
theorem dL_step_45 : decode cL_step 45 = .ok (.iaload, 1) := by decide +kernel
theorem dL_step_46 : decode cL_step 46 = .ok (.iadd, 1) := by decide +kernel
theorem dL_step_47 : decode cL_step 47 = .ok (.istore 8, 2) := by decide +kernel
theorem dL_step_49 : decode cL_step 49 = .ok (.iload_n 3, 1) := by decide +kernel
theorem dL_step_50 : decode cL_step 50 = .ok (.iload 6, 2) := by decide +kernel
theorem dL_step_52 : decode cL_step 52 = .ok (.invokestatic 7, 3) := by decide +kernel
theorem dL_step_55 : decode cL_step 55 = .ok (.iconst 1, 1) := by decide +kernel
theorem dL_step_56 : decode cL_step 56 = .ok (.if_icmp .ne 27, 3) := by decide +kernel
theorem dL_step_59 : decode cL_step 59 = .ok (.aload_n 1, 1) := by decide +kernel
theorem dL_step_60 : decode cL_step 60 = .ok (.iconst 0, 1) := by decide +kernel
theorem dL_step_61 : decode cL_step 61 = .ok (.laload, 1) := by decide +kernel
theorem dL_step_62 : decode cL_step 62 = .ok (.iload 6, 2) := by decide +kernel
theorem dL_step_64 : decode cL_step 64 = .ok (.lshr, 1) := by decide +kernel
theorem dL_step_65 : decode cL_step 65 = .ok (.lconst 1, 1) := by decide +kernel
theorem dL_step_66 : decode cL_step 66 = .ok (.land, 1) := by decide +kernel
theorem dL_step_67 : decode cL_step 67 = .ok (.lconst 0, 1) := by decide +kernel
theorem dL_step_68 : decode cL_step 68 = .ok (.lcmp, 1) := by decide +kernel
theorem dL_step_69 : decode cL_step 69 = .ok (.ifCond .ne 14, 3) := by decide +kernel
theorem dL_step_72 : decode cL_step 72 = .ok (.iload 8, 2) := by decide +kernel
theorem dL_step_74 : decode cL_step 74 = .ok (.iload 5, 2) := by decide +kernel
theorem dL_step_76 : decode cL_step 76 = .ok (.if_icmp .ge 7, 3) := by decide +kernel
theorem dL_step_79 : decode cL_step 79 = .ok (.iconst 1, 1) := by decide +kernel
theorem dL_step_80 : decode cL_step 80 = .ok (.goto 4, 3) := by decide +kernel
theorem dL_step_83 : decode cL_step 83 = .ok (.iconst 0, 1) := by decide +kernel
theorem dL_step_84 : decode cL_step 84 = .ok (.istore 9, 2) := by decide +kernel
theorem dL_step_86 : decode cL_step 86 = .ok (.iload 9, 2) := by decide +kernel
theorem dL_step_88 : decode cL_step 88 = .ok (.ifCond .eq 8, 3) := by decide +kernel
theorem dL_step_91 : decode cL_step 91 = .ok (.iload 6, 2) := by decide +kernel
theorem dL_step_93 : decode cL_step 93 = .ok (.goto 5, 3) := by decide +kernel
theorem dL_step_96 : decode cL_step 96 = .ok (.iload 4, 2) := by decide +kernel
theorem dL_step_98 : decode cL_step 98 = .ok (.istore 4, 2) := by decide +kernel
theorem dL_step_100 : decode cL_step 100 = .ok (.iload 9, 2) := by decide +kernel
theorem dL_step_102 : decode cL_step 102 = .ok (.ifCond .eq 8, 3) := by decide +kernel
theorem dL_step_105 : decode cL_step 105 = .ok (.iload 8, 2) := by decide +kernel
theorem dL_step_107 : decode cL_step 107 = .ok (.goto 5, 3) := by decide +kernel
theorem dL_step_110 : decode cL_step 110 = .ok (.iload 5, 2) := by decide +kernel
theorem dL_step_112 : decode cL_step 112 = .ok (.istore 5, 2) := by decide +kernel
theorem dL_step_114 : decode cL_step 114 = .ok (.iinc 6 1, 3) := by decide +kernel
theorem dL_step_117 : decode cL_step 117 = .ok (.goto (-107), 3) := by decide +kernel
theorem dL_step_120 : decode cL_step 120 = .ok (.iload 4, 2) := by decide +kernel
theorem dL_step_122 : decode cL_step 122 = .ok (.ireturn, 1) := by decide +kernel
set_option maxRecDepth 20000 in
theorem ggL_minutes_L_lays : GoodIn wsL_minutes wsL_lays := goodIn_r _ [5, 1, 6, 7, 8, 4, 9] (by decide +kernel) (by decide +kernel)
set_option maxRecDepth 20000 in
theorem gL_minutes_L_lays : GoodIn wsL_minutes (va_wsS RL 20 yL_lays wsL_lays) := goodIn_app (goodIn_of _ (by decide +kernel)) ggL_minutes_L_lays
set_option maxRecDepth 20000 in
theorem ggL_minutes_L_step : GoodIn wsL_minutes wsL_step := goodIn_r _ [12, 6, 7, 8, 4, 9] (by decide +kernel) (by decide +kernel)
set_option maxRecDepth 20000 in
theorem gL_minutes_L_step : GoodIn wsL_minutes (va_wsS RL 24 yL_step wsL_step) := goodIn_app (goodIn_of _ (by decide +kernel)) ggL_minutes_L_step
theorem dL_minutes_0 : decode cL_minutes 0 = .ok (.iconst 0, 1) := by decide +kernel
theorem dL_minutes_1 : decode cL_minutes 1 = .ok (.istore 4, 2) := by decide +kernel
theorem dL_minutes_3 : decode cL_minutes 3 = .ok (.aload_n 0, 1) := by decide +kernel
theorem dL_minutes_4 : decode cL_minutes 4 = .ok (.iconst 3, 1) := by decide +kernel
theorem dL_minutes_5 : decode cL_minutes 5 = .ok (.dup2, 1) := by decide +kernel
theorem dL_minutes_6 : decode cL_minutes 6 = .ok (.iaload, 1) := by decide +kernel
theorem dL_minutes_7 : decode cL_minutes 7 = .ok (.iconst 1, 1) := by decide +kernel
theorem dL_minutes_8 : decode cL_minutes 8 = .ok (.iadd, 1) := by decide +kernel
theorem dL_minutes_9 : decode cL_minutes 9 = .ok (.iastore, 1) := by decide +kernel
theorem dL_minutes_10 : decode cL_minutes 10 = .ok (.iconst 0, 1) := by decide +kernel
theorem dL_minutes_11 : decode cL_minutes 11 = .ok (.istore 5, 2) := by decide +kernel
theorem dL_minutes_13 : decode cL_minutes 13 = .ok (.iload 5, 2) := by decide +kernel
theorem dL_minutes_15 : decode cL_minutes 15 = .ok (.iconst 5, 1) := by decide +kernel
theorem dL_minutes_16 : decode cL_minutes 16 = .ok (.aload_n 0, 1) := by decide +kernel
theorem dL_minutes_17 : decode cL_minutes 17 = .ok (.iconst 1, 1) := by decide +kernel
theorem dL_minutes_18 : decode cL_minutes 18 = .ok (.iaload, 1) := by decide +kernel
theorem dL_minutes_19 : decode cL_minutes 19 = .ok (.imul, 1) := by decide +kernel
theorem dL_minutes_20 : decode cL_minutes 20 = .ok (.if_icmp .ge 275, 3) := by decide +kernel
theorem dL_minutes_23 : decode cL_minutes 23 = .ok (.aload_n 3, 1) := by decide +kernel
theorem dL_minutes_24 : decode cL_minutes 24 = .ok (.iload 5, 2) := by decide +kernel
theorem dL_minutes_26 : decode cL_minutes 26 = .ok (.iconst 3, 1) := by decide +kernel
theorem dL_minutes_27 : decode cL_minutes 27 = .ok (.iadd, 1) := by decide +kernel
theorem dL_minutes_28 : decode cL_minutes 28 = .ok (.iaload, 1) := by decide +kernel
theorem dL_minutes_29 : decode cL_minutes 29 = .ok (.ifCond .ge 144, 3) := by decide +kernel
theorem dL_minutes_32 : decode cL_minutes 32 = .ok (.aload_n 3, 1) := by decide +kernel
theorem dL_minutes_33 : decode cL_minutes 33 = .ok (.iload 5, 2) := by decide +kernel
theorem dL_minutes_35 : decode cL_minutes 35 = .ok (.iconst 2, 1) := by decide +kernel
theorem dL_minutes_36 : decode cL_minutes 36 = .ok (.iadd, 1) := by decide +kernel
theorem dL_minutes_37 : decode cL_minutes 37 = .ok (.iaload, 1) := by decide +kernel
theorem dL_minutes_38 : decode cL_minutes 38 = .ok (.ifCond .lt 135, 3) := by decide +kernel
theorem dL_minutes_41 : decode cL_minutes 41 = .ok (.bipush 64, 2) := by decide +kernel
theorem dL_minutes_43 : decode cL_minutes 43 = .ok (.newarray .int, 2) := by decide +kernel
theorem dL_minutes_45 : decode cL_minutes 45 = .ok (.astore 6, 2) := by decide +kernel
theorem dL_minutes_47 : decode cL_minutes 47 = .ok (.aload_n 1, 1) := by decide +kernel
theorem dL_minutes_48 : decode cL_minutes 48 = .ok (.aload_n 2, 1) := by decide +kernel
theorem dL_minutes_49 : decode cL_minutes 49 = .ok (.aload_n 3, 1) := by decide +kernel
theorem dL_minutes_50 : decode cL_minutes 50 = .ok (.iload 5, 2) := by decide +kernel
theorem dL_minutes_52 : decode cL_minutes 52 = .ok (.iconst 2, 1) := by decide +kernel
theorem dL_minutes_53 : decode cL_minutes 53 = .ok (.iadd, 1) := by decide +kernel
theorem dL_minutes_54 : decode cL_minutes 54 = .ok (.iaload, 1) := by decide +kernel
theorem dL_minutes_55 : decode cL_minutes 55 = .ok (.aload 6, 2) := by decide +kernel
theorem dL_minutes_57 : decode cL_minutes 57 = .ok (.invokestatic 20, 3) := by decide +kernel
theorem dL_minutes_60 : decode cL_minutes 60 = .ok (.aload_n 3, 1) := by decide +kernel
theorem dL_minutes_61 : decode cL_minutes 61 = .ok (.iload 5, 2) := by decide +kernel
theorem dL_minutes_63 : decode cL_minutes 63 = .ok (.iconst 1, 1) := by decide +kernel
theorem dL_minutes_64 : decode cL_minutes 64 = .ok (.iadd, 1) := by decide +kernel
theorem dL_minutes_65 : decode cL_minutes 65 = .ok (.iaload, 1) := by decide +kernel
theorem dL_minutes_66 : decode cL_minutes 66 = .ok (.aload_n 3, 1) := by decide +kernel
theorem dL_minutes_67 : decode cL_minutes 67 = .ok (.iload 5, 2) := by decide +kernel
theorem dL_minutes_69 : decode cL_minutes 69 = .ok (.iconst 2, 1) := by decide +kernel
theorem dL_minutes_70 : decode cL_minutes 70 = .ok (.iadd, 1) := by decide +kernel
theorem dL_minutes_71 : decode cL_minutes 71 = .ok (.iaload, 1) := by decide +kernel
theorem dL_minutes_72 : decode cL_minutes 72 = .ok (.if_icmp .ne 7, 3) := by decide +kernel
theorem dL_minutes_75 : decode cL_minutes 75 = .ok (.iconst (-1), 1) := by decide +kernel
theorem dL_minutes_76 : decode cL_minutes 76 = .ok (.goto 16, 3) := by decide +kernel
theorem dL_minutes_79 : decode cL_minutes 79 = .ok (.aload_n 1, 1) := by decide +kernel
theorem dL_minutes_80 : decode cL_minutes 80 = .ok (.aload_n 2, 1) := by decide +kernel
theorem dL_minutes_81 : decode cL_minutes 81 = .ok (.aload 6, 2) := by decide +kernel
theorem dL_minutes_83 : decode cL_minutes 83 = .ok (.aload_n 3, 1) := by decide +kernel
theorem dL_minutes_84 : decode cL_minutes 84 = .ok (.iload 5, 2) := by decide +kernel
theorem dL_minutes_86 : decode cL_minutes 86 = .ok (.iconst 1, 1) := by decide +kernel
theorem dL_minutes_87 : decode cL_minutes 87 = .ok (.iadd, 1) := by decide +kernel
theorem dL_minutes_88 : decode cL_minutes 88 = .ok (.iaload, 1) := by decide +kernel
theorem dL_minutes_89 : decode cL_minutes 89 = .ok (.invokestatic 24, 3) := by decide +kernel
theorem dL_minutes_92 : decode cL_minutes 92 = .ok (.istore 7, 2) := by decide +kernel
theorem dL_minutes_94 : decode cL_minutes 94 = .ok (.iload 7, 2) := by decide +kernel
theorem dL_minutes_96 : decode cL_minutes 96 = .ok (.ifCond .ge 7, 3) := by decide +kernel
theorem dL_minutes_99 : decode cL_minutes 99 = .ok (.iconst 0, 1) := by decide +kernel
theorem dL_minutes_100 : decode cL_minutes 100 = .ok (.goto 16, 3) := by decide +kernel
theorem dL_minutes_103 : decode cL_minutes 103 = .ok (.aload_n 1, 1) := by decide +kernel
theorem dL_minutes_104 : decode cL_minutes 104 = .ok (.iload 7, 2) := by decide +kernel
theorem dL_minutes_106 : decode cL_minutes 106 = .ok (.iaload, 1) := by decide +kernel
theorem dL_minutes_107 : decode cL_minutes 107 = .ok (.aload_n 1, 1) := by decide +kernel
theorem dL_minutes_108 : decode cL_minutes 108 = .ok (.aload_n 3, 1) := by decide +kernel
theorem dL_minutes_109 : decode cL_minutes 109 = .ok (.iload 5, 2) := by decide +kernel
theorem dL_minutes_111 : decode cL_minutes 111 = .ok (.iconst 1, 1) := by decide +kernel
theorem dL_minutes_112 : decode cL_minutes 112 = .ok (.iadd, 1) := by decide +kernel
theorem dL_minutes_113 : decode cL_minutes 113 = .ok (.iaload, 1) := by decide +kernel
theorem dL_minutes_114 : decode cL_minutes 114 = .ok (.iaload, 1) := by decide +kernel
theorem dL_minutes_115 : decode cL_minutes 115 = .ok (.isub, 1) := by decide +kernel
theorem dL_minutes_116 : decode cL_minutes 116 = .ok (.istore 8, 2) := by decide +kernel
theorem dL_minutes_118 : decode cL_minutes 118 = .ok (.aload_n 3, 1) := by decide +kernel
theorem dL_minutes_119 : decode cL_minutes 119 = .ok (.iload 5, 2) := by decide +kernel
theorem dL_minutes_121 : decode cL_minutes 121 = .ok (.iconst 2, 1) := by decide +kernel
theorem dL_minutes_122 : decode cL_minutes 122 = .ok (.iadd, 1) := by decide +kernel
theorem dL_minutes_123 : decode cL_minutes 123 = .ok (.iload 7, 2) := by decide +kernel
theorem dL_minutes_125 : decode cL_minutes 125 = .ok (.ifCond .ge 7, 3) := by decide +kernel
theorem dL_minutes_128 : decode cL_minutes 128 = .ok (.iconst (-1), 1) := by decide +kernel
theorem dL_minutes_129 : decode cL_minutes 129 = .ok (.goto 9, 3) := by decide +kernel
theorem dL_minutes_132 : decode cL_minutes 132 = .ok (.aload_n 3, 1) := by decide +kernel
theorem dL_minutes_133 : decode cL_minutes 133 = .ok (.iload 5, 2) := by decide +kernel
theorem dL_minutes_135 : decode cL_minutes 135 = .ok (.iconst 2, 1) := by decide +kernel
theorem dL_minutes_136 : decode cL_minutes 136 = .ok (.iadd, 1) := by decide +kernel
theorem dL_minutes_137 : decode cL_minutes 137 = .ok (.iaload, 1) := by decide +kernel
theorem dL_minutes_138 : decode cL_minutes 138 = .ok (.iastore, 1) := by decide +kernel
theorem dL_minutes_139 : decode cL_minutes 139 = .ok (.aload_n 3, 1) := by decide +kernel
theorem dL_minutes_140 : decode cL_minutes 140 = .ok (.iload 5, 2) := by decide +kernel
theorem dL_minutes_142 : decode cL_minutes 142 = .ok (.iconst 3, 1) := by decide +kernel
theorem dL_minutes_143 : decode cL_minutes 143 = .ok (.iadd, 1) := by decide +kernel
theorem dL_minutes_144 : decode cL_minutes 144 = .ok (.iload 7, 2) := by decide +kernel
theorem dL_minutes_146 : decode cL_minutes 146 = .ok (.iastore, 1) := by decide +kernel
theorem dL_minutes_147 : decode cL_minutes 147 = .ok (.aload_n 3, 1) := by decide +kernel
theorem dL_minutes_148 : decode cL_minutes 148 = .ok (.iload 5, 2) := by decide +kernel
theorem dL_minutes_150 : decode cL_minutes 150 = .ok (.iconst 4, 1) := by decide +kernel
theorem dL_minutes_151 : decode cL_minutes 151 = .ok (.iadd, 1) := by decide +kernel
theorem dL_minutes_152 : decode cL_minutes 152 = .ok (.aload_n 3, 1) := by decide +kernel
theorem dL_minutes_153 : decode cL_minutes 153 = .ok (.iload 5, 2) := by decide +kernel
theorem dL_minutes_155 : decode cL_minutes 155 = .ok (.iaload, 1) := by decide +kernel
theorem dL_minutes_156 : decode cL_minutes 156 = .ok (.iconst 1, 1) := by decide +kernel
theorem dL_minutes_157 : decode cL_minutes 157 = .ok (.iload 8, 2) := by decide +kernel
theorem dL_minutes_159 : decode cL_minutes 159 = .ok (.ifCond .ge 9, 3) := by decide +kernel
theorem dL_minutes_162 : decode cL_minutes 162 = .ok (.iload 8, 2) := by decide +kernel
theorem dL_minutes_164 : decode cL_minutes 164 = .ok (.ineg, 1) := by decide +kernel
theorem dL_minutes_165 : decode cL_minutes 165 = .ok (.goto 5, 3) := by decide +kernel
theorem dL_minutes_168 : decode cL_minutes 168 = .ok (.iload 8, 2) := by decide +kernel
theorem dL_minutes_170 : decode cL_minutes 170 = .ok (.iadd, 1) := by decide +kernel
theorem dL_minutes_171 : decode cL_minutes 171 = .ok (.imul, 1) := by decide +kernel
theorem dL_minutes_172 : decode cL_minutes 172 = .ok (.iastore, 1) := by decide +kernel
theorem dL_minutes_173 : decode cL_minutes 173 = .ok (.aload_n 3, 1) := by decide +kernel
theorem dL_minutes_174 : decode cL_minutes 174 = .ok (.iload 5, 2) := by decide +kernel
theorem dL_minutes_176 : decode cL_minutes 176 = .ok (.iconst 4, 1) := by decide +kernel
theorem dL_minutes_177 : decode cL_minutes 177 = .ok (.iadd, 1) := by decide +kernel
theorem dL_minutes_178 : decode cL_minutes 178 = .ok (.dup2, 1) := by decide +kernel
theorem dL_minutes_179 : decode cL_minutes 179 = .ok (.iaload, 1) := by decide +kernel
theorem dL_minutes_180 : decode cL_minutes 180 = .ok (.aload_n 3, 1) := by decide +kernel
theorem dL_minutes_181 : decode cL_minutes 181 = .ok (.iload 5, 2) := by decide +kernel
theorem dL_minutes_183 : decode cL_minutes 183 = .ok (.iconst 3, 1) := by decide +kernel
theorem dL_minutes_184 : decode cL_minutes 184 = .ok (.iadd, 1) := by decide +kernel
theorem dL_minutes_185 : decode cL_minutes 185 = .ok (.iaload, 1) := by decide +kernel
theorem dL_minutes_186 : decode cL_minutes 186 = .ok (.ifCond .ge 7, 3) := by decide +kernel
theorem dL_minutes_189 : decode cL_minutes 189 = .ok (.iconst 0, 1) := by decide +kernel
theorem dL_minutes_190 : decode cL_minutes 190 = .ok (.goto 4, 3) := by decide +kernel
theorem dL_minutes_193 : decode cL_minutes 193 = .ok (.iconst 1, 1) := by decide +kernel
theorem dL_minutes_194 : decode cL_minutes 194 = .ok (.isub, 1) := by decide +kernel
theorem dL_minutes_195 : decode cL_minutes 195 = .ok (.iastore, 1) := by decide +kernel
theorem dL_minutes_196 : decode cL_minutes 196 = .ok (.aload_n 3, 1) := by decide +kernel
theorem dL_minutes_197 : decode cL_minutes 197 = .ok (.iload 5, 2) := by decide +kernel
theorem dL_minutes_199 : decode cL_minutes 199 = .ok (.iconst 3, 1) := by decide +kernel
theorem dL_minutes_200 : decode cL_minutes 200 = .ok (.iadd, 1) := by decide +kernel
theorem dL_minutes_201 : decode cL_minutes 201 = .ok (.iaload, 1) := by decide +kernel
theorem dL_minutes_202 : decode cL_minutes 202 = .ok (.ifCond .lt 87, 3) := by decide +kernel
theorem dL_minutes_205 : decode cL_minutes 205 = .ok (.aload_n 3, 1) := by decide +kernel
theorem dL_minutes_206 : decode cL_minutes 206 = .ok (.iload 5, 2) := by decide +kernel
theorem dL_minutes_208 : decode cL_minutes 208 = .ok (.iconst 4, 1) := by decide +kernel
theorem dL_minutes_209 : decode cL_minutes 209 = .ok (.iadd, 1) := by decide +kernel
theorem dL_minutes_210 : decode cL_minutes 210 = .ok (.iaload, 1) := by decide +kernel
theorem dL_minutes_211 : decode cL_minutes 211 = .ok (.ifCond .ne 78, 3) := by decide +kernel
theorem dL_minutes_214 : decode cL_minutes 214 = .ok (.aload_n 3, 1) := by decide +kernel
theorem dL_minutes_215 : decode cL_minutes 215 = .ok (.iload 5, 2) := by decide +kernel
theorem dL_minutes_217 : decode cL_minutes 217 = .ok (.iconst 1, 1) := by decide +kernel
theorem dL_minutes_218 : decode cL_minutes 218 = .ok (.iadd, 1) := by decide +kernel
theorem dL_minutes_219 : decode cL_minutes 219 = .ok (.aload_n 3, 1) := by decide +kernel
theorem dL_minutes_220 : decode cL_minutes 220 = .ok (.iload 5, 2) := by decide +kernel
theorem dL_minutes_222 : decode cL_minutes 222 = .ok (.iconst 3, 1) := by decide +kernel
theorem dL_minutes_223 : decode cL_minutes 223 = .ok (.iadd, 1) := by decide +kernel
theorem dL_minutes_224 : decode cL_minutes 224 = .ok (.iaload, 1) := by decide +kernel
theorem dL_minutes_225 : decode cL_minutes 225 = .ok (.iastore, 1) := by decide +kernel
theorem dL_minutes_226 : decode cL_minutes 226 = .ok (.aload_n 3, 1) := by decide +kernel
theorem dL_minutes_227 : decode cL_minutes 227 = .ok (.iload 5, 2) := by decide +kernel
theorem dL_minutes_229 : decode cL_minutes 229 = .ok (.iconst 3, 1) := by decide +kernel
theorem dL_minutes_230 : decode cL_minutes 230 = .ok (.iadd, 1) := by decide +kernel
theorem dL_minutes_231 : decode cL_minutes 231 = .ok (.iconst (-1), 1) := by decide +kernel
theorem dL_minutes_232 : decode cL_minutes 232 = .ok (.iastore, 1) := by decide +kernel
theorem dL_minutes_233 : decode cL_minutes 233 = .ok (.iload 4, 2) := by decide +kernel
theorem dL_minutes_235 : decode cL_minutes 235 = .ok (.aload_n 3, 1) := by decide +kernel
theorem dL_minutes_236 : decode cL_minutes 236 = .ok (.iload 5, 2) := by decide +kernel
theorem dL_minutes_238 : decode cL_minutes 238 = .ok (.iconst 1, 1) := by decide +kernel
theorem dL_minutes_239 : decode cL_minutes 239 = .ok (.iadd, 1) := by decide +kernel
theorem dL_minutes_240 : decode cL_minutes 240 = .ok (.iaload, 1) := by decide +kernel
theorem dL_minutes_241 : decode cL_minutes 241 = .ok (.aload_n 3, 1) := by decide +kernel
theorem dL_minutes_242 : decode cL_minutes 242 = .ok (.iload 5, 2) := by decide +kernel
theorem dL_minutes_244 : decode cL_minutes 244 = .ok (.iconst 2, 1) := by decide +kernel
theorem dL_minutes_245 : decode cL_minutes 245 = .ok (.iadd, 1) := by decide +kernel
theorem dL_minutes_246 : decode cL_minutes 246 = .ok (.iaload, 1) := by decide +kernel
theorem dL_minutes_247 : decode cL_minutes 247 = .ok (.if_icmp .ne 7, 3) := by decide +kernel
theorem dL_minutes_250 : decode cL_minutes 250 = .ok (.iconst 1, 1) := by decide +kernel
theorem dL_minutes_251 : decode cL_minutes 251 = .ok (.goto 4, 3) := by decide +kernel
theorem dL_minutes_254 : decode cL_minutes 254 = .ok (.iconst 0, 1) := by decide +kernel
theorem dL_minutes_255 : decode cL_minutes 255 = .ok (.iadd, 1) := by decide +kernel
theorem dL_minutes_256 : decode cL_minutes 256 = .ok (.istore 4, 2) := by decide +kernel
theorem dL_minutes_258 : decode cL_minutes 258 = .ok (.aload_n 3, 1) := by decide +kernel
theorem dL_minutes_259 : decode cL_minutes 259 = .ok (.iload 5, 2) := by decide +kernel
theorem dL_minutes_261 : decode cL_minutes 261 = .ok (.iconst 2, 1) := by decide +kernel
theorem dL_minutes_262 : decode cL_minutes 262 = .ok (.iadd, 1) := by decide +kernel
theorem dL_minutes_263 : decode cL_minutes 263 = .ok (.aload_n 3, 1) := by decide +kernel
theorem dL_minutes_264 : decode cL_minutes 264 = .ok (.iload 5, 2) := by decide +kernel
theorem dL_minutes_266 : decode cL_minutes 266 = .ok (.iconst 1, 1) := by decide +kernel
theorem dL_minutes_267 : decode cL_minutes 267 = .ok (.iadd, 1) := by decide +kernel
theorem dL_minutes_268 : decode cL_minutes 268 = .ok (.iaload, 1) := by decide +kernel
theorem dL_minutes_269 : decode cL_minutes 269 = .ok (.aload_n 3, 1) := by decide +kernel
theorem dL_minutes_270 : decode cL_minutes 270 = .ok (.iload 5, 2) := by decide +kernel
theorem dL_minutes_272 : decode cL_minutes 272 = .ok (.iconst 2, 1) := by decide +kernel
theorem dL_minutes_273 : decode cL_minutes 273 = .ok (.iadd, 1) := by decide +kernel
theorem dL_minutes_274 : decode cL_minutes 274 = .ok (.iaload, 1) := by decide +kernel
theorem dL_minutes_275 : decode cL_minutes 275 = .ok (.if_icmp .ne 7, 3) := by decide +kernel
theorem dL_minutes_278 : decode cL_minutes 278 = .ok (.iconst (-1), 1) := by decide +kernel
theorem dL_minutes_279 : decode cL_minutes 279 = .ok (.goto 9, 3) := by decide +kernel
theorem dL_minutes_282 : decode cL_minutes 282 = .ok (.aload_n 3, 1) := by decide +kernel
theorem dL_minutes_283 : decode cL_minutes 283 = .ok (.iload 5, 2) := by decide +kernel
theorem dL_minutes_285 : decode cL_minutes 285 = .ok (.iconst 2, 1) := by decide +kernel
theorem dL_minutes_286 : decode cL_minutes 286 = .ok (.iadd, 1) := by decide +kernel
theorem dL_minutes_287 : decode cL_minutes 287 = .ok (.iaload, 1) := by decide +kernel
theorem dL_minutes_288 : decode cL_minutes 288 = .ok (.iastore, 1) := by decide +kernel
theorem dL_minutes_289 : decode cL_minutes 289 = .ok (.iinc 5 5, 3) := by decide +kernel
theorem dL_minutes_292 : decode cL_minutes 292 = .ok (.goto (-279), 3) := by decide +kernel
theorem dL_minutes_295 : decode cL_minutes 295 = .ok (.iload 4, 2) := by decide +kernel
theorem dL_minutes_297 : decode cL_minutes 297 = .ok (.ireturn, 1) := by decide +kernel
theorem dL_letter_0 : decode cL_letter 0 = .ok (.iload_n 0, 1) := by decide +kernel
theorem dL_letter_1 : decode cL_letter 1 = .ok (.iconst 5, 1) := by decide +kernel
theorem dL_letter_2 : decode cL_letter 2 = .ok (.iload_n 1, 1) := by decide +kernel
theorem dL_letter_3 : decode cL_letter 3 = .ok (.imul, 1) := by decide +kernel
theorem dL_letter_4 : decode cL_letter 4 = .ok (.ishr, 1) := by decide +kernel
theorem dL_letter_5 : decode cL_letter 5 = .ok (.bipush 31, 2) := by decide +kernel
theorem dL_letter_7 : decode cL_letter 7 = .ok (.iand, 1) := by decide +kernel
theorem dL_letter_8 : decode cL_letter 8 = .ok (.ireturn, 1) := by decide +kernel
set_option maxRecDepth 20000 in
theorem ggL_ciphers_L_letter : GoodIn wsL_ciphers wsL_letter := goodIn_r _ [7] (by decide +kernel) (by decide +kernel)
set_option maxRecDepth 20000 in
theorem gL_ciphers_L_letter : GoodIn wsL_ciphers (va_wsS RL 28 yL_letter wsL_letter) := goodIn_app (goodIn_of _ (by decide +kernel)) ggL_ciphers_L_letter
theorem dL_ciphers_0 : decode cL_ciphers 0 = .ok (.bipush 8, 2) := by decide +kernel
theorem dL_ciphers_2 : decode cL_ciphers 2 = .ok (.newarray .int, 2) := by decide +kernel
theorem dL_ciphers_4 : decode cL_ciphers 4 = .ok (.astore_n 3, 1) := by decide +kernel
theorem dL_ciphers_5 : decode cL_ciphers 5 = .ok (.iload_n 0, 1) := by decide +kernel
theorem dL_ciphers_6 : decode cL_ciphers 6 = .ok (.bipush 25, 2) := by decide +kernel
theorem dL_ciphers_8 : decode cL_ciphers 8 = .ok (.ishr, 1) := by decide +kernel
theorem dL_ciphers_9 : decode cL_ciphers 9 = .ok (.istore 4, 2) := by decide +kernel
theorem dL_ciphers_11 : decode cL_ciphers 11 = .ok (.iload_n 1, 1) := by decide +kernel
theorem dL_ciphers_12 : decode cL_ciphers 12 = .ok (.iload 4, 2) := by decide +kernel
theorem dL_ciphers_14 : decode cL_ciphers 14 = .ok (.iconst 1, 1) := by decide +kernel
theorem dL_ciphers_15 : decode cL_ciphers 15 = .ok (.iadd, 1) := by decide +kernel
theorem dL_ciphers_16 : decode cL_ciphers 16 = .ok (.irem, 1) := by decide +kernel
theorem dL_ciphers_17 : decode cL_ciphers 17 = .ok (.istore 5, 2) := by decide +kernel
theorem dL_ciphers_19 : decode cL_ciphers 19 = .ok (.iconst 0, 1) := by decide +kernel
theorem dL_ciphers_20 : decode cL_ciphers 20 = .ok (.istore 6, 2) := by decide +kernel
theorem dL_ciphers_22 : decode cL_ciphers 22 = .ok (.iload 6, 2) := by decide +kernel
theorem dL_ciphers_24 : decode cL_ciphers 24 = .ok (.iload 4, 2) := by decide +kernel
theorem dL_ciphers_26 : decode cL_ciphers 26 = .ok (.if_icmp .ge 58, 3) := by decide +kernel
theorem dL_ciphers_29 : decode cL_ciphers 29 = .ok (.iload_n 1, 1) := by decide +kernel
theorem dL_ciphers_30 : decode cL_ciphers 30 = .ok (.iconst 2, 1) := by decide +kernel
theorem dL_ciphers_31 : decode cL_ciphers 31 = .ok (.irem, 1) := by decide +kernel
theorem dL_ciphers_32 : decode cL_ciphers 32 = .ok (.ifCond .ne 8, 3) := by decide +kernel
theorem dL_ciphers_35 : decode cL_ciphers 35 = .ok (.iload 6, 2) := by decide +kernel
theorem dL_ciphers_37 : decode cL_ciphers 37 = .ok (.goto 10, 3) := by decide +kernel
theorem dL_ciphers_40 : decode cL_ciphers 40 = .ok (.iload 4, 2) := by decide +kernel
theorem dL_ciphers_42 : decode cL_ciphers 42 = .ok (.iconst 1, 1) := by decide +kernel
theorem dL_ciphers_43 : decode cL_ciphers 43 = .ok (.isub, 1) := by decide +kernel
theorem dL_ciphers_44 : decode cL_ciphers 44 = .ok (.iload 6, 2) := by decide +kernel
theorem dL_ciphers_46 : decode cL_ciphers 46 = .ok (.isub, 1) := by decide +kernel
theorem dL_ciphers_47 : decode cL_ciphers 47 = .ok (.istore 7, 2) := by decide +kernel
theorem dL_ciphers_49 : decode cL_ciphers 49 = .ok (.aload_n 3, 1) := by decide +kernel
theorem dL_ciphers_50 : decode cL_ciphers 50 = .ok (.iload 7, 2) := by decide +kernel
theorem dL_ciphers_52 : decode cL_ciphers 52 = .ok (.iload 5, 2) := by decide +kernel
theorem dL_ciphers_54 : decode cL_ciphers 54 = .ok (.if_icmp .ge 8, 3) := by decide +kernel
theorem dL_ciphers_57 : decode cL_ciphers 57 = .ok (.iload 7, 2) := by decide +kernel
theorem dL_ciphers_59 : decode cL_ciphers 59 = .ok (.goto 7, 3) := by decide +kernel
theorem dL_ciphers_62 : decode cL_ciphers 62 = .ok (.iload 7, 2) := by decide +kernel
theorem dL_ciphers_64 : decode cL_ciphers 64 = .ok (.iconst 1, 1) := by decide +kernel
theorem dL_ciphers_65 : decode cL_ciphers 65 = .ok (.iadd, 1) := by decide +kernel
theorem dL_ciphers_66 : decode cL_ciphers 66 = .ok (.iload_n 0, 1) := by decide +kernel
theorem dL_ciphers_67 : decode cL_ciphers 67 = .ok (.iload 6, 2) := by decide +kernel
theorem dL_ciphers_69 : decode cL_ciphers 69 = .ok (.invokestatic 28, 3) := by decide +kernel
theorem dL_ciphers_72 : decode cL_ciphers 72 = .ok (.iload_n 1, 1) := by decide +kernel
theorem dL_ciphers_73 : decode cL_ciphers 73 = .ok (.iadd, 1) := by decide +kernel
theorem dL_ciphers_74 : decode cL_ciphers 74 = .ok (.bipush 27, 2) := by decide +kernel
theorem dL_ciphers_76 : decode cL_ciphers 76 = .ok (.irem, 1) := by decide +kernel
theorem dL_ciphers_77 : decode cL_ciphers 77 = .ok (.iastore, 1) := by decide +kernel
theorem dL_ciphers_78 : decode cL_ciphers 78 = .ok (.iinc 6 1, 3) := by decide +kernel
theorem dL_ciphers_81 : decode cL_ciphers 81 = .ok (.goto (-59), 3) := by decide +kernel
theorem dL_ciphers_84 : decode cL_ciphers 84 = .ok (.aload_n 3, 1) := by decide +kernel
theorem dL_ciphers_85 : decode cL_ciphers 85 = .ok (.iload 5, 2) := by decide +kernel
theorem dL_ciphers_87 : decode cL_ciphers 87 = .ok (.iload_n 1, 1) := by decide +kernel
theorem dL_ciphers_88 : decode cL_ciphers 88 = .ok (.bipush 27, 2) := by decide +kernel
theorem dL_ciphers_90 : decode cL_ciphers 90 = .ok (.irem, 1) := by decide +kernel
theorem dL_ciphers_91 : decode cL_ciphers 91 = .ok (.iastore, 1) := by decide +kernel
theorem dL_ciphers_92 : decode cL_ciphers 92 = .ok (.iconst 0, 1) := by decide +kernel
theorem dL_ciphers_93 : decode cL_ciphers 93 = .ok (.istore 6, 2) := by decide +kernel
theorem dL_ciphers_95 : decode cL_ciphers 95 = .ok (.iconst 0, 1) := by decide +kernel
theorem dL_ciphers_96 : decode cL_ciphers 96 = .ok (.istore 7, 2) := by decide +kernel
theorem dL_ciphers_98 : decode cL_ciphers 98 = .ok (.iload 7, 2) := by decide +kernel
theorem dL_ciphers_100 : decode cL_ciphers 100 = .ok (.iload 4, 2) := by decide +kernel
theorem dL_ciphers_102 : decode cL_ciphers 102 = .ok (.if_icmp .gt 62, 3) := by decide +kernel
theorem dL_ciphers_105 : decode cL_ciphers 105 = .ok (.aload_n 2, 1) := by decide +kernel
theorem dL_ciphers_106 : decode cL_ciphers 106 = .ok (.iload 6, 2) := by decide +kernel
theorem dL_ciphers_108 : decode cL_ciphers 108 = .ok (.aload_n 3, 1) := by decide +kernel
theorem dL_ciphers_109 : decode cL_ciphers 109 = .ok (.iload 7, 2) := by decide +kernel
theorem dL_ciphers_111 : decode cL_ciphers 111 = .ok (.iaload, 1) := by decide +kernel
theorem dL_ciphers_112 : decode cL_ciphers 112 = .ok (.bipush 26, 2) := by decide +kernel
theorem dL_ciphers_114 : decode cL_ciphers 114 = .ok (.if_icmp .ne 8, 3) := by decide +kernel
theorem dL_ciphers_117 : decode cL_ciphers 117 = .ok (.ldc 31, 2) := by decide +kernel
theorem dL_ciphers_119 : decode cL_ciphers 119 = .ok (.goto 10, 3) := by decide +kernel
theorem dL_ciphers_122 : decode cL_ciphers 122 = .ok (.bipush 97, 2) := by decide +kernel
theorem dL_ciphers_124 : decode cL_ciphers 124 = .ok (.aload_n 3, 1) := by decide +kernel
theorem dL_ciphers_125 : decode cL_ciphers 125 = .ok (.iload 7, 2) := by decide +kernel
theorem dL_ciphers_127 : decode cL_ciphers 127 = .ok (.iaload, 1) := by decide +kernel
theorem dL_ciphers_128 : decode cL_ciphers 128 = .ok (.iadd, 1) := by decide +kernel
theorem dL_ciphers_129 : decode cL_ciphers 129 = .ok (.iastore, 1) := by decide +kernel
theorem dL_ciphers_130 : decode cL_ciphers 130 = .ok (.iinc 6 1, 3) := by decide +kernel
theorem dL_ciphers_133 : decode cL_ciphers 133 = .ok (.aload_n 2, 1) := by decide +kernel
theorem dL_ciphers_134 : decode cL_ciphers 134 = .ok (.iload 6, 2) := by decide +kernel
theorem dL_ciphers_136 : decode cL_ciphers 136 = .ok (.ldc 32, 2) := by decide +kernel
theorem dL_ciphers_138 : decode cL_ciphers 138 = .ok (.iastore, 1) := by decide +kernel
theorem dL_ciphers_139 : decode cL_ciphers 139 = .ok (.iload 6, 2) := by decide +kernel
theorem dL_ciphers_141 : decode cL_ciphers 141 = .ok (.aload_n 3, 1) := by decide +kernel
theorem dL_ciphers_142 : decode cL_ciphers 142 = .ok (.iload 7, 2) := by decide +kernel
theorem dL_ciphers_144 : decode cL_ciphers 144 = .ok (.iaload, 1) := by decide +kernel
theorem dL_ciphers_145 : decode cL_ciphers 145 = .ok (.bipush 26, 2) := by decide +kernel
theorem dL_ciphers_147 : decode cL_ciphers 147 = .ok (.if_icmp .ne 7, 3) := by decide +kernel
theorem dL_ciphers_150 : decode cL_ciphers 150 = .ok (.iconst 1, 1) := by decide +kernel
theorem dL_ciphers_151 : decode cL_ciphers 151 = .ok (.goto 4, 3) := by decide +kernel
theorem dL_ciphers_154 : decode cL_ciphers 154 = .ok (.iconst 0, 1) := by decide +kernel
theorem dL_ciphers_155 : decode cL_ciphers 155 = .ok (.iadd, 1) := by decide +kernel
theorem dL_ciphers_156 : decode cL_ciphers 156 = .ok (.istore 6, 2) := by decide +kernel
theorem dL_ciphers_158 : decode cL_ciphers 158 = .ok (.iinc 7 1, 3) := by decide +kernel
theorem dL_ciphers_161 : decode cL_ciphers 161 = .ok (.goto (-63), 3) := by decide +kernel
theorem dL_ciphers_164 : decode cL_ciphers 164 = .ok (.iload 6, 2) := by decide +kernel
theorem dL_ciphers_166 : decode cL_ciphers 166 = .ok (.ireturn, 1) := by decide +kernel
theorem dL_points_0 : decode cL_points 0 = .ok (.aload_n 1, 1) := by decide +kernel
theorem dL_points_1 : decode cL_points 1 = .ok (.bipush 6, 2) := by decide +kernel
theorem dL_points_3 : decode cL_points 3 = .ok (.iload_n 2, 1) := by decide +kernel
theorem dL_points_4 : decode cL_points 4 = .ok (.imul, 1) := by decide +kernel
theorem dL_points_5 : decode cL_points 5 = .ok (.iload_n 3, 1) := by decide +kernel
theorem dL_points_6 : decode cL_points 6 = .ok (.iadd, 1) := by decide +kernel
theorem dL_points_7 : decode cL_points 7 = .ok (.iaload, 1) := by decide +kernel
theorem dL_points_8 : decode cL_points 8 = .ok (.bipush 9, 2) := by decide +kernel
theorem dL_points_10 : decode cL_points 10 = .ok (.if_icmp .le 8, 3) := by decide +kernel
theorem dL_points_13 : decode cL_points 13 = .ok (.bipush 10, 2) := by decide +kernel
theorem dL_points_15 : decode cL_points 15 = .ok (.goto 17, 3) := by decide +kernel
theorem dL_points_18 : decode cL_points 18 = .ok (.bipush 100, 2) := by decide +kernel
theorem dL_points_20 : decode cL_points 20 = .ok (.bipush 10, 2) := by decide +kernel
theorem dL_points_22 : decode cL_points 22 = .ok (.aload_n 1, 1) := by decide +kernel
theorem dL_points_23 : decode cL_points 23 = .ok (.bipush 6, 2) := by decide +kernel
theorem dL_points_25 : decode cL_points 25 = .ok (.iload_n 2, 1) := by decide +kernel
theorem dL_points_26 : decode cL_points 26 = .ok (.imul, 1) := by decide +kernel
theorem dL_points_27 : decode cL_points 27 = .ok (.iload_n 3, 1) := by decide +kernel
theorem dL_points_28 : decode cL_points 28 = .ok (.iadd, 1) := by decide +kernel
theorem dL_points_29 : decode cL_points 29 = .ok (.iaload, 1) := by decide +kernel
theorem dL_points_30 : decode cL_points 30 = .ok (.imul, 1) := by decide +kernel
theorem dL_points_31 : decode cL_points 31 = .ok (.isub, 1) := by decide +kernel
theorem dL_points_32 : decode cL_points 32 = .ok (.istore 4, 2) := by decide +kernel
theorem dL_points_34 : decode cL_points 34 = .ok (.aload_n 0, 1) := by decide +kernel
theorem dL_points_35 : decode cL_points 35 = .ok (.iload_n 2, 1) := by decide +kernel
theorem dL_points_36 : decode cL_points 36 = .ok (.iaload, 1) := by decide +kernel
theorem dL_points_37 : decode cL_points 37 = .ok (.iload_n 3, 1) := by decide +kernel
theorem dL_points_38 : decode cL_points 38 = .ok (.ishr, 1) := by decide +kernel
theorem dL_points_39 : decode cL_points 39 = .ok (.iconst 1, 1) := by decide +kernel
theorem dL_points_40 : decode cL_points 40 = .ok (.iand, 1) := by decide +kernel
theorem dL_points_41 : decode cL_points 41 = .ok (.iconst 1, 1) := by decide +kernel
theorem dL_points_42 : decode cL_points 42 = .ok (.if_icmp .ne 10, 3) := by decide +kernel
theorem dL_points_45 : decode cL_points 45 = .ok (.iload 4, 2) := by decide +kernel
theorem dL_points_47 : decode cL_points 47 = .ok (.iconst 2, 1) := by decide +kernel
theorem dL_points_48 : decode cL_points 48 = .ok (.idiv, 1) := by decide +kernel
theorem dL_points_49 : decode cL_points 49 = .ok (.goto 5, 3) := by decide +kernel
theorem dL_points_52 : decode cL_points 52 = .ok (.iload 4, 2) := by decide +kernel
theorem dL_points_54 : decode cL_points 54 = .ok (.ireturn, 1) := by decide +kernel
set_option maxRecDepth 20000 in
theorem ggL_score_L_points : GoodIn wsL_score wsL_points := goodIn_r _ [4] (by decide +kernel) (by decide +kernel)
set_option maxRecDepth 20000 in
theorem gL_score_L_points : GoodIn wsL_score (va_wsS RL 33 yL_points wsL_points) := goodIn_app (goodIn_of _ (by decide +kernel)) ggL_score_L_points
theorem dL_score_0 : decode cL_score 0 = .ok (.iconst 0, 1) := by decide +kernel
theorem dL_score_1 : decode cL_score 1 = .ok (.istore 4, 2) := by decide +kernel
theorem dL_score_3 : decode cL_score 3 = .ok (.iconst 0, 1) := by decide +kernel
theorem dL_score_4 : decode cL_score 4 = .ok (.istore 5, 2) := by decide +kernel
theorem dL_score_6 : decode cL_score 6 = .ok (.iload 5, 2) := by decide +kernel
theorem dL_score_8 : decode cL_score 8 = .ok (.bipush 6, 2) := by decide +kernel
theorem dL_score_10 : decode cL_score 10 = .ok (.if_icmp .ge 38, 3) := by decide +kernel
theorem dL_score_13 : decode cL_score 13 = .ok (.iload 4, 2) := by decide +kernel
theorem dL_score_15 : decode cL_score 15 = .ok (.aload_n 0, 1) := by decide +kernel
theorem dL_score_16 : decode cL_score 16 = .ok (.iload_n 3, 1) := by decide +kernel
theorem dL_score_17 : decode cL_score 17 = .ok (.iaload, 1) := by decide +kernel
theorem dL_score_18 : decode cL_score 18 = .ok (.iload 5, 2) := by decide +kernel
theorem dL_score_20 : decode cL_score 20 = .ok (.ishr, 1) := by decide +kernel
theorem dL_score_21 : decode cL_score 21 = .ok (.iconst 1, 1) := by decide +kernel
theorem dL_score_22 : decode cL_score 22 = .ok (.iand, 1) := by decide +kernel
theorem dL_score_23 : decode cL_score 23 = .ok (.iconst 1, 1) := by decide +kernel
theorem dL_score_24 : decode cL_score 24 = .ok (.if_icmp .ne 14, 3) := by decide +kernel
theorem dL_score_27 : decode cL_score 27 = .ok (.aload_n 1, 1) := by decide +kernel
theorem dL_score_28 : decode cL_score 28 = .ok (.aload_n 2, 1) := by decide +kernel
theorem dL_score_29 : decode cL_score 29 = .ok (.iload_n 3, 1) := by decide +kernel
theorem dL_score_30 : decode cL_score 30 = .ok (.iload 5, 2) := by decide +kernel
theorem dL_score_32 : decode cL_score 32 = .ok (.invokestatic 33, 3) := by decide +kernel
theorem dL_score_35 : decode cL_score 35 = .ok (.goto 4, 3) := by decide +kernel
theorem dL_score_38 : decode cL_score 38 = .ok (.iconst 0, 1) := by decide +kernel
theorem dL_score_39 : decode cL_score 39 = .ok (.iadd, 1) := by decide +kernel
theorem dL_score_40 : decode cL_score 40 = .ok (.istore 4, 2) := by decide +kernel
theorem dL_score_42 : decode cL_score 42 = .ok (.iinc 5 1, 3) := by decide +kernel
theorem dL_score_45 : decode cL_score 45 = .ok (.goto (-39), 3) := by decide +kernel
theorem dL_score_48 : decode cL_score 48 = .ok (.iload 4, 2) := by decide +kernel
theorem dL_score_50 : decode cL_score 50 = .ok (.ireturn, 1) := by decide +kernel
set_option maxRecDepth 20000 in
theorem ggL_does_X8_hint : GoodIn wsL_does wsX8_hint := goodIn_ca (goodIn_ca (goodIn_ca (goodIn_r _ [9, 10, 11, 12, 13, 14, 15, 16, 17, 18, 19, 20, 8, 21, 22, 23, 24, 25, 26, 27, 28, 29, 30, 31, 32, 33, 34, 35, 36, 37, 38, 39, 40, 41, 42, 43, 44, 45, 46, 47, 48, 49, 50, 51, 52, 53, 54, 55, 56, 57, 58, 59, 60, 61, 62, 63, 64, 65, 66, 67, 68, 69, 70, 71, 72, 73, 74, 75, 76, 77, 78, 79, 80, 81, 82, 83, 84, 85, 86, 87, 88, 89, 90, 91, 92, 93, 94, 95, 96, 97, 98, 99, 100, 101, 102, 103, 104, 105, 106, 107, 108, 109, 110, 111, 112, 113, 114, 115, 116, 117, 118, 119, 120, 121, 122, 123, 124, 125, 126, 127, 128, 129, 130, 131, 132, 133, 134, 135, 136, 137, 138, 139, 140, 141, 142, 143, 144, 145, 146, 147, 148, 149, 150, 151, 152, 153, 154, 155, 156, 157, 158, 159, 160, 161, 162, 163, 164, 165, 166, 167, 168, 169, 170, 171, 172, 173, 409, 410, 411, 412, 413, 414, 415, 416, 417, 418, 419, 420, 421, 422, 423, 424, 425, 426, 427, 428, 429] (by decide +kernel) (by decide +kernel)) (goodIn_sub (fun _ h => List.mem_cons_of_mem _ (List.mem_append_left _ (List.mem_append_left _ (List.mem_append_left _ (List.mem_append_right _ h))))) (by decide +kernel))) (goodIn_sub (fun _ h => List.mem_cons_of_mem _ (List.mem_append_left _ (List.mem_append_left _ (List.mem_append_right _ h)))) (by decide +kernel))) (goodIn_sub (fun _ h => List.mem_cons_of_mem _ (List.mem_append_left _ (List.mem_append_right _ h))) (by decide +kernel))
set_option maxRecDepth 20000 in
theorem gL_does_X8_hint : GoodIn wsL_does (wsV RL 37 RX8 yX8_hint wsX8_hint) := goodIn_app (goodIn_of _ (by decide +kernel)) ggL_does_X8_hint
set_option maxRecDepth 20000 in
theorem ggL_does_X8_stage : GoodIn wsL_does wsX8_stage := goodIn_ca (goodIn_r _ [177, 12, 13, 14, 178, 179, 180, 181, 182, 183, 184, 31, 185, 186, 187, 188, 189, 138, 139, 140, 141, 142, 143, 144, 145, 33, 146, 34, 35, 36, 37, 38, 39, 147, 148, 149, 150, 151, 152, 153, 154, 155, 156, 157, 158, 159, 160, 161, 162, 90, 163, 164, 165, 17, 166, 46, 190, 8, 191, 192, 193, 194, 195, 196, 197, 198, 199, 200, 201, 202, 203, 204, 205, 206, 207, 208, 209, 210, 211, 212, 44, 45, 213, 214, 215, 216, 217, 218, 219, 220, 221, 222, 223, 224, 225, 226, 227, 228, 229, 230, 231, 232, 85, 86, 87, 88, 89, 91, 92, 93, 94, 95, 96, 97, 98, 99, 100, 101, 102, 103, 104, 105, 80, 106, 107, 108, 109, 110, 111, 112, 113, 114, 115, 116, 117, 118, 119, 120, 121, 122, 123, 124, 125, 126, 127, 128, 129, 130, 131, 132, 133, 134, 135, 136, 233, 234, 235, 236, 237, 238, 239, 240, 241, 242, 243, 244, 245, 246, 247, 248, 249, 250, 409, 410, 411, 412, 413, 414, 415, 416, 417, 418, 430, 431, 432, 433, 424, 425, 426, 427, 419, 420, 421, 422, 423, 434, 435] (by decide +kernel) (by decide +kernel)) (goodIn_sub (fun _ h => List.mem_cons_of_mem _ (List.mem_append_left _ (List.mem_append_left _ (List.mem_append_right _ h)))) (by decide +kernel))
set_option maxRecDepth 20000 in
theorem gL_does_X8_stage : GoodIn wsL_does (wsV RL 43 RX8 yX8_stage wsX8_stage) := goodIn_app (goodIn_of _ (by decide +kernel)) ggL_does_X8_stage
set_option maxRecDepth 20000 in
theorem ggL_does_X8_spell : GoodIn wsL_does wsX8_spell := goodIn_ca (goodIn_ca (goodIn_r _ [254, 22, 23, 12, 13, 178, 196, 197, 198, 199, 200, 201, 255, 220, 221, 222, 214, 256, 257, 258, 259, 215, 216, 217, 218, 260, 8, 261, 409, 410, 411, 412, 413, 414, 415, 416, 417, 418, 434, 435] (by decide +kernel) (by decide +kernel)) (goodIn_sub (fun _ h => List.mem_cons_of_mem _ (List.mem_append_left _ (List.mem_append_right _ h))) (by decide +kernel))) (goodIn_sub (fun _ h => List.mem_cons_of_mem _ (List.mem_append_left _ (List.mem_append_left _ (List.mem_append_right _ h)))) (by decide +kernel))
set_option maxRecDepth 20000 in
theorem gL_does_X8_spell : GoodIn wsL_does (wsV RL 47 RX8 yX8_spell wsX8_spell) := goodIn_app (goodIn_of _ (by decide +kernel)) ggL_does_X8_spell
set_option maxRecDepth 20000 in
theorem ggL_does_X8_cipherLength : GoodIn wsL_does wsX8_cipherLength := goodIn_ca (goodIn_ca (goodIn_r _ [265, 266, 267, 268, 269, 270, 8, 271, 22, 23, 179, 272, 202, 35, 36, 37, 38, 39, 273, 148, 149, 150, 151, 152, 153, 154, 155, 156, 157, 158, 159, 160, 161, 162, 90, 274, 275, 276, 182, 277, 230, 278, 279, 280, 281, 229, 282, 197, 198, 199, 200, 201, 283, 284, 285, 286, 287, 288, 289, 290, 291, 292, 216, 217, 218, 214, 293, 260, 261, 409, 410, 411, 412, 413, 414, 415, 416, 417, 418, 425, 426, 427, 430, 431, 432, 433, 434, 435] (by decide +kernel) (by decide +kernel)) (goodIn_sub (fun _ h => List.mem_cons_of_mem _ (List.mem_append_right _ h)) (by decide +kernel))) (goodIn_sub (fun _ h => List.mem_cons_of_mem _ (List.mem_append_left _ (List.mem_append_right _ h))) (by decide +kernel))
set_option maxRecDepth 20000 in
theorem gL_does_X8_cipherLength : GoodIn wsL_does (wsV RL 51 RX8 yX8_cipherLength wsX8_cipherLength) := goodIn_app (goodIn_of _ (by decide +kernel)) ggL_does_X8_cipherLength
set_option maxRecDepth 20000 in
theorem ggL_does_X8_cipherAt : GoodIn wsL_does wsX8_cipherAt := goodIn_ca (goodIn_ca (goodIn_r _ [297, 266, 267, 268, 269, 270, 8, 271, 22, 23, 179, 272, 202, 35, 36, 37, 38, 39, 273, 148, 149, 150, 151, 152, 153, 154, 155, 156, 157, 158, 159, 160, 161, 162, 90, 274, 275, 276, 182, 277, 230, 278, 279, 280, 281, 229, 282, 197, 198, 199, 200, 201, 283, 284, 285, 286, 287, 288, 289, 290, 291, 292, 216, 217, 218, 214, 293, 260, 261, 298, 299, 300, 301, 302, 409, 410, 411, 412, 413, 414, 415, 416, 417, 418, 425, 426, 427, 430, 431, 432, 433, 434, 435] (by decide +kernel) (by decide +kernel)) (goodIn_sub (fun _ h => List.mem_cons_of_mem _ (List.mem_append_right _ h)) (by decide +kernel))) (goodIn_sub (fun _ h => List.mem_cons_of_mem _ (List.mem_append_left _ (List.mem_append_right _ h))) (by decide +kernel))
set_option maxRecDepth 20000 in
theorem gL_does_X8_cipherAt : GoodIn wsL_does (wsV RL 54 RX8 yX8_cipherAt wsX8_cipherAt) := goodIn_app (goodIn_of _ (by decide +kernel)) ggL_does_X8_cipherAt
set_option maxRecDepth 20000 in
theorem ggL_does_X8_addWalker : GoodIn wsL_does wsX8_addWalker := goodIn_ca (goodIn_ca (goodIn_ca (goodIn_r _ [306, 10, 11, 12, 13, 307, 308, 309, 310, 19, 20, 8, 21, 22, 23, 24, 25, 26, 27, 202, 35, 36, 37, 38, 39, 311, 312, 313, 314, 44, 45, 213, 315, 316, 317, 318, 319, 320, 321, 322, 323, 324, 232, 85, 86, 87, 88, 89, 90, 91, 92, 93, 94, 95, 96, 97, 98, 99, 100, 101, 102, 103, 104, 105, 80, 106, 107, 108, 109, 110, 111, 112, 113, 114, 115, 116, 117, 118, 119, 120, 121, 122, 123, 124, 125, 126, 127, 128, 129, 130, 131, 132, 133, 134, 135, 136, 409, 410, 411, 412, 413, 414, 415, 416, 417, 418, 436, 437, 438, 439, 440, 441, 442, 443, 444, 425, 426, 427] (by decide +kernel) (by decide +kernel)) (goodIn_sub (fun _ h => List.mem_cons_of_mem _ (List.mem_append_left _ (List.mem_append_left _ (List.mem_append_left _ (List.mem_append_right _ h))))) (by decide +kernel))) (goodIn_sub (fun _ h => List.mem_cons_of_mem _ (List.mem_append_left _ (List.mem_append_left _ (List.mem_append_right _ h)))) (by decide +kernel))) (goodIn_sub (fun _ h => List.mem_cons_of_mem _ (List.mem_append_left _ (List.mem_append_right _ h))) (by decide +kernel))
set_option maxRecDepth 20000 in
theorem gL_does_X8_addWalker : GoodIn wsL_does (wsV RL 58 RX8 yX8_addWalker wsX8_addWalker) := goodIn_app (goodIn_of _ (by decide +kernel)) ggL_does_X8_addWalker
set_option maxRecDepth 20000 in
theorem ggL_does_X8_addWarden : GoodIn wsL_does wsX8_addWarden := goodIn_ca (goodIn_ca (goodIn_r _ [328, 12, 13, 329, 330, 19, 20, 8, 21, 22, 23, 24, 25, 26, 27, 409, 410, 411, 412, 413, 414, 415, 416, 417, 418] (by decide +kernel) (by decide +kernel)) (goodIn_sub (fun _ h => List.mem_cons_of_mem _ (List.mem_append_left _ (List.mem_append_left _ (List.mem_append_right _ h)))) (by decide +kernel))) (goodIn_sub (fun _ h => List.mem_cons_of_mem _ (List.mem_append_left _ (List.mem_append_right _ h))) (by decide +kernel))
set_option maxRecDepth 20000 in
theorem gL_does_X8_addWarden : GoodIn wsL_does (wsV RL 61 RX8 yX8_addWarden wsX8_addWarden) := goodIn_app (goodIn_of _ (by decide +kernel)) ggL_does_X8_addWarden
set_option maxRecDepth 20000 in
theorem ggL_does_X8_answer : GoodIn wsL_does wsX8_answer := goodIn_ca (goodIn_ca (goodIn_r _ [334, 12, 13, 178, 335, 336, 337, 338, 8, 339, 22, 23, 307, 340, 202, 35, 36, 37, 38, 39, 273, 148, 149, 150, 151, 152, 153, 154, 155, 156, 157, 158, 159, 160, 161, 162, 90, 268, 269, 270, 271, 179, 272, 341, 342, 343, 310, 344, 318, 345, 346, 347, 348, 319, 349, 350, 351, 352, 323, 274, 275, 276, 182, 277, 230, 353, 354, 355, 356, 321, 357, 358, 359, 360, 229, 361, 362, 363, 199, 364, 201, 215, 216, 217, 218, 214, 365, 366, 367, 368, 322, 369, 370, 371, 372, 315, 373, 374, 375, 376, 317, 377, 378, 379, 105, 80, 106, 380, 381, 382, 383, 384, 385, 386, 387, 388, 389, 390, 391, 392, 393, 409, 410, 411, 412, 413, 414, 415, 416, 417, 418, 425, 426, 427, 436, 437, 438, 439, 440, 441, 442, 443, 444, 430, 431, 432, 433, 434, 435, 445, 446] (by decide +kernel) (by decide +kernel)) (goodIn_sub (fun _ h => List.mem_cons_of_mem _ (List.mem_append_left _ (List.mem_append_left _ (List.mem_append_right _ h)))) (by decide +kernel))) (goodIn_sub (fun _ h => List.mem_cons_of_mem _ (List.mem_append_left _ (List.mem_append_right _ h))) (by decide +kernel))
set_option maxRecDepth 20000 in
theorem gL_does_X8_answer : GoodIn wsL_does (wsV RL 64 RX8 yX8_answer wsX8_answer) := goodIn_app (goodIn_of _ (by decide +kernel)) ggL_does_X8_answer
set_option maxRecDepth 20000 in
theorem ggL_does_X8_tell : GoodIn wsL_does wsX8_tell := goodIn_ca (goodIn_ca (goodIn_ca (goodIn_r _ [397, 10, 11, 12, 13, 335, 336, 337, 338, 8, 339, 22, 23, 307, 340, 202, 35, 36, 37, 38, 39, 273, 148, 149, 150, 151, 152, 153, 154, 155, 156, 157, 158, 159, 160, 161, 162, 90, 268, 269, 270, 271, 179, 272, 398, 399, 400, 310, 401, 321, 349, 350, 351, 352, 323, 402, 76, 26, 77, 78, 79, 80, 81, 82, 70, 71, 83, 73, 74, 403, 374, 375, 376, 317, 404, 405, 406, 407, 384, 385, 386, 387, 388, 389, 390, 391, 392, 393, 408, 370, 371, 372, 315, 373, 377, 378, 379, 105, 106, 409, 410, 411, 412, 413, 414, 415, 416, 417, 418, 425, 426, 427, 436, 437, 438, 439, 440, 441, 442, 443, 444, 445, 446] (by decide +kernel) (by decide +kernel)) (goodIn_sub (fun _ h => List.mem_cons_of_mem _ (List.mem_append_left _ (List.mem_append_left _ (List.mem_append_left _ (List.mem_append_right _ h))))) (by decide +kernel))) (goodIn_sub (fun _ h => List.mem_cons_of_mem _ (List.mem_append_left _ (List.mem_append_left _ (List.mem_append_right _ h)))) (by decide +kernel))) (goodIn_sub (fun _ h => List.mem_cons_of_mem _ (List.mem_append_left _ (List.mem_append_right _ h))) (by decide +kernel))
set_option maxRecDepth 20000 in
theorem gL_does_X8_tell : GoodIn wsL_does (wsV RL 68 RX8 yX8_tell wsX8_tell) := goodIn_app (goodIn_of _ (by decide +kernel)) ggL_does_X8_tell
theorem dL_does_0 : decode cL_does 0 = .ok (.iload_n 1, 1) := by decide +kernel
theorem dL_does_1 : decode cL_does 1 = .ok (.ifCond .ne 41, 3) := by decide +kernel
theorem dL_does_4 : decode cL_does 4 = .ok (.aload_n 0, 1) := by decide +kernel
theorem dL_does_5 : decode cL_does 5 = .ok (.iload_n 2, 1) := by decide +kernel
theorem dL_does_6 : decode cL_does 6 = .ok (.bipush 8, 2) := by decide +kernel
theorem dL_does_8 : decode cL_does 8 = .ok (.irem, 1) := by decide +kernel
theorem dL_does_9 : decode cL_does 9 = .ok (.iload_n 2, 1) := by decide +kernel
theorem dL_does_10 : decode cL_does 10 = .ok (.bipush 8, 2) := by decide +kernel
theorem dL_does_12 : decode cL_does 12 = .ok (.idiv, 1) := by decide +kernel
theorem dL_does_13 : decode cL_does 13 = .ok (.bipush 16, 2) := by decide +kernel
theorem dL_does_15 : decode cL_does 15 = .ok (.irem, 1) := by decide +kernel
theorem dL_does_16 : decode cL_does 16 = .ok (.iload_n 2, 1) := by decide +kernel
theorem dL_does_17 : decode cL_does 17 = .ok (.sipush 128, 3) := by decide +kernel
theorem dL_does_20 : decode cL_does 20 = .ok (.idiv, 1) := by decide +kernel
theorem dL_does_21 : decode cL_does 21 = .ok (.bipush 64, 2) := by decide +kernel
theorem dL_does_23 : decode cL_does 23 = .ok (.irem, 1) := by decide +kernel
theorem dL_does_24 : decode cL_does 24 = .ok (.iload_n 2, 1) := by decide +kernel
theorem dL_does_25 : decode cL_does 25 = .ok (.sipush 8191, 3) := by decide +kernel
theorem dL_does_28 : decode cL_does 28 = .ok (.if_icmp .le 7, 3) := by decide +kernel
theorem dL_does_31 : decode cL_does 31 = .ok (.iconst 1, 1) := by decide +kernel
theorem dL_does_32 : decode cL_does 32 = .ok (.goto 4, 3) := by decide +kernel
theorem dL_does_35 : decode cL_does 35 = .ok (.iconst 0, 1) := by decide +kernel
theorem dL_does_36 : decode cL_does 36 = .ok (.invokevirtual 37, 3) := by decide +kernel
theorem dL_does_39 : decode cL_does 39 = .ok (.goto 114, 3) := by decide +kernel
theorem dL_does_42 : decode cL_does 42 = .ok (.iload_n 1, 1) := by decide +kernel
theorem dL_does_43 : decode cL_does 43 = .ok (.iconst 1, 1) := by decide +kernel
theorem dL_does_44 : decode cL_does 44 = .ok (.if_icmp .ne 10, 3) := by decide +kernel
theorem dL_does_47 : decode cL_does 47 = .ok (.aload_n 0, 1) := by decide +kernel
theorem dL_does_48 : decode cL_does 48 = .ok (.invokevirtual 43, 3) := by decide +kernel
theorem dL_does_51 : decode cL_does 51 = .ok (.goto 102, 3) := by decide +kernel
theorem dL_does_54 : decode cL_does 54 = .ok (.iload_n 1, 1) := by decide +kernel
theorem dL_does_55 : decode cL_does 55 = .ok (.iconst 2, 1) := by decide +kernel
theorem dL_does_56 : decode cL_does 56 = .ok (.if_icmp .ne 11, 3) := by decide +kernel
theorem dL_does_59 : decode cL_does 59 = .ok (.aload_n 0, 1) := by decide +kernel
theorem dL_does_60 : decode cL_does 60 = .ok (.iload_n 2, 1) := by decide +kernel
theorem dL_does_61 : decode cL_does 61 = .ok (.invokevirtual 47, 3) := by decide +kernel
theorem dL_does_64 : decode cL_does 64 = .ok (.goto 89, 3) := by decide +kernel
theorem dL_does_67 : decode cL_does 67 = .ok (.iload_n 1, 1) := by decide +kernel
