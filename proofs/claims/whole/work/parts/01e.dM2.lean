theorem d_M_distinct_0 : decode b_M_distinct 0 = .ok (.aload_n 0, 1) := by decide +kernel
theorem d_M_distinct_1 : decode b_M_distinct 1 = .ok (.iconst 1, 1) := by decide +kernel
theorem d_M_distinct_2 : decode b_M_distinct 2 = .ok (.iload_n 1, 1) := by decide +kernel
theorem d_M_distinct_3 : decode b_M_distinct 3 = .ok (.iload_n 1, 1) := by decide +kernel
theorem d_M_distinct_4 : decode b_M_distinct 4 = .ok (.iload_n 2, 1) := by decide +kernel
theorem d_M_distinct_5 : decode b_M_distinct 5 = .ok (.invokevirtual 65, 3) := by decide +kernel
theorem d_M_distinct_8 : decode b_M_distinct 8 = .ok (.istore_n 3, 1) := by decide +kernel
theorem d_M_distinct_9 : decode b_M_distinct 9 = .ok (.iload_n 3, 1) := by decide +kernel
theorem d_M_distinct_10 : decode b_M_distinct 10 = .ok (.ifCond .eq 5, 3) := by decide +kernel
theorem d_M_distinct_13 : decode b_M_distinct 13 = .ok (.iload_n 3, 1) := by decide +kernel
theorem d_M_distinct_14 : decode b_M_distinct 14 = .ok (.ireturn, 1) := by decide +kernel
theorem d_M_distinct_15 : decode b_M_distinct 15 = .ok (.aload_n 0, 1) := by decide +kernel
theorem d_M_distinct_16 : decode b_M_distinct 16 = .ok (.iload_n 1, 1) := by decide +kernel
theorem d_M_distinct_17 : decode b_M_distinct 17 = .ok (.iload_n 1, 1) := by decide +kernel
theorem d_M_distinct_18 : decode b_M_distinct 18 = .ok (.iconst (-1), 1) := by decide +kernel
theorem d_M_distinct_19 : decode b_M_distinct 19 = .ok (.invokevirtual 84, 3) := by decide +kernel
theorem d_M_distinct_22 : decode b_M_distinct 22 = .ok (.istore 4, 2) := by decide +kernel
theorem d_M_distinct_24 : decode b_M_distinct 24 = .ok (.iload 4, 2) := by decide +kernel
theorem d_M_distinct_26 : decode b_M_distinct 26 = .ok (.ifCond .lt 34, 3) := by decide +kernel
theorem d_M_distinct_29 : decode b_M_distinct 29 = .ok (.aload_n 0, 1) := by decide +kernel
theorem d_M_distinct_30 : decode b_M_distinct 30 = .ok (.aload_n 0, 1) := by decide +kernel
theorem d_M_distinct_31 : decode b_M_distinct 31 = .ok (.getfield 19, 3) := by decide +kernel
theorem d_M_distinct_34 : decode b_M_distinct 34 = .ok (.iload 4, 2) := by decide +kernel
theorem d_M_distinct_36 : decode b_M_distinct 36 = .ok (.iaload, 1) := by decide +kernel
theorem d_M_distinct_37 : decode b_M_distinct 37 = .ok (.aload_n 0, 1) := by decide +kernel
theorem d_M_distinct_38 : decode b_M_distinct 38 = .ok (.getfield 22, 3) := by decide +kernel
theorem d_M_distinct_41 : decode b_M_distinct 41 = .ok (.iload 4, 2) := by decide +kernel
theorem d_M_distinct_43 : decode b_M_distinct 43 = .ok (.iaload, 1) := by decide +kernel
theorem d_M_distinct_44 : decode b_M_distinct 44 = .ok (.invokevirtual 80, 3) := by decide +kernel
theorem d_M_distinct_47 : decode b_M_distinct 47 = .ok (.aload_n 0, 1) := by decide +kernel
theorem d_M_distinct_48 : decode b_M_distinct 48 = .ok (.iload_n 1, 1) := by decide +kernel
theorem d_M_distinct_49 : decode b_M_distinct 49 = .ok (.iload_n 1, 1) := by decide +kernel
theorem d_M_distinct_50 : decode b_M_distinct 50 = .ok (.iload 4, 2) := by decide +kernel
theorem d_M_distinct_52 : decode b_M_distinct 52 = .ok (.invokevirtual 84, 3) := by decide +kernel
theorem d_M_distinct_55 : decode b_M_distinct 55 = .ok (.istore 4, 2) := by decide +kernel
theorem d_M_distinct_57 : decode b_M_distinct 57 = .ok (.goto (-33), 3) := by decide +kernel
theorem d_M_distinct_60 : decode b_M_distinct 60 = .ok (.aload_n 0, 1) := by decide +kernel
theorem d_M_distinct_61 : decode b_M_distinct 61 = .ok (.aload_n 0, 1) := by decide +kernel
theorem d_M_distinct_62 : decode b_M_distinct 62 = .ok (.aload_n 0, 1) := by decide +kernel
theorem d_M_distinct_63 : decode b_M_distinct 63 = .ok (.getfield 16, 3) := by decide +kernel
theorem d_M_distinct_66 : decode b_M_distinct 66 = .ok (.iload_n 1, 1) := by decide +kernel
theorem d_M_distinct_67 : decode b_M_distinct 67 = .ok (.iaload, 1) := by decide +kernel
theorem d_M_distinct_68 : decode b_M_distinct 68 = .ok (.invokevirtual 73, 3) := by decide +kernel
theorem d_M_distinct_71 : decode b_M_distinct 71 = .ok (.aload_n 0, 1) := by decide +kernel
theorem d_M_distinct_72 : decode b_M_distinct 72 = .ok (.getfield 16, 3) := by decide +kernel
theorem d_M_distinct_75 : decode b_M_distinct 75 = .ok (.iload_n 1, 1) := by decide +kernel
theorem d_M_distinct_76 : decode b_M_distinct 76 = .ok (.iaload, 1) := by decide +kernel
theorem d_M_distinct_77 : decode b_M_distinct 77 = .ok (.invokestatic 38, 3) := by decide +kernel
theorem d_M_distinct_80 : decode b_M_distinct 80 = .ok (.i2l, 1) := by decide +kernel
theorem d_M_distinct_81 : decode b_M_distinct 81 = .ok (.ladd, 1) := by decide +kernel
theorem d_M_distinct_82 : decode b_M_distinct 82 = .ok (.aload_n 0, 1) := by decide +kernel
theorem d_M_distinct_83 : decode b_M_distinct 83 = .ok (.getfield 55, 3) := by decide +kernel
theorem d_M_distinct_86 : decode b_M_distinct 86 = .ok (.invokestatic 38, 3) := by decide +kernel
theorem d_M_distinct_89 : decode b_M_distinct 89 = .ok (.i2l, 1) := by decide +kernel
theorem d_M_distinct_90 : decode b_M_distinct 90 = .ok (.ladd, 1) := by decide +kernel
theorem d_M_distinct_91 : decode b_M_distinct 91 = .ok (.putfield 58, 3) := by decide +kernel
theorem d_M_distinct_94 : decode b_M_distinct 94 = .ok (.aload_n 0, 1) := by decide +kernel
theorem d_M_distinct_95 : decode b_M_distinct 95 = .ok (.iload_n 2, 1) := by decide +kernel
theorem d_M_distinct_96 : decode b_M_distinct 96 = .ok (.invokevirtual 77, 3) := by decide +kernel
theorem d_M_distinct_99 : decode b_M_distinct 99 = .ok (.ireturn, 1) := by decide +kernel
theorem d_M_combine_0 : decode b_M_combine 0 = .ok (.aload_n 0, 1) := by decide +kernel
theorem d_M_combine_1 : decode b_M_combine 1 = .ok (.iload_n 1, 1) := by decide +kernel
theorem d_M_combine_2 : decode b_M_combine 2 = .ok (.ifCond .lt 12, 3) := by decide +kernel
theorem d_M_combine_5 : decode b_M_combine 5 = .ok (.iload_n 1, 1) := by decide +kernel
theorem d_M_combine_6 : decode b_M_combine 6 = .ok (.iconst 3, 1) := by decide +kernel
theorem d_M_combine_7 : decode b_M_combine 7 = .ok (.if_icmp .gt 7, 3) := by decide +kernel
theorem d_M_combine_10 : decode b_M_combine 10 = .ok (.iconst 1, 1) := by decide +kernel
theorem d_M_combine_11 : decode b_M_combine 11 = .ok (.goto 4, 3) := by decide +kernel
theorem d_M_combine_14 : decode b_M_combine 14 = .ok (.iconst 0, 1) := by decide +kernel
theorem d_M_combine_15 : decode b_M_combine 15 = .ok (.iload_n 2, 1) := by decide +kernel
theorem d_M_combine_16 : decode b_M_combine 16 = .ok (.iload_n 3, 1) := by decide +kernel
theorem d_M_combine_17 : decode b_M_combine 17 = .ok (.iload 4, 2) := by decide +kernel
theorem d_M_combine_19 : decode b_M_combine 19 = .ok (.invokevirtual 65, 3) := by decide +kernel
theorem d_M_combine_22 : decode b_M_combine 22 = .ok (.istore 5, 2) := by decide +kernel
theorem d_M_combine_24 : decode b_M_combine 24 = .ok (.iload 5, 2) := by decide +kernel
theorem d_M_combine_26 : decode b_M_combine 26 = .ok (.ifCond .eq 6, 3) := by decide +kernel
theorem d_M_combine_29 : decode b_M_combine 29 = .ok (.iload 5, 2) := by decide +kernel
theorem d_M_combine_31 : decode b_M_combine 31 = .ok (.ireturn, 1) := by decide +kernel
theorem d_M_combine_32 : decode b_M_combine 32 = .ok (.aload_n 0, 1) := by decide +kernel
theorem d_M_combine_33 : decode b_M_combine 33 = .ok (.iload_n 2, 1) := by decide +kernel
theorem d_M_combine_34 : decode b_M_combine 34 = .ok (.iload_n 3, 1) := by decide +kernel
theorem d_M_combine_35 : decode b_M_combine 35 = .ok (.iconst (-1), 1) := by decide +kernel
theorem d_M_combine_36 : decode b_M_combine 36 = .ok (.invokevirtual 84, 3) := by decide +kernel
theorem d_M_combine_39 : decode b_M_combine 39 = .ok (.istore 6, 2) := by decide +kernel
theorem d_M_combine_41 : decode b_M_combine 41 = .ok (.iload 6, 2) := by decide +kernel
theorem d_M_combine_43 : decode b_M_combine 43 = .ok (.ifCond .lt 155, 3) := by decide +kernel
theorem d_M_combine_46 : decode b_M_combine 46 = .ok (.aload_n 0, 1) := by decide +kernel
theorem d_M_combine_47 : decode b_M_combine 47 = .ok (.iload_n 2, 1) := by decide +kernel
theorem d_M_combine_48 : decode b_M_combine 48 = .ok (.aload_n 0, 1) := by decide +kernel
theorem d_M_combine_49 : decode b_M_combine 49 = .ok (.getfield 19, 3) := by decide +kernel
theorem d_M_combine_52 : decode b_M_combine 52 = .ok (.iload 6, 2) := by decide +kernel
theorem d_M_combine_54 : decode b_M_combine 54 = .ok (.iaload, 1) := by decide +kernel
theorem d_M_combine_55 : decode b_M_combine 55 = .ok (.aload_n 0, 1) := by decide +kernel
theorem d_M_combine_56 : decode b_M_combine 56 = .ok (.getfield 22, 3) := by decide +kernel
theorem d_M_combine_59 : decode b_M_combine 59 = .ok (.iload 6, 2) := by decide +kernel
theorem d_M_combine_61 : decode b_M_combine 61 = .ok (.iaload, 1) := by decide +kernel
theorem d_M_combine_62 : decode b_M_combine 62 = .ok (.invokevirtual 88, 3) := by decide +kernel
theorem d_M_combine_65 : decode b_M_combine 65 = .ok (.istore 7, 2) := by decide +kernel
theorem d_M_combine_67 : decode b_M_combine 67 = .ok (.aload_n 0, 1) := by decide +kernel
theorem d_M_combine_68 : decode b_M_combine 68 = .ok (.iload_n 3, 1) := by decide +kernel
theorem d_M_combine_69 : decode b_M_combine 69 = .ok (.aload_n 0, 1) := by decide +kernel
theorem d_M_combine_70 : decode b_M_combine 70 = .ok (.getfield 19, 3) := by decide +kernel
theorem d_M_combine_73 : decode b_M_combine 73 = .ok (.iload 6, 2) := by decide +kernel
theorem d_M_combine_75 : decode b_M_combine 75 = .ok (.iaload, 1) := by decide +kernel
theorem d_M_combine_76 : decode b_M_combine 76 = .ok (.aload_n 0, 1) := by decide +kernel
theorem d_M_combine_77 : decode b_M_combine 77 = .ok (.getfield 22, 3) := by decide +kernel
theorem d_M_combine_80 : decode b_M_combine 80 = .ok (.iload 6, 2) := by decide +kernel
theorem d_M_combine_82 : decode b_M_combine 82 = .ok (.iaload, 1) := by decide +kernel
theorem d_M_combine_83 : decode b_M_combine 83 = .ok (.invokevirtual 88, 3) := by decide +kernel
theorem d_M_combine_86 : decode b_M_combine 86 = .ok (.istore 8, 2) := by decide +kernel
theorem d_M_combine_88 : decode b_M_combine 88 = .ok (.iload_n 1, 1) := by decide +kernel
theorem d_M_combine_89 : decode b_M_combine 89 = .ok (.ifCond .ne 20, 3) := by decide +kernel
theorem d_M_combine_92 : decode b_M_combine 92 = .ok (.iload 7, 2) := by decide +kernel
theorem d_M_combine_94 : decode b_M_combine 94 = .ok (.iload 8, 2) := by decide +kernel
theorem d_M_combine_96 : decode b_M_combine 96 = .ok (.if_icmp .le 8, 3) := by decide +kernel
theorem d_M_combine_99 : decode b_M_combine 99 = .ok (.iload 7, 2) := by decide +kernel
theorem d_M_combine_101 : decode b_M_combine 101 = .ok (.goto 48, 3) := by decide +kernel
theorem d_M_combine_104 : decode b_M_combine 104 = .ok (.iload 8, 2) := by decide +kernel
theorem d_M_combine_106 : decode b_M_combine 106 = .ok (.goto 43, 3) := by decide +kernel
theorem d_M_combine_109 : decode b_M_combine 109 = .ok (.iload_n 1, 1) := by decide +kernel
theorem d_M_combine_110 : decode b_M_combine 110 = .ok (.iconst 1, 1) := by decide +kernel
theorem d_M_combine_111 : decode b_M_combine 111 = .ok (.if_icmp .ne 20, 3) := by decide +kernel
theorem d_M_combine_114 : decode b_M_combine 114 = .ok (.iload 7, 2) := by decide +kernel
theorem d_M_combine_116 : decode b_M_combine 116 = .ok (.iload 8, 2) := by decide +kernel
theorem d_M_combine_118 : decode b_M_combine 118 = .ok (.if_icmp .ge 8, 3) := by decide +kernel
theorem d_M_combine_121 : decode b_M_combine 121 = .ok (.iload 7, 2) := by decide +kernel
theorem d_M_combine_123 : decode b_M_combine 123 = .ok (.goto 26, 3) := by decide +kernel
theorem d_M_combine_126 : decode b_M_combine 126 = .ok (.iload 8, 2) := by decide +kernel
theorem d_M_combine_128 : decode b_M_combine 128 = .ok (.goto 21, 3) := by decide +kernel
theorem d_M_combine_131 : decode b_M_combine 131 = .ok (.iload_n 1, 1) := by decide +kernel
theorem d_M_combine_132 : decode b_M_combine 132 = .ok (.iconst 2, 1) := by decide +kernel
theorem d_M_combine_133 : decode b_M_combine 133 = .ok (.if_icmp .ne 11, 3) := by decide +kernel
theorem d_M_combine_136 : decode b_M_combine 136 = .ok (.iload 7, 2) := by decide +kernel
theorem d_M_combine_138 : decode b_M_combine 138 = .ok (.iload 8, 2) := by decide +kernel
theorem d_M_combine_140 : decode b_M_combine 140 = .ok (.isub, 1) := by decide +kernel
theorem d_M_combine_141 : decode b_M_combine 141 = .ok (.goto 8, 3) := by decide +kernel
theorem d_M_combine_144 : decode b_M_combine 144 = .ok (.iload 7, 2) := by decide +kernel
theorem d_M_combine_146 : decode b_M_combine 146 = .ok (.iload 8, 2) := by decide +kernel
theorem d_M_combine_148 : decode b_M_combine 148 = .ok (.iadd, 1) := by decide +kernel
theorem d_M_combine_149 : decode b_M_combine 149 = .ok (.istore 9, 2) := by decide +kernel
theorem d_M_combine_151 : decode b_M_combine 151 = .ok (.iconst 0, 1) := by decide +kernel
theorem d_M_combine_152 : decode b_M_combine 152 = .ok (.istore 10, 2) := by decide +kernel
theorem d_M_combine_154 : decode b_M_combine 154 = .ok (.iload 10, 2) := by decide +kernel
theorem d_M_combine_156 : decode b_M_combine 156 = .ok (.iload 9, 2) := by decide +kernel
theorem d_M_combine_158 : decode b_M_combine 158 = .ok (.if_icmp .ge 27, 3) := by decide +kernel
theorem d_M_combine_161 : decode b_M_combine 161 = .ok (.aload_n 0, 1) := by decide +kernel
theorem d_M_combine_162 : decode b_M_combine 162 = .ok (.aload_n 0, 1) := by decide +kernel
theorem d_M_combine_163 : decode b_M_combine 163 = .ok (.getfield 19, 3) := by decide +kernel
theorem d_M_combine_166 : decode b_M_combine 166 = .ok (.iload 6, 2) := by decide +kernel
theorem d_M_combine_168 : decode b_M_combine 168 = .ok (.iaload, 1) := by decide +kernel
theorem d_M_combine_169 : decode b_M_combine 169 = .ok (.aload_n 0, 1) := by decide +kernel
theorem d_M_combine_170 : decode b_M_combine 170 = .ok (.getfield 22, 3) := by decide +kernel
theorem d_M_combine_173 : decode b_M_combine 173 = .ok (.iload 6, 2) := by decide +kernel
theorem d_M_combine_175 : decode b_M_combine 175 = .ok (.iaload, 1) := by decide +kernel
theorem d_M_combine_176 : decode b_M_combine 176 = .ok (.invokevirtual 80, 3) := by decide +kernel
theorem d_M_combine_179 : decode b_M_combine 179 = .ok (.iinc 10 1, 3) := by decide +kernel
theorem d_M_combine_182 : decode b_M_combine 182 = .ok (.goto (-28), 3) := by decide +kernel
theorem d_M_combine_185 : decode b_M_combine 185 = .ok (.aload_n 0, 1) := by decide +kernel
theorem d_M_combine_186 : decode b_M_combine 186 = .ok (.iload_n 2, 1) := by decide +kernel
theorem d_M_combine_187 : decode b_M_combine 187 = .ok (.iload_n 3, 1) := by decide +kernel
theorem d_M_combine_188 : decode b_M_combine 188 = .ok (.iload 6, 2) := by decide +kernel
theorem d_M_combine_190 : decode b_M_combine 190 = .ok (.invokevirtual 84, 3) := by decide +kernel
theorem d_M_combine_193 : decode b_M_combine 193 = .ok (.istore 6, 2) := by decide +kernel
theorem d_M_combine_195 : decode b_M_combine 195 = .ok (.goto (-154), 3) := by decide +kernel
theorem d_M_combine_198 : decode b_M_combine 198 = .ok (.aload_n 0, 1) := by decide +kernel
theorem d_M_combine_199 : decode b_M_combine 199 = .ok (.aload_n 0, 1) := by decide +kernel
theorem d_M_combine_200 : decode b_M_combine 200 = .ok (.aload_n 0, 1) := by decide +kernel
theorem d_M_combine_201 : decode b_M_combine 201 = .ok (.getfield 16, 3) := by decide +kernel
theorem d_M_combine_204 : decode b_M_combine 204 = .ok (.iload_n 2, 1) := by decide +kernel
theorem d_M_combine_205 : decode b_M_combine 205 = .ok (.iaload, 1) := by decide +kernel
theorem d_M_combine_206 : decode b_M_combine 206 = .ok (.invokevirtual 73, 3) := by decide +kernel
theorem d_M_combine_209 : decode b_M_combine 209 = .ok (.aload_n 0, 1) := by decide +kernel
theorem d_M_combine_210 : decode b_M_combine 210 = .ok (.aload_n 0, 1) := by decide +kernel
theorem d_M_combine_211 : decode b_M_combine 211 = .ok (.getfield 16, 3) := by decide +kernel
theorem d_M_combine_214 : decode b_M_combine 214 = .ok (.iload_n 3, 1) := by decide +kernel
theorem d_M_combine_215 : decode b_M_combine 215 = .ok (.iaload, 1) := by decide +kernel
theorem d_M_combine_216 : decode b_M_combine 216 = .ok (.invokevirtual 73, 3) := by decide +kernel
theorem d_M_combine_219 : decode b_M_combine 219 = .ok (.ladd, 1) := by decide +kernel
theorem d_M_combine_220 : decode b_M_combine 220 = .ok (.aload_n 0, 1) := by decide +kernel
theorem d_M_combine_221 : decode b_M_combine 221 = .ok (.getfield 16, 3) := by decide +kernel
theorem d_M_combine_224 : decode b_M_combine 224 = .ok (.iload_n 2, 1) := by decide +kernel
theorem d_M_combine_225 : decode b_M_combine 225 = .ok (.iaload, 1) := by decide +kernel
theorem d_M_combine_226 : decode b_M_combine 226 = .ok (.invokestatic 38, 3) := by decide +kernel
theorem d_M_combine_229 : decode b_M_combine 229 = .ok (.i2l, 1) := by decide +kernel
theorem d_M_combine_230 : decode b_M_combine 230 = .ok (.ladd, 1) := by decide +kernel
theorem d_M_combine_231 : decode b_M_combine 231 = .ok (.aload_n 0, 1) := by decide +kernel
theorem d_M_combine_232 : decode b_M_combine 232 = .ok (.getfield 16, 3) := by decide +kernel
theorem d_M_combine_235 : decode b_M_combine 235 = .ok (.iload_n 3, 1) := by decide +kernel
theorem d_M_combine_236 : decode b_M_combine 236 = .ok (.iaload, 1) := by decide +kernel
theorem d_M_combine_237 : decode b_M_combine 237 = .ok (.invokestatic 38, 3) := by decide +kernel
theorem d_M_combine_240 : decode b_M_combine 240 = .ok (.i2l, 1) := by decide +kernel
theorem d_M_combine_241 : decode b_M_combine 241 = .ok (.ladd, 1) := by decide +kernel
theorem d_M_combine_242 : decode b_M_combine 242 = .ok (.aload_n 0, 1) := by decide +kernel
theorem d_M_combine_243 : decode b_M_combine 243 = .ok (.getfield 55, 3) := by decide +kernel
theorem d_M_combine_246 : decode b_M_combine 246 = .ok (.invokestatic 38, 3) := by decide +kernel
theorem d_M_combine_249 : decode b_M_combine 249 = .ok (.i2l, 1) := by decide +kernel
theorem d_M_combine_250 : decode b_M_combine 250 = .ok (.ladd, 1) := by decide +kernel
theorem d_M_combine_251 : decode b_M_combine 251 = .ok (.putfield 58, 3) := by decide +kernel
theorem d_M_combine_254 : decode b_M_combine 254 = .ok (.aload_n 0, 1) := by decide +kernel
theorem d_M_combine_255 : decode b_M_combine 255 = .ok (.iload 4, 2) := by decide +kernel
theorem d_M_combine_257 : decode b_M_combine 257 = .ok (.invokevirtual 77, 3) := by decide +kernel
theorem d_M_combine_260 : decode b_M_combine 260 = .ok (.ireturn, 1) := by decide +kernel
theorem d_M_rank_0 : decode b_M_rank 0 = .ok (.bipush 60, 2) := by decide +kernel
theorem d_M_rank_2 : decode b_M_rank 2 = .ok (.iload_n 1, 1) := by decide +kernel
theorem d_M_rank_3 : decode b_M_rank 3 = .ok (.imul, 1) := by decide +kernel
theorem d_M_rank_4 : decode b_M_rank 4 = .ok (.istore_n 3, 1) := by decide +kernel
theorem d_M_rank_5 : decode b_M_rank 5 = .ok (.iconst 0, 1) := by decide +kernel
theorem d_M_rank_6 : decode b_M_rank 6 = .ok (.istore 4, 2) := by decide +kernel
theorem d_M_rank_8 : decode b_M_rank 8 = .ok (.iconst 0, 1) := by decide +kernel
theorem d_M_rank_9 : decode b_M_rank 9 = .ok (.istore 5, 2) := by decide +kernel
theorem d_M_rank_11 : decode b_M_rank 11 = .ok (.iload 5, 2) := by decide +kernel
theorem d_M_rank_13 : decode b_M_rank 13 = .ok (.aload_n 0, 1) := by decide +kernel
theorem d_M_rank_14 : decode b_M_rank 14 = .ok (.getfield 16, 3) := by decide +kernel
theorem d_M_rank_17 : decode b_M_rank 17 = .ok (.iload_n 1, 1) := by decide +kernel
theorem d_M_rank_18 : decode b_M_rank 18 = .ok (.iaload, 1) := by decide +kernel
theorem d_M_rank_19 : decode b_M_rank 19 = .ok (.if_icmp .ge 99, 3) := by decide +kernel
theorem d_M_rank_22 : decode b_M_rank 22 = .ok (.iconst 1, 1) := by decide +kernel
theorem d_M_rank_23 : decode b_M_rank 23 = .ok (.istore 6, 2) := by decide +kernel
theorem d_M_rank_25 : decode b_M_rank 25 = .ok (.iconst 0, 1) := by decide +kernel
theorem d_M_rank_26 : decode b_M_rank 26 = .ok (.istore 7, 2) := by decide +kernel
theorem d_M_rank_28 : decode b_M_rank 28 = .ok (.iload 7, 2) := by decide +kernel
theorem d_M_rank_30 : decode b_M_rank 30 = .ok (.iload 5, 2) := by decide +kernel
theorem d_M_rank_32 : decode b_M_rank 32 = .ok (.if_icmp .ge 42, 3) := by decide +kernel
theorem d_M_rank_35 : decode b_M_rank 35 = .ok (.iload 6, 2) := by decide +kernel
theorem d_M_rank_37 : decode b_M_rank 37 = .ok (.ifCond .eq 28, 3) := by decide +kernel
theorem d_M_rank_40 : decode b_M_rank 40 = .ok (.aload_n 0, 1) := by decide +kernel
theorem d_M_rank_41 : decode b_M_rank 41 = .ok (.getfield 19, 3) := by decide +kernel
theorem d_M_rank_44 : decode b_M_rank 44 = .ok (.iload_n 3, 1) := by decide +kernel
theorem d_M_rank_45 : decode b_M_rank 45 = .ok (.iload 7, 2) := by decide +kernel
theorem d_M_rank_47 : decode b_M_rank 47 = .ok (.iadd, 1) := by decide +kernel
theorem d_M_rank_48 : decode b_M_rank 48 = .ok (.iaload, 1) := by decide +kernel
theorem d_M_rank_49 : decode b_M_rank 49 = .ok (.aload_n 0, 1) := by decide +kernel
theorem d_M_rank_50 : decode b_M_rank 50 = .ok (.getfield 19, 3) := by decide +kernel
theorem d_M_rank_53 : decode b_M_rank 53 = .ok (.iload_n 3, 1) := by decide +kernel
theorem d_M_rank_54 : decode b_M_rank 54 = .ok (.iload 5, 2) := by decide +kernel
theorem d_M_rank_56 : decode b_M_rank 56 = .ok (.iadd, 1) := by decide +kernel
theorem d_M_rank_57 : decode b_M_rank 57 = .ok (.iaload, 1) := by decide +kernel
theorem d_M_rank_58 : decode b_M_rank 58 = .ok (.if_icmp .eq 7, 3) := by decide +kernel
theorem d_M_rank_61 : decode b_M_rank 61 = .ok (.iconst 1, 1) := by decide +kernel
theorem d_M_rank_62 : decode b_M_rank 62 = .ok (.goto 4, 3) := by decide +kernel
theorem d_M_rank_65 : decode b_M_rank 65 = .ok (.iconst 0, 1) := by decide +kernel
theorem d_M_rank_66 : decode b_M_rank 66 = .ok (.istore 6, 2) := by decide +kernel
theorem d_M_rank_68 : decode b_M_rank 68 = .ok (.iinc 7 1, 3) := by decide +kernel
theorem d_M_rank_71 : decode b_M_rank 71 = .ok (.goto (-43), 3) := by decide +kernel
theorem d_M_rank_74 : decode b_M_rank 74 = .ok (.aload_n 0, 1) := by decide +kernel
theorem d_M_rank_75 : decode b_M_rank 75 = .ok (.getfield 19, 3) := by decide +kernel
theorem d_M_rank_78 : decode b_M_rank 78 = .ok (.iload_n 3, 1) := by decide +kernel
theorem d_M_rank_79 : decode b_M_rank 79 = .ok (.iload 5, 2) := by decide +kernel
theorem d_M_rank_81 : decode b_M_rank 81 = .ok (.iadd, 1) := by decide +kernel
theorem d_M_rank_82 : decode b_M_rank 82 = .ok (.iaload, 1) := by decide +kernel
theorem d_M_rank_83 : decode b_M_rank 83 = .ok (.aload_n 0, 1) := by decide +kernel
theorem d_M_rank_84 : decode b_M_rank 84 = .ok (.getfield 19, 3) := by decide +kernel
theorem d_M_rank_87 : decode b_M_rank 87 = .ok (.iload_n 3, 1) := by decide +kernel
theorem d_M_rank_88 : decode b_M_rank 88 = .ok (.iload_n 2, 1) := by decide +kernel
theorem d_M_rank_89 : decode b_M_rank 89 = .ok (.iadd, 1) := by decide +kernel
theorem d_M_rank_90 : decode b_M_rank 90 = .ok (.iaload, 1) := by decide +kernel
theorem d_M_rank_91 : decode b_M_rank 91 = .ok (.if_icmp .ne 6, 3) := by decide +kernel
theorem d_M_rank_94 : decode b_M_rank 94 = .ok (.iload 4, 2) := by decide +kernel
theorem d_M_rank_96 : decode b_M_rank 96 = .ok (.ireturn, 1) := by decide +kernel
theorem d_M_rank_97 : decode b_M_rank 97 = .ok (.iload 4, 2) := by decide +kernel
theorem d_M_rank_99 : decode b_M_rank 99 = .ok (.iload 6, 2) := by decide +kernel
theorem d_M_rank_101 : decode b_M_rank 101 = .ok (.ifCond .eq 7, 3) := by decide +kernel
theorem d_M_rank_104 : decode b_M_rank 104 = .ok (.iconst 1, 1) := by decide +kernel
theorem d_M_rank_105 : decode b_M_rank 105 = .ok (.goto 4, 3) := by decide +kernel
theorem d_M_rank_108 : decode b_M_rank 108 = .ok (.iconst 0, 1) := by decide +kernel
theorem d_M_rank_109 : decode b_M_rank 109 = .ok (.iadd, 1) := by decide +kernel
theorem d_M_rank_110 : decode b_M_rank 110 = .ok (.istore 4, 2) := by decide +kernel
theorem d_M_rank_112 : decode b_M_rank 112 = .ok (.iinc 5 1, 3) := by decide +kernel
theorem d_M_rank_115 : decode b_M_rank 115 = .ok (.goto (-104), 3) := by decide +kernel
theorem d_M_rank_118 : decode b_M_rank 118 = .ok (.iload 4, 2) := by decide +kernel
theorem d_M_rank_120 : decode b_M_rank 120 = .ok (.ireturn, 1) := by decide +kernel
theorem d_M_behind_0 : decode b_M_behind 0 = .ok (.iconst 0, 1) := by decide +kernel
theorem d_M_behind_1 : decode b_M_behind 1 = .ok (.istore_n 3, 1) := by decide +kernel
theorem d_M_behind_2 : decode b_M_behind 2 = .ok (.iconst 0, 1) := by decide +kernel
theorem d_M_behind_3 : decode b_M_behind 3 = .ok (.istore 4, 2) := by decide +kernel
theorem d_M_behind_5 : decode b_M_behind 5 = .ok (.iload 4, 2) := by decide +kernel
theorem d_M_behind_7 : decode b_M_behind 7 = .ok (.aload_n 0, 1) := by decide +kernel
theorem d_M_behind_8 : decode b_M_behind 8 = .ok (.getfield 16, 3) := by decide +kernel
theorem d_M_behind_11 : decode b_M_behind 11 = .ok (.iload_n 1, 1) := by decide +kernel
theorem d_M_behind_12 : decode b_M_behind 12 = .ok (.iaload, 1) := by decide +kernel
theorem d_M_behind_13 : decode b_M_behind 13 = .ok (.if_icmp .ge 28, 3) := by decide +kernel
theorem d_M_behind_16 : decode b_M_behind 16 = .ok (.iload_n 3, 1) := by decide +kernel
theorem d_M_behind_17 : decode b_M_behind 17 = .ok (.aload_n 0, 1) := by decide +kernel
theorem d_M_behind_18 : decode b_M_behind 18 = .ok (.iload_n 1, 1) := by decide +kernel
theorem d_M_behind_19 : decode b_M_behind 19 = .ok (.iload 4, 2) := by decide +kernel
theorem d_M_behind_21 : decode b_M_behind 21 = .ok (.invokevirtual 91, 3) := by decide +kernel
theorem d_M_behind_24 : decode b_M_behind 24 = .ok (.iload_n 2, 1) := by decide +kernel
theorem d_M_behind_25 : decode b_M_behind 25 = .ok (.if_icmp .lt 7, 3) := by decide +kernel
theorem d_M_behind_28 : decode b_M_behind 28 = .ok (.iconst 1, 1) := by decide +kernel
theorem d_M_behind_29 : decode b_M_behind 29 = .ok (.goto 4, 3) := by decide +kernel
theorem d_M_behind_32 : decode b_M_behind 32 = .ok (.iconst 0, 1) := by decide +kernel
theorem d_M_behind_33 : decode b_M_behind 33 = .ok (.iadd, 1) := by decide +kernel
theorem d_M_behind_34 : decode b_M_behind 34 = .ok (.istore_n 3, 1) := by decide +kernel
theorem d_M_behind_35 : decode b_M_behind 35 = .ok (.iinc 4 1, 3) := by decide +kernel
theorem d_M_behind_38 : decode b_M_behind 38 = .ok (.goto (-33), 3) := by decide +kernel
theorem d_M_behind_41 : decode b_M_behind 41 = .ok (.iload_n 3, 1) := by decide +kernel
theorem d_M_behind_42 : decode b_M_behind 42 = .ok (.ireturn, 1) := by decide +kernel
theorem d_M_group_0 : decode b_M_group 0 = .ok (.aload_n 0, 1) := by decide +kernel
theorem d_M_group_1 : decode b_M_group 1 = .ok (.iconst 1, 1) := by decide +kernel
theorem d_M_group_2 : decode b_M_group 2 = .ok (.iload_n 1, 1) := by decide +kernel
theorem d_M_group_3 : decode b_M_group 3 = .ok (.iload_n 1, 1) := by decide +kernel
theorem d_M_group_4 : decode b_M_group 4 = .ok (.iload_n 2, 1) := by decide +kernel
theorem d_M_group_5 : decode b_M_group 5 = .ok (.invokevirtual 65, 3) := by decide +kernel
theorem d_M_group_8 : decode b_M_group 8 = .ok (.istore_n 3, 1) := by decide +kernel
theorem d_M_group_9 : decode b_M_group 9 = .ok (.iload_n 3, 1) := by decide +kernel
theorem d_M_group_10 : decode b_M_group 10 = .ok (.ifCond .eq 5, 3) := by decide +kernel
theorem d_M_group_13 : decode b_M_group 13 = .ok (.iload_n 3, 1) := by decide +kernel
theorem d_M_group_14 : decode b_M_group 14 = .ok (.ireturn, 1) := by decide +kernel
theorem d_M_group_15 : decode b_M_group 15 = .ok (.iconst 0, 1) := by decide +kernel
theorem d_M_group_16 : decode b_M_group 16 = .ok (.istore 4, 2) := by decide +kernel
theorem d_M_group_18 : decode b_M_group 18 = .ok (.iload 4, 2) := by decide +kernel
theorem d_M_group_20 : decode b_M_group 20 = .ok (.aload_n 0, 1) := by decide +kernel
theorem d_M_group_21 : decode b_M_group 21 = .ok (.getfield 16, 3) := by decide +kernel
theorem d_M_group_24 : decode b_M_group 24 = .ok (.iload_n 1, 1) := by decide +kernel
theorem d_M_group_25 : decode b_M_group 25 = .ok (.iaload, 1) := by decide +kernel
theorem d_M_group_26 : decode b_M_group 26 = .ok (.if_icmp .ge 113, 3) := by decide +kernel
theorem d_M_group_29 : decode b_M_group 29 = .ok (.aload_n 0, 1) := by decide +kernel
theorem d_M_group_30 : decode b_M_group 30 = .ok (.iload_n 1, 1) := by decide +kernel
theorem d_M_group_31 : decode b_M_group 31 = .ok (.iload 4, 2) := by decide +kernel
theorem d_M_group_33 : decode b_M_group 33 = .ok (.invokevirtual 91, 3) := by decide +kernel
theorem d_M_group_36 : decode b_M_group 36 = .ok (.aload_n 0, 1) := by decide +kernel
theorem d_M_group_37 : decode b_M_group 37 = .ok (.getfield 55, 3) := by decide +kernel
theorem d_M_group_40 : decode b_M_group 40 = .ok (.if_icmp .ne 93, 3) := by decide +kernel
theorem d_M_group_43 : decode b_M_group 43 = .ok (.iconst 0, 1) := by decide +kernel
theorem d_M_group_44 : decode b_M_group 44 = .ok (.istore 5, 2) := by decide +kernel
theorem d_M_group_46 : decode b_M_group 46 = .ok (.iload 4, 2) := by decide +kernel
theorem d_M_group_48 : decode b_M_group 48 = .ok (.istore 6, 2) := by decide +kernel
theorem d_M_group_50 : decode b_M_group 50 = .ok (.iload 6, 2) := by decide +kernel
theorem d_M_group_52 : decode b_M_group 52 = .ok (.aload_n 0, 1) := by decide +kernel
theorem d_M_group_53 : decode b_M_group 53 = .ok (.getfield 16, 3) := by decide +kernel
theorem d_M_group_56 : decode b_M_group 56 = .ok (.iload_n 1, 1) := by decide +kernel
theorem d_M_group_57 : decode b_M_group 57 = .ok (.iaload, 1) := by decide +kernel
theorem d_M_group_58 : decode b_M_group 58 = .ok (.if_icmp .ge 57, 3) := by decide +kernel
theorem d_M_group_61 : decode b_M_group 61 = .ok (.iload 5, 2) := by decide +kernel
theorem d_M_group_63 : decode b_M_group 63 = .ok (.aload_n 0, 1) := by decide +kernel
theorem d_M_group_64 : decode b_M_group 64 = .ok (.getfield 19, 3) := by decide +kernel
theorem d_M_group_67 : decode b_M_group 67 = .ok (.bipush 60, 2) := by decide +kernel
theorem d_M_group_69 : decode b_M_group 69 = .ok (.iload_n 1, 1) := by decide +kernel
theorem d_M_group_70 : decode b_M_group 70 = .ok (.imul, 1) := by decide +kernel
theorem d_M_group_71 : decode b_M_group 71 = .ok (.iload 6, 2) := by decide +kernel
theorem d_M_group_73 : decode b_M_group 73 = .ok (.iadd, 1) := by decide +kernel
theorem d_M_group_74 : decode b_M_group 74 = .ok (.iaload, 1) := by decide +kernel
theorem d_M_group_75 : decode b_M_group 75 = .ok (.aload_n 0, 1) := by decide +kernel
theorem d_M_group_76 : decode b_M_group 76 = .ok (.getfield 19, 3) := by decide +kernel
theorem d_M_group_79 : decode b_M_group 79 = .ok (.bipush 60, 2) := by decide +kernel
theorem d_M_group_81 : decode b_M_group 81 = .ok (.iload_n 1, 1) := by decide +kernel
theorem d_M_group_82 : decode b_M_group 82 = .ok (.imul, 1) := by decide +kernel
theorem d_M_group_83 : decode b_M_group 83 = .ok (.iload 4, 2) := by decide +kernel
theorem d_M_group_85 : decode b_M_group 85 = .ok (.iadd, 1) := by decide +kernel
theorem d_M_group_86 : decode b_M_group 86 = .ok (.iaload, 1) := by decide +kernel
theorem d_M_group_87 : decode b_M_group 87 = .ok (.if_icmp .ne 18, 3) := by decide +kernel
theorem d_M_group_90 : decode b_M_group 90 = .ok (.aload_n 0, 1) := by decide +kernel
theorem d_M_group_91 : decode b_M_group 91 = .ok (.getfield 22, 3) := by decide +kernel
theorem d_M_group_94 : decode b_M_group 94 = .ok (.bipush 60, 2) := by decide +kernel
theorem d_M_group_96 : decode b_M_group 96 = .ok (.iload_n 1, 1) := by decide +kernel
theorem d_M_group_97 : decode b_M_group 97 = .ok (.imul, 1) := by decide +kernel
theorem d_M_group_98 : decode b_M_group 98 = .ok (.iload 6, 2) := by decide +kernel
theorem d_M_group_100 : decode b_M_group 100 = .ok (.iadd, 1) := by decide +kernel
theorem d_M_group_101 : decode b_M_group 101 = .ok (.iaload, 1) := by decide +kernel
theorem d_M_group_102 : decode b_M_group 102 = .ok (.goto 4, 3) := by decide +kernel
theorem d_M_group_105 : decode b_M_group 105 = .ok (.iconst 0, 1) := by decide +kernel
theorem d_M_group_106 : decode b_M_group 106 = .ok (.iadd, 1) := by decide +kernel
theorem d_M_group_107 : decode b_M_group 107 = .ok (.istore 5, 2) := by decide +kernel
theorem d_M_group_109 : decode b_M_group 109 = .ok (.iinc 6 1, 3) := by decide +kernel
theorem d_M_group_112 : decode b_M_group 112 = .ok (.goto (-62), 3) := by decide +kernel
theorem d_M_group_115 : decode b_M_group 115 = .ok (.aload_n 0, 1) := by decide +kernel
theorem d_M_group_116 : decode b_M_group 116 = .ok (.aload_n 0, 1) := by decide +kernel
theorem d_M_group_117 : decode b_M_group 117 = .ok (.getfield 19, 3) := by decide +kernel
theorem d_M_group_120 : decode b_M_group 120 = .ok (.bipush 60, 2) := by decide +kernel
theorem d_M_group_122 : decode b_M_group 122 = .ok (.iload_n 1, 1) := by decide +kernel
theorem d_M_group_123 : decode b_M_group 123 = .ok (.imul, 1) := by decide +kernel
theorem d_M_group_124 : decode b_M_group 124 = .ok (.iload 4, 2) := by decide +kernel
theorem d_M_group_126 : decode b_M_group 126 = .ok (.iadd, 1) := by decide +kernel
theorem d_M_group_127 : decode b_M_group 127 = .ok (.iaload, 1) := by decide +kernel
theorem d_M_group_128 : decode b_M_group 128 = .ok (.iload 5, 2) := by decide +kernel
theorem d_M_group_130 : decode b_M_group 130 = .ok (.invokevirtual 80, 3) := by decide +kernel
theorem d_M_group_133 : decode b_M_group 133 = .ok (.iinc 4 1, 3) := by decide +kernel
theorem d_M_group_136 : decode b_M_group 136 = .ok (.goto (-118), 3) := by decide +kernel
theorem d_M_group_139 : decode b_M_group 139 = .ok (.iconst 4, 1) := by decide +kernel
theorem d_M_group_140 : decode b_M_group 140 = .ok (.aload_n 0, 1) := by decide +kernel
theorem d_M_group_141 : decode b_M_group 141 = .ok (.getfield 34, 3) := by decide +kernel
theorem d_M_group_144 : decode b_M_group 144 = .ok (.iconst 2, 1) := by decide +kernel
theorem d_M_group_145 : decode b_M_group 145 = .ok (.isub, 1) := by decide +kernel
theorem d_M_group_146 : decode b_M_group 146 = .ok (.imul, 1) := by decide +kernel
theorem d_M_group_147 : decode b_M_group 147 = .ok (.istore 4, 2) := by decide +kernel
theorem d_M_group_149 : decode b_M_group 149 = .ok (.iconst 0, 1) := by decide +kernel
theorem d_M_group_150 : decode b_M_group 150 = .ok (.istore 5, 2) := by decide +kernel
theorem d_M_group_152 : decode b_M_group 152 = .ok (.iload 5, 2) := by decide +kernel
theorem d_M_group_154 : decode b_M_group 154 = .ok (.aload_n 0, 1) := by decide +kernel
theorem d_M_group_155 : decode b_M_group 155 = .ok (.getfield 55, 3) := by decide +kernel
theorem d_M_group_158 : decode b_M_group 158 = .ok (.if_icmp .ge 56, 3) := by decide +kernel
theorem d_M_group_161 : decode b_M_group 161 = .ok (.aload_n 0, 1) := by decide +kernel
theorem d_M_group_162 : decode b_M_group 162 = .ok (.iload_n 1, 1) := by decide +kernel
theorem d_M_group_163 : decode b_M_group 163 = .ok (.iload 5, 2) := by decide +kernel
theorem d_M_group_165 : decode b_M_group 165 = .ok (.invokevirtual 95, 3) := by decide +kernel
theorem d_M_group_168 : decode b_M_group 168 = .ok (.istore 6, 2) := by decide +kernel
theorem d_M_group_170 : decode b_M_group 170 = .ok (.aload_n 0, 1) := by decide +kernel
theorem d_M_group_171 : decode b_M_group 171 = .ok (.iload_n 1, 1) := by decide +kernel
theorem d_M_group_172 : decode b_M_group 172 = .ok (.iload 5, 2) := by decide +kernel
theorem d_M_group_174 : decode b_M_group 174 = .ok (.iload 4, 2) := by decide +kernel
theorem d_M_group_176 : decode b_M_group 176 = .ok (.iadd, 1) := by decide +kernel
theorem d_M_group_177 : decode b_M_group 177 = .ok (.invokevirtual 95, 3) := by decide +kernel
theorem d_M_group_180 : decode b_M_group 180 = .ok (.istore 7, 2) := by decide +kernel
theorem d_M_group_182 : decode b_M_group 182 = .ok (.aload_n 0, 1) := by decide +kernel
theorem d_M_group_183 : decode b_M_group 183 = .ok (.aload_n 0, 1) := by decide +kernel
theorem d_M_group_184 : decode b_M_group 184 = .ok (.getfield 58, 3) := by decide +kernel
theorem d_M_group_187 : decode b_M_group 187 = .ok (.iload 6, 2) := by decide +kernel
theorem d_M_group_189 : decode b_M_group 189 = .ok (.invokestatic 38, 3) := by decide +kernel
theorem d_M_group_192 : decode b_M_group 192 = .ok (.i2l, 1) := by decide +kernel
theorem d_M_group_193 : decode b_M_group 193 = .ok (.ladd, 1) := by decide +kernel
theorem d_M_group_194 : decode b_M_group 194 = .ok (.iload 7, 2) := by decide +kernel
theorem d_M_group_196 : decode b_M_group 196 = .ok (.invokestatic 38, 3) := by decide +kernel
theorem d_M_group_199 : decode b_M_group 199 = .ok (.i2l, 1) := by decide +kernel
theorem d_M_group_200 : decode b_M_group 200 = .ok (.ladd, 1) := by decide +kernel
theorem d_M_group_201 : decode b_M_group 201 = .ok (.putfield 58, 3) := by decide +kernel
theorem d_M_group_204 : decode b_M_group 204 = .ok (.iload 5, 2) := by decide +kernel
theorem d_M_group_206 : decode b_M_group 206 = .ok (.iload 4, 2) := by decide +kernel
theorem d_M_group_208 : decode b_M_group 208 = .ok (.iadd, 1) := by decide +kernel
theorem d_M_group_209 : decode b_M_group 209 = .ok (.istore 5, 2) := by decide +kernel
theorem d_M_group_211 : decode b_M_group 211 = .ok (.goto (-59), 3) := by decide +kernel
theorem d_M_group_214 : decode b_M_group 214 = .ok (.aload_n 0, 1) := by decide +kernel
theorem d_M_group_215 : decode b_M_group 215 = .ok (.aload_n 0, 1) := by decide +kernel
theorem d_M_group_216 : decode b_M_group 216 = .ok (.getfield 58, 3) := by decide +kernel
theorem d_M_group_219 : decode b_M_group 219 = .ok (.aload_n 0, 1) := by decide +kernel
theorem d_M_group_220 : decode b_M_group 220 = .ok (.getfield 55, 3) := by decide +kernel
theorem d_M_group_223 : decode b_M_group 223 = .ok (.invokestatic 38, 3) := by decide +kernel
theorem d_M_group_226 : decode b_M_group 226 = .ok (.i2l, 1) := by decide +kernel
theorem d_M_group_227 : decode b_M_group 227 = .ok (.ladd, 1) := by decide +kernel
theorem d_M_group_228 : decode b_M_group 228 = .ok (.putfield 58, 3) := by decide +kernel
theorem d_M_group_231 : decode b_M_group 231 = .ok (.aload_n 0, 1) := by decide +kernel
theorem d_M_group_232 : decode b_M_group 232 = .ok (.iload_n 2, 1) := by decide +kernel
theorem d_M_group_233 : decode b_M_group 233 = .ok (.invokevirtual 77, 3) := by decide +kernel
theorem d_M_group_236 : decode b_M_group 236 = .ok (.ireturn, 1) := by decide +kernel
theorem d_M_digit_0 : decode b_M_digit 0 = .ok (.aload_n 0, 1) := by decide +kernel
theorem d_M_digit_1 : decode b_M_digit 1 = .ok (.getfield 34, 3) := by decide +kernel
theorem d_M_digit_4 : decode b_M_digit 4 = .ok (.iconst 1, 1) := by decide +kernel
theorem d_M_digit_5 : decode b_M_digit 5 = .ok (.isub, 1) := by decide +kernel
theorem d_M_digit_6 : decode b_M_digit 6 = .ok (.istore_n 3, 1) := by decide +kernel
theorem d_M_digit_7 : decode b_M_digit 7 = .ok (.iload_n 1, 1) := by decide +kernel
theorem d_M_digit_8 : decode b_M_digit 8 = .ok (.iload_n 3, 1) := by decide +kernel
theorem d_M_digit_9 : decode b_M_digit 9 = .ok (.iload_n 3, 1) := by decide +kernel
theorem d_M_digit_10 : decode b_M_digit 10 = .ok (.imul, 1) := by decide +kernel
theorem d_M_digit_11 : decode b_M_digit 11 = .ok (.iload_n 3, 1) := by decide +kernel
theorem d_M_digit_12 : decode b_M_digit 12 = .ok (.imul, 1) := by decide +kernel
theorem d_M_digit_13 : decode b_M_digit 13 = .ok (.irem, 1) := by decide +kernel
theorem d_M_digit_14 : decode b_M_digit 14 = .ok (.istore 4, 2) := by decide +kernel
theorem d_M_digit_16 : decode b_M_digit 16 = .ok (.iload 4, 2) := by decide +kernel
theorem d_M_digit_18 : decode b_M_digit 18 = .ok (.ifCond .ge 14, 3) := by decide +kernel
theorem d_M_digit_21 : decode b_M_digit 21 = .ok (.iload 4, 2) := by decide +kernel
theorem d_M_digit_23 : decode b_M_digit 23 = .ok (.iload_n 3, 1) := by decide +kernel
theorem d_M_digit_24 : decode b_M_digit 24 = .ok (.iload_n 3, 1) := by decide +kernel
theorem d_M_digit_25 : decode b_M_digit 25 = .ok (.imul, 1) := by decide +kernel
theorem d_M_digit_26 : decode b_M_digit 26 = .ok (.iload_n 3, 1) := by decide +kernel
theorem d_M_digit_27 : decode b_M_digit 27 = .ok (.imul, 1) := by decide +kernel
theorem d_M_digit_28 : decode b_M_digit 28 = .ok (.iadd, 1) := by decide +kernel
theorem d_M_digit_29 : decode b_M_digit 29 = .ok (.goto 5, 3) := by decide +kernel
theorem d_M_digit_32 : decode b_M_digit 32 = .ok (.iload 4, 2) := by decide +kernel
theorem d_M_digit_34 : decode b_M_digit 34 = .ok (.istore 4, 2) := by decide +kernel
theorem d_M_digit_36 : decode b_M_digit 36 = .ok (.iconst 0, 1) := by decide +kernel
theorem d_M_digit_37 : decode b_M_digit 37 = .ok (.istore 5, 2) := by decide +kernel
theorem d_M_digit_39 : decode b_M_digit 39 = .ok (.iload 5, 2) := by decide +kernel
theorem d_M_digit_41 : decode b_M_digit 41 = .ok (.iload_n 2, 1) := by decide +kernel
theorem d_M_digit_42 : decode b_M_digit 42 = .ok (.if_icmp .ge 15, 3) := by decide +kernel
theorem d_M_digit_45 : decode b_M_digit 45 = .ok (.iload 4, 2) := by decide +kernel
theorem d_M_digit_47 : decode b_M_digit 47 = .ok (.iload_n 3, 1) := by decide +kernel
theorem d_M_digit_48 : decode b_M_digit 48 = .ok (.idiv, 1) := by decide +kernel
theorem d_M_digit_49 : decode b_M_digit 49 = .ok (.istore 4, 2) := by decide +kernel
theorem d_M_digit_51 : decode b_M_digit 51 = .ok (.iinc 5 1, 3) := by decide +kernel
theorem d_M_digit_54 : decode b_M_digit 54 = .ok (.goto (-15), 3) := by decide +kernel
theorem d_M_digit_57 : decode b_M_digit 57 = .ok (.iload 4, 2) := by decide +kernel
theorem d_M_digit_59 : decode b_M_digit 59 = .ok (.iload_n 3, 1) := by decide +kernel
theorem d_M_digit_60 : decode b_M_digit 60 = .ok (.irem, 1) := by decide +kernel
theorem d_M_digit_61 : decode b_M_digit 61 = .ok (.ireturn, 1) := by decide +kernel
theorem d_M_here_0 : decode b_M_here 0 = .ok (.iconst 0, 1) := by decide +kernel
theorem d_M_here_1 : decode b_M_here 1 = .ok (.istore_n 2, 1) := by decide +kernel
theorem d_M_here_2 : decode b_M_here 2 = .ok (.iload_n 2, 1) := by decide +kernel
theorem d_M_here_3 : decode b_M_here 3 = .ok (.aload_n 0, 1) := by decide +kernel
theorem d_M_here_4 : decode b_M_here 4 = .ok (.getfield 98, 3) := by decide +kernel
theorem d_M_here_7 : decode b_M_here 7 = .ok (.if_icmp .ge 26, 3) := by decide +kernel
theorem d_M_here_10 : decode b_M_here 10 = .ok (.aload_n 0, 1) := by decide +kernel
theorem d_M_here_11 : decode b_M_here 11 = .ok (.iload_n 1, 1) := by decide +kernel
theorem d_M_here_12 : decode b_M_here 12 = .ok (.iload_n 2, 1) := by decide +kernel
theorem d_M_here_13 : decode b_M_here 13 = .ok (.invokevirtual 101, 3) := by decide +kernel
theorem d_M_here_16 : decode b_M_here 16 = .ok (.aload_n 0, 1) := by decide +kernel
theorem d_M_here_17 : decode b_M_here 17 = .ok (.getfield 31, 3) := by decide +kernel
theorem d_M_here_20 : decode b_M_here 20 = .ok (.iload_n 2, 1) := by decide +kernel
theorem d_M_here_21 : decode b_M_here 21 = .ok (.iaload, 1) := by decide +kernel
theorem d_M_here_22 : decode b_M_here 22 = .ok (.if_icmp .eq 5, 3) := by decide +kernel
theorem d_M_here_25 : decode b_M_here 25 = .ok (.iconst 0, 1) := by decide +kernel
theorem d_M_here_26 : decode b_M_here 26 = .ok (.ireturn, 1) := by decide +kernel
theorem d_M_here_27 : decode b_M_here 27 = .ok (.iinc 2 1, 3) := by decide +kernel
theorem d_M_here_30 : decode b_M_here 30 = .ok (.goto (-28), 3) := by decide +kernel
theorem d_M_here_33 : decode b_M_here 33 = .ok (.iconst 1, 1) := by decide +kernel
theorem d_M_here_34 : decode b_M_here 34 = .ok (.ireturn, 1) := by decide +kernel
theorem d_M_many_0 : decode b_M_many 0 = .ok (.iconst 0, 1) := by decide +kernel
theorem d_M_many_1 : decode b_M_many 1 = .ok (.istore 4, 2) := by decide +kernel
theorem d_M_many_3 : decode b_M_many 3 = .ok (.bipush 60, 2) := by decide +kernel
theorem d_M_many_5 : decode b_M_many 5 = .ok (.iload_n 1, 1) := by decide +kernel
theorem d_M_many_6 : decode b_M_many 6 = .ok (.imul, 1) := by decide +kernel
theorem d_M_many_7 : decode b_M_many 7 = .ok (.istore 5, 2) := by decide +kernel
theorem d_M_many_9 : decode b_M_many 9 = .ok (.iload 5, 2) := by decide +kernel
theorem d_M_many_11 : decode b_M_many 11 = .ok (.bipush 60, 2) := by decide +kernel
theorem d_M_many_13 : decode b_M_many 13 = .ok (.iload_n 1, 1) := by decide +kernel
theorem d_M_many_14 : decode b_M_many 14 = .ok (.imul, 1) := by decide +kernel
theorem d_M_many_15 : decode b_M_many 15 = .ok (.aload_n 0, 1) := by decide +kernel
theorem d_M_many_16 : decode b_M_many 16 = .ok (.getfield 16, 3) := by decide +kernel
theorem d_M_many_19 : decode b_M_many 19 = .ok (.iload_n 1, 1) := by decide +kernel
theorem d_M_many_20 : decode b_M_many 20 = .ok (.iaload, 1) := by decide +kernel
theorem d_M_many_21 : decode b_M_many 21 = .ok (.iadd, 1) := by decide +kernel
theorem d_M_many_22 : decode b_M_many 22 = .ok (.if_icmp .ge 69, 3) := by decide +kernel
theorem d_M_many_25 : decode b_M_many 25 = .ok (.iload_n 2, 1) := by decide +kernel
theorem d_M_many_26 : decode b_M_many 26 = .ok (.ifCond .eq 13, 3) := by decide +kernel
theorem d_M_many_29 : decode b_M_many 29 = .ok (.aload_n 0, 1) := by decide +kernel
theorem d_M_many_30 : decode b_M_many 30 = .ok (.getfield 22, 3) := by decide +kernel
theorem d_M_many_33 : decode b_M_many 33 = .ok (.iload 5, 2) := by decide +kernel
theorem d_M_many_35 : decode b_M_many 35 = .ok (.iaload, 1) := by decide +kernel
theorem d_M_many_36 : decode b_M_many 36 = .ok (.goto 10, 3) := by decide +kernel
theorem d_M_many_39 : decode b_M_many 39 = .ok (.aload_n 0, 1) := by decide +kernel
theorem d_M_many_40 : decode b_M_many 40 = .ok (.getfield 19, 3) := by decide +kernel
theorem d_M_many_43 : decode b_M_many 43 = .ok (.iload 5, 2) := by decide +kernel
theorem d_M_many_45 : decode b_M_many 45 = .ok (.iaload, 1) := by decide +kernel
theorem d_M_many_46 : decode b_M_many 46 = .ok (.istore 6, 2) := by decide +kernel
theorem d_M_many_48 : decode b_M_many 48 = .ok (.iload 4, 2) := by decide +kernel
theorem d_M_many_50 : decode b_M_many 50 = .ok (.aload_n 0, 1) := by decide +kernel
theorem d_M_many_51 : decode b_M_many 51 = .ok (.iload 6, 2) := by decide +kernel
theorem d_M_many_53 : decode b_M_many 53 = .ok (.invokevirtual 104, 3) := by decide +kernel
theorem d_M_many_56 : decode b_M_many 56 = .ok (.ifCond .eq 25, 3) := by decide +kernel
theorem d_M_many_59 : decode b_M_many 59 = .ok (.iload_n 3, 1) := by decide +kernel
theorem d_M_many_60 : decode b_M_many 60 = .ok (.ifCond .lt 17, 3) := by decide +kernel
theorem d_M_many_63 : decode b_M_many 63 = .ok (.aload_n 0, 1) := by decide +kernel
theorem d_M_many_64 : decode b_M_many 64 = .ok (.iload 6, 2) := by decide +kernel
theorem d_M_many_66 : decode b_M_many 66 = .ok (.aload_n 0, 1) := by decide +kernel
theorem d_M_many_67 : decode b_M_many 67 = .ok (.getfield 98, 3) := by decide +kernel
theorem d_M_many_70 : decode b_M_many 70 = .ok (.invokevirtual 101, 3) := by decide +kernel
theorem d_M_many_73 : decode b_M_many 73 = .ok (.iload_n 3, 1) := by decide +kernel
theorem d_M_many_74 : decode b_M_many 74 = .ok (.if_icmp .ne 7, 3) := by decide +kernel
theorem d_M_many_77 : decode b_M_many 77 = .ok (.iconst 1, 1) := by decide +kernel
theorem d_M_many_78 : decode b_M_many 78 = .ok (.goto 4, 3) := by decide +kernel
theorem d_M_many_81 : decode b_M_many 81 = .ok (.iconst 0, 1) := by decide +kernel
theorem d_M_many_82 : decode b_M_many 82 = .ok (.iadd, 1) := by decide +kernel
theorem d_M_many_83 : decode b_M_many 83 = .ok (.istore 4, 2) := by decide +kernel
theorem d_M_many_85 : decode b_M_many 85 = .ok (.iinc 5 1, 3) := by decide +kernel
theorem d_M_many_88 : decode b_M_many 88 = .ok (.goto (-79), 3) := by decide +kernel
theorem d_M_many_91 : decode b_M_many 91 = .ok (.iload 4, 2) := by decide +kernel
theorem d_M_many_93 : decode b_M_many 93 = .ok (.ireturn, 1) := by decide +kernel
theorem d_M_chunks_0 : decode b_M_chunks 0 = .ok (.aload_n 0, 1) := by decide +kernel
theorem d_M_chunks_1 : decode b_M_chunks 1 = .ok (.iload_n 2, 1) := by decide +kernel
theorem d_M_chunks_2 : decode b_M_chunks 2 = .ok (.iconst 0, 1) := by decide +kernel
theorem d_M_chunks_3 : decode b_M_chunks 3 = .ok (.iconst (-1), 1) := by decide +kernel
theorem d_M_chunks_4 : decode b_M_chunks 4 = .ok (.invokevirtual 107, 3) := by decide +kernel
theorem d_M_chunks_7 : decode b_M_chunks 7 = .ok (.istore 4, 2) := by decide +kernel
theorem d_M_chunks_9 : decode b_M_chunks 9 = .ok (.aload_n 0, 1) := by decide +kernel
theorem d_M_chunks_10 : decode b_M_chunks 10 = .ok (.iload_n 1, 1) := by decide +kernel
theorem d_M_chunks_11 : decode b_M_chunks 11 = .ok (.iconst 1, 1) := by decide +kernel
theorem d_M_chunks_12 : decode b_M_chunks 12 = .ok (.iconst (-1), 1) := by decide +kernel
theorem d_M_chunks_13 : decode b_M_chunks 13 = .ok (.invokevirtual 107, 3) := by decide +kernel
theorem d_M_chunks_16 : decode b_M_chunks 16 = .ok (.invokestatic 38, 3) := by decide +kernel
theorem d_M_chunks_19 : decode b_M_chunks 19 = .ok (.istore 5, 2) := by decide +kernel
theorem d_M_chunks_21 : decode b_M_chunks 21 = .ok (.aload_n 0, 1) := by decide +kernel
theorem d_M_chunks_22 : decode b_M_chunks 22 = .ok (.aload_n 0, 1) := by decide +kernel
theorem d_M_chunks_23 : decode b_M_chunks 23 = .ok (.getfield 58, 3) := by decide +kernel
theorem d_M_chunks_26 : decode b_M_chunks 26 = .ok (.iload 4, 2) := by decide +kernel
theorem d_M_chunks_28 : decode b_M_chunks 28 = .ok (.invokestatic 38, 3) := by decide +kernel
theorem d_M_chunks_31 : decode b_M_chunks 31 = .ok (.i2l, 1) := by decide +kernel
theorem d_M_chunks_32 : decode b_M_chunks 32 = .ok (.ladd, 1) := by decide +kernel
theorem d_M_chunks_33 : decode b_M_chunks 33 = .ok (.putfield 58, 3) := by decide +kernel
theorem d_M_chunks_36 : decode b_M_chunks 36 = .ok (.iconst 0, 1) := by decide +kernel
theorem d_M_chunks_37 : decode b_M_chunks 37 = .ok (.istore 6, 2) := by decide +kernel
theorem d_M_chunks_39 : decode b_M_chunks 39 = .ok (.iload 6, 2) := by decide +kernel
theorem d_M_chunks_41 : decode b_M_chunks 41 = .ok (.iload 4, 2) := by decide +kernel
theorem d_M_chunks_43 : decode b_M_chunks 43 = .ok (.if_icmp .ge 79, 3) := by decide +kernel
theorem d_M_chunks_46 : decode b_M_chunks 46 = .ok (.aload_n 0, 1) := by decide +kernel
theorem d_M_chunks_47 : decode b_M_chunks 47 = .ok (.aload_n 0, 1) := by decide +kernel
theorem d_M_chunks_48 : decode b_M_chunks 48 = .ok (.getfield 58, 3) := by decide +kernel
theorem d_M_chunks_51 : decode b_M_chunks 51 = .ok (.iload 5, 2) := by decide +kernel
theorem d_M_chunks_53 : decode b_M_chunks 53 = .ok (.i2l, 1) := by decide +kernel
theorem d_M_chunks_54 : decode b_M_chunks 54 = .ok (.ladd, 1) := by decide +kernel
theorem d_M_chunks_55 : decode b_M_chunks 55 = .ok (.putfield 58, 3) := by decide +kernel
theorem d_M_chunks_58 : decode b_M_chunks 58 = .ok (.bipush 60, 2) := by decide +kernel
theorem d_M_chunks_60 : decode b_M_chunks 60 = .ok (.iload_n 1, 1) := by decide +kernel
theorem d_M_chunks_61 : decode b_M_chunks 61 = .ok (.imul, 1) := by decide +kernel
theorem d_M_chunks_62 : decode b_M_chunks 62 = .ok (.istore 7, 2) := by decide +kernel
theorem d_M_chunks_64 : decode b_M_chunks 64 = .ok (.iload 7, 2) := by decide +kernel
theorem d_M_chunks_66 : decode b_M_chunks 66 = .ok (.bipush 60, 2) := by decide +kernel
theorem d_M_chunks_68 : decode b_M_chunks 68 = .ok (.iload_n 1, 1) := by decide +kernel
theorem d_M_chunks_69 : decode b_M_chunks 69 = .ok (.imul, 1) := by decide +kernel
theorem d_M_chunks_70 : decode b_M_chunks 70 = .ok (.aload_n 0, 1) := by decide +kernel
theorem d_M_chunks_71 : decode b_M_chunks 71 = .ok (.getfield 16, 3) := by decide +kernel
theorem d_M_chunks_74 : decode b_M_chunks 74 = .ok (.iload_n 1, 1) := by decide +kernel
theorem d_M_chunks_75 : decode b_M_chunks 75 = .ok (.iaload, 1) := by decide +kernel
theorem d_M_chunks_76 : decode b_M_chunks 76 = .ok (.iadd, 1) := by decide +kernel
theorem d_M_chunks_77 : decode b_M_chunks 77 = .ok (.if_icmp .ge 36, 3) := by decide +kernel
theorem d_M_chunks_80 : decode b_M_chunks 80 = .ok (.aload_n 0, 1) := by decide +kernel
theorem d_M_chunks_81 : decode b_M_chunks 81 = .ok (.aload_n 0, 1) := by decide +kernel
theorem d_M_chunks_82 : decode b_M_chunks 82 = .ok (.getfield 22, 3) := by decide +kernel
theorem d_M_chunks_85 : decode b_M_chunks 85 = .ok (.iload 7, 2) := by decide +kernel
theorem d_M_chunks_87 : decode b_M_chunks 87 = .ok (.iaload, 1) := by decide +kernel
theorem d_M_chunks_88 : decode b_M_chunks 88 = .ok (.invokevirtual 104, 3) := by decide +kernel
theorem d_M_chunks_91 : decode b_M_chunks 91 = .ok (.ifCond .eq 16, 3) := by decide +kernel
theorem d_M_chunks_94 : decode b_M_chunks 94 = .ok (.aload_n 0, 1) := by decide +kernel
theorem d_M_chunks_95 : decode b_M_chunks 95 = .ok (.iload 7, 2) := by decide +kernel
theorem d_M_chunks_97 : decode b_M_chunks 97 = .ok (.iload_n 2, 1) := by decide +kernel
theorem d_M_chunks_98 : decode b_M_chunks 98 = .ok (.iload 6, 2) := by decide +kernel
theorem d_M_chunks_100 : decode b_M_chunks 100 = .ok (.iload 6, 2) := by decide +kernel
theorem d_M_chunks_102 : decode b_M_chunks 102 = .ok (.iload_n 3, 1) := by decide +kernel
theorem d_M_chunks_103 : decode b_M_chunks 103 = .ok (.iadd, 1) := by decide +kernel
theorem d_M_chunks_104 : decode b_M_chunks 104 = .ok (.invokevirtual 111, 3) := by decide +kernel
theorem d_M_chunks_107 : decode b_M_chunks 107 = .ok (.iinc 7 1, 3) := by decide +kernel
theorem d_M_chunks_110 : decode b_M_chunks 110 = .ok (.goto (-46), 3) := by decide +kernel
theorem d_M_chunks_113 : decode b_M_chunks 113 = .ok (.iload 6, 2) := by decide +kernel
theorem d_M_chunks_115 : decode b_M_chunks 115 = .ok (.iload_n 3, 1) := by decide +kernel
theorem d_M_chunks_116 : decode b_M_chunks 116 = .ok (.iadd, 1) := by decide +kernel
theorem d_M_chunks_117 : decode b_M_chunks 117 = .ok (.istore 6, 2) := by decide +kernel
theorem d_M_chunks_119 : decode b_M_chunks 119 = .ok (.goto (-80), 3) := by decide +kernel
theorem d_M_chunks_122 : decode b_M_chunks 122 = .ok (.return_, 1) := by decide +kernel
theorem d_M_chunk_0 : decode b_M_chunk 0 = .ok (.iconst 0, 1) := by decide +kernel
theorem d_M_chunk_1 : decode b_M_chunk 1 = .ok (.istore 5, 2) := by decide +kernel
theorem d_M_chunk_3 : decode b_M_chunk 3 = .ok (.bipush 60, 2) := by decide +kernel
theorem d_M_chunk_5 : decode b_M_chunk 5 = .ok (.iload_n 2, 1) := by decide +kernel
theorem d_M_chunk_6 : decode b_M_chunk 6 = .ok (.imul, 1) := by decide +kernel
theorem d_M_chunk_7 : decode b_M_chunk 7 = .ok (.istore 6, 2) := by decide +kernel
theorem d_M_chunk_9 : decode b_M_chunk 9 = .ok (.iload 6, 2) := by decide +kernel
theorem d_M_chunk_11 : decode b_M_chunk 11 = .ok (.bipush 60, 2) := by decide +kernel
theorem d_M_chunk_13 : decode b_M_chunk 13 = .ok (.iload_n 2, 1) := by decide +kernel
theorem d_M_chunk_14 : decode b_M_chunk 14 = .ok (.imul, 1) := by decide +kernel
theorem d_M_chunk_15 : decode b_M_chunk 15 = .ok (.aload_n 0, 1) := by decide +kernel
theorem d_M_chunk_16 : decode b_M_chunk 16 = .ok (.getfield 16, 3) := by decide +kernel
theorem d_M_chunk_19 : decode b_M_chunk 19 = .ok (.iload_n 2, 1) := by decide +kernel
theorem d_M_chunk_20 : decode b_M_chunk 20 = .ok (.iaload, 1) := by decide +kernel
theorem d_M_chunk_21 : decode b_M_chunk 21 = .ok (.iadd, 1) := by decide +kernel
theorem d_M_chunk_22 : decode b_M_chunk 22 = .ok (.if_icmp .ge 75, 3) := by decide +kernel
theorem d_M_chunk_25 : decode b_M_chunk 25 = .ok (.aload_n 0, 1) := by decide +kernel
theorem d_M_chunk_26 : decode b_M_chunk 26 = .ok (.aload_n 0, 1) := by decide +kernel
theorem d_M_chunk_27 : decode b_M_chunk 27 = .ok (.getfield 19, 3) := by decide +kernel
theorem d_M_chunk_30 : decode b_M_chunk 30 = .ok (.iload 6, 2) := by decide +kernel
theorem d_M_chunk_32 : decode b_M_chunk 32 = .ok (.iaload, 1) := by decide +kernel
theorem d_M_chunk_33 : decode b_M_chunk 33 = .ok (.invokevirtual 104, 3) := by decide +kernel
theorem d_M_chunk_36 : decode b_M_chunk 36 = .ok (.ifCond .eq 55, 3) := by decide +kernel
theorem d_M_chunk_39 : decode b_M_chunk 39 = .ok (.iload 5, 2) := by decide +kernel
theorem d_M_chunk_41 : decode b_M_chunk 41 = .ok (.iload_n 3, 1) := by decide +kernel
theorem d_M_chunk_42 : decode b_M_chunk 42 = .ok (.if_icmp .lt 43, 3) := by decide +kernel
theorem d_M_chunk_45 : decode b_M_chunk 45 = .ok (.iload 5, 2) := by decide +kernel
theorem d_M_chunk_47 : decode b_M_chunk 47 = .ok (.iload 4, 2) := by decide +kernel
theorem d_M_chunk_49 : decode b_M_chunk 49 = .ok (.if_icmp .ge 36, 3) := by decide +kernel
theorem d_M_chunk_52 : decode b_M_chunk 52 = .ok (.aload_n 0, 1) := by decide +kernel
theorem d_M_chunk_53 : decode b_M_chunk 53 = .ok (.getfield 19, 3) := by decide +kernel
theorem d_M_chunk_56 : decode b_M_chunk 56 = .ok (.iload 6, 2) := by decide +kernel
theorem d_M_chunk_58 : decode b_M_chunk 58 = .ok (.iaload, 1) := by decide +kernel
theorem d_M_chunk_59 : decode b_M_chunk 59 = .ok (.aload_n 0, 1) := by decide +kernel
theorem d_M_chunk_60 : decode b_M_chunk 60 = .ok (.getfield 22, 3) := by decide +kernel
theorem d_M_chunk_63 : decode b_M_chunk 63 = .ok (.iload_n 1, 1) := by decide +kernel
theorem d_M_chunk_64 : decode b_M_chunk 64 = .ok (.iaload, 1) := by decide +kernel
theorem d_M_chunk_65 : decode b_M_chunk 65 = .ok (.if_icmp .ne 20, 3) := by decide +kernel
theorem d_M_chunk_68 : decode b_M_chunk 68 = .ok (.aload_n 0, 1) := by decide +kernel
theorem d_M_chunk_69 : decode b_M_chunk 69 = .ok (.aload_n 0, 1) := by decide +kernel
theorem d_M_chunk_70 : decode b_M_chunk 70 = .ok (.getfield 19, 3) := by decide +kernel
theorem d_M_chunk_73 : decode b_M_chunk 73 = .ok (.iload_n 1, 1) := by decide +kernel
theorem d_M_chunk_74 : decode b_M_chunk 74 = .ok (.iaload, 1) := by decide +kernel
theorem d_M_chunk_75 : decode b_M_chunk 75 = .ok (.aload_n 0, 1) := by decide +kernel
theorem d_M_chunk_76 : decode b_M_chunk 76 = .ok (.getfield 22, 3) := by decide +kernel
theorem d_M_chunk_79 : decode b_M_chunk 79 = .ok (.iload 6, 2) := by decide +kernel
theorem d_M_chunk_81 : decode b_M_chunk 81 = .ok (.iaload, 1) := by decide +kernel
theorem d_M_chunk_82 : decode b_M_chunk 82 = .ok (.invokevirtual 80, 3) := by decide +kernel
theorem d_M_chunk_85 : decode b_M_chunk 85 = .ok (.iload 5, 2) := by decide +kernel
theorem d_M_chunk_87 : decode b_M_chunk 87 = .ok (.iconst 1, 1) := by decide +kernel
theorem d_M_chunk_88 : decode b_M_chunk 88 = .ok (.iadd, 1) := by decide +kernel
theorem d_M_chunk_89 : decode b_M_chunk 89 = .ok (.istore 5, 2) := by decide +kernel
theorem d_M_chunk_91 : decode b_M_chunk 91 = .ok (.iinc 6 1, 3) := by decide +kernel
theorem d_M_chunk_94 : decode b_M_chunk 94 = .ok (.goto (-85), 3) := by decide +kernel
theorem d_M_chunk_97 : decode b_M_chunk 97 = .ok (.return_, 1) := by decide +kernel
theorem d_M_visit_0 : decode b_M_visit 0 = .ok (.aload_n 0, 1) := by decide +kernel
theorem d_M_visit_1 : decode b_M_visit 1 = .ok (.iload_n 1, 1) := by decide +kernel
theorem d_M_visit_2 : decode b_M_visit 2 = .ok (.iconst 1, 1) := by decide +kernel
theorem d_M_visit_3 : decode b_M_visit 3 = .ok (.iconst (-1), 1) := by decide +kernel
theorem d_M_visit_4 : decode b_M_visit 4 = .ok (.invokevirtual 107, 3) := by decide +kernel
theorem d_M_visit_7 : decode b_M_visit 7 = .ok (.istore_n 3, 1) := by decide +kernel
theorem d_M_visit_8 : decode b_M_visit 8 = .ok (.aload_n 0, 1) := by decide +kernel
theorem d_M_visit_9 : decode b_M_visit 9 = .ok (.iload_n 2, 1) := by decide +kernel
theorem d_M_visit_10 : decode b_M_visit 10 = .ok (.iconst 0, 1) := by decide +kernel
theorem d_M_visit_11 : decode b_M_visit 11 = .ok (.iconst (-1), 1) := by decide +kernel
theorem d_M_visit_12 : decode b_M_visit 12 = .ok (.invokevirtual 107, 3) := by decide +kernel
theorem d_M_visit_15 : decode b_M_visit 15 = .ok (.istore 4, 2) := by decide +kernel
theorem d_M_visit_17 : decode b_M_visit 17 = .ok (.iconst 4, 1) := by decide +kernel
theorem d_M_visit_18 : decode b_M_visit 18 = .ok (.aload_n 0, 1) := by decide +kernel
theorem d_M_visit_19 : decode b_M_visit 19 = .ok (.getfield 34, 3) := by decide +kernel
theorem d_M_visit_22 : decode b_M_visit 22 = .ok (.iconst 2, 1) := by decide +kernel
theorem d_M_visit_23 : decode b_M_visit 23 = .ok (.isub, 1) := by decide +kernel
theorem d_M_visit_24 : decode b_M_visit 24 = .ok (.imul, 1) := by decide +kernel
theorem d_M_visit_25 : decode b_M_visit 25 = .ok (.istore 5, 2) := by decide +kernel
theorem d_M_visit_27 : decode b_M_visit 27 = .ok (.iload_n 3, 1) := by decide +kernel
theorem d_M_visit_28 : decode b_M_visit 28 = .ok (.ifCond .eq 8, 3) := by decide +kernel
theorem d_M_visit_31 : decode b_M_visit 31 = .ok (.iload 4, 2) := by decide +kernel
theorem d_M_visit_33 : decode b_M_visit 33 = .ok (.ifCond .ne 5, 3) := by decide +kernel
theorem d_M_visit_36 : decode b_M_visit 36 = .ok (.iconst 0, 1) := by decide +kernel
theorem d_M_visit_37 : decode b_M_visit 37 = .ok (.ireturn, 1) := by decide +kernel
theorem d_M_visit_38 : decode b_M_visit 38 = .ok (.iload 4, 2) := by decide +kernel
theorem d_M_visit_40 : decode b_M_visit 40 = .ok (.iload 5, 2) := by decide +kernel
theorem d_M_visit_42 : decode b_M_visit 42 = .ok (.if_icmp .le 11, 3) := by decide +kernel
theorem d_M_visit_45 : decode b_M_visit 45 = .ok (.aload_n 0, 1) := by decide +kernel
theorem d_M_visit_46 : decode b_M_visit 46 = .ok (.getfield 98, 3) := by decide +kernel
theorem d_M_visit_49 : decode b_M_visit 49 = .ok (.iconst 3, 1) := by decide +kernel
theorem d_M_visit_50 : decode b_M_visit 50 = .ok (.if_icmp .ne 13, 3) := by decide +kernel
theorem d_M_visit_53 : decode b_M_visit 53 = .ok (.aload_n 0, 1) := by decide +kernel
theorem d_M_visit_54 : decode b_M_visit 54 = .ok (.iload_n 1, 1) := by decide +kernel
theorem d_M_visit_55 : decode b_M_visit 55 = .ok (.iload_n 2, 1) := by decide +kernel
theorem d_M_visit_56 : decode b_M_visit 56 = .ok (.iload 5, 2) := by decide +kernel
theorem d_M_visit_58 : decode b_M_visit 58 = .ok (.invokevirtual 115, 3) := by decide +kernel
theorem d_M_visit_61 : decode b_M_visit 61 = .ok (.iconst 0, 1) := by decide +kernel
theorem d_M_visit_62 : decode b_M_visit 62 = .ok (.ireturn, 1) := by decide +kernel
theorem d_M_visit_63 : decode b_M_visit 63 = .ok (.aload_n 0, 1) := by decide +kernel
theorem d_M_visit_64 : decode b_M_visit 64 = .ok (.aload_n 0, 1) := by decide +kernel
theorem d_M_visit_65 : decode b_M_visit 65 = .ok (.getfield 58, 3) := by decide +kernel
theorem d_M_visit_68 : decode b_M_visit 68 = .ok (.iload_n 3, 1) := by decide +kernel
theorem d_M_visit_69 : decode b_M_visit 69 = .ok (.invokestatic 38, 3) := by decide +kernel
theorem d_M_visit_72 : decode b_M_visit 72 = .ok (.i2l, 1) := by decide +kernel
theorem d_M_visit_73 : decode b_M_visit 73 = .ok (.ladd, 1) := by decide +kernel
theorem d_M_visit_74 : decode b_M_visit 74 = .ok (.iload 4, 2) := by decide +kernel
theorem d_M_visit_76 : decode b_M_visit 76 = .ok (.invokestatic 38, 3) := by decide +kernel
theorem d_M_visit_79 : decode b_M_visit 79 = .ok (.i2l, 1) := by decide +kernel
theorem d_M_visit_80 : decode b_M_visit 80 = .ok (.ladd, 1) := by decide +kernel
theorem d_M_visit_81 : decode b_M_visit 81 = .ok (.putfield 58, 3) := by decide +kernel
theorem d_M_visit_84 : decode b_M_visit 84 = .ok (.iconst 0, 1) := by decide +kernel
theorem d_M_visit_85 : decode b_M_visit 85 = .ok (.istore 6, 2) := by decide +kernel
theorem d_M_visit_87 : decode b_M_visit 87 = .ok (.iload 6, 2) := by decide +kernel
theorem d_M_visit_89 : decode b_M_visit 89 = .ok (.aload_n 0, 1) := by decide +kernel
theorem d_M_visit_90 : decode b_M_visit 90 = .ok (.getfield 34, 3) := by decide +kernel
theorem d_M_visit_93 : decode b_M_visit 93 = .ok (.iconst 1, 1) := by decide +kernel
theorem d_M_visit_94 : decode b_M_visit 94 = .ok (.isub, 1) := by decide +kernel
theorem d_M_visit_95 : decode b_M_visit 95 = .ok (.if_icmp .ge 51, 3) := by decide +kernel
theorem d_M_visit_98 : decode b_M_visit 98 = .ok (.aload_n 0, 1) := by decide +kernel
theorem d_M_visit_99 : decode b_M_visit 99 = .ok (.iload_n 1, 1) := by decide +kernel
theorem d_M_visit_100 : decode b_M_visit 100 = .ok (.iconst 1, 1) := by decide +kernel
theorem d_M_visit_101 : decode b_M_visit 101 = .ok (.iload 6, 2) := by decide +kernel
theorem d_M_visit_103 : decode b_M_visit 103 = .ok (.invokevirtual 107, 3) := by decide +kernel
theorem d_M_visit_106 : decode b_M_visit 106 = .ok (.istore 7, 2) := by decide +kernel
theorem d_M_visit_108 : decode b_M_visit 108 = .ok (.aload_n 0, 1) := by decide +kernel
theorem d_M_visit_109 : decode b_M_visit 109 = .ok (.iload_n 2, 1) := by decide +kernel
theorem d_M_visit_110 : decode b_M_visit 110 = .ok (.iconst 0, 1) := by decide +kernel
theorem d_M_visit_111 : decode b_M_visit 111 = .ok (.iload 6, 2) := by decide +kernel
theorem d_M_visit_113 : decode b_M_visit 113 = .ok (.invokevirtual 107, 3) := by decide +kernel
theorem d_M_visit_116 : decode b_M_visit 116 = .ok (.istore 8, 2) := by decide +kernel
theorem d_M_visit_118 : decode b_M_visit 118 = .ok (.aload_n 0, 1) := by decide +kernel
theorem d_M_visit_119 : decode b_M_visit 119 = .ok (.aload_n 0, 1) := by decide +kernel
theorem d_M_visit_120 : decode b_M_visit 120 = .ok (.getfield 58, 3) := by decide +kernel
theorem d_M_visit_123 : decode b_M_visit 123 = .ok (.iload 7, 2) := by decide +kernel
theorem d_M_visit_125 : decode b_M_visit 125 = .ok (.invokestatic 38, 3) := by decide +kernel
theorem d_M_visit_128 : decode b_M_visit 128 = .ok (.i2l, 1) := by decide +kernel
theorem d_M_visit_129 : decode b_M_visit 129 = .ok (.ladd, 1) := by decide +kernel
theorem d_M_visit_130 : decode b_M_visit 130 = .ok (.iload 8, 2) := by decide +kernel
theorem d_M_visit_132 : decode b_M_visit 132 = .ok (.invokestatic 38, 3) := by decide +kernel
theorem d_M_visit_135 : decode b_M_visit 135 = .ok (.i2l, 1) := by decide +kernel
theorem d_M_visit_136 : decode b_M_visit 136 = .ok (.ladd, 1) := by decide +kernel
theorem d_M_visit_137 : decode b_M_visit 137 = .ok (.putfield 58, 3) := by decide +kernel
theorem d_M_visit_140 : decode b_M_visit 140 = .ok (.iinc 6 1, 3) := by decide +kernel
theorem d_M_visit_143 : decode b_M_visit 143 = .ok (.goto (-56), 3) := by decide +kernel
theorem d_M_visit_146 : decode b_M_visit 146 = .ok (.iconst 1, 1) := by decide +kernel
theorem d_M_visit_147 : decode b_M_visit 147 = .ok (.ireturn, 1) := by decide +kernel
theorem d_M_join_0 : decode b_M_join 0 = .ok (.aload_n 0, 1) := by decide +kernel
theorem d_M_join_1 : decode b_M_join 1 = .ok (.iconst 1, 1) := by decide +kernel
theorem d_M_join_2 : decode b_M_join 2 = .ok (.iload_n 1, 1) := by decide +kernel
theorem d_M_join_3 : decode b_M_join 3 = .ok (.iload_n 2, 1) := by decide +kernel
theorem d_M_join_4 : decode b_M_join 4 = .ok (.iload_n 3, 1) := by decide +kernel
theorem d_M_join_5 : decode b_M_join 5 = .ok (.invokevirtual 65, 3) := by decide +kernel
theorem d_M_join_8 : decode b_M_join 8 = .ok (.istore 4, 2) := by decide +kernel
theorem d_M_join_10 : decode b_M_join 10 = .ok (.iload 4, 2) := by decide +kernel
theorem d_M_join_12 : decode b_M_join 12 = .ok (.ifCond .eq 6, 3) := by decide +kernel
theorem d_M_join_15 : decode b_M_join 15 = .ok (.iload 4, 2) := by decide +kernel
theorem d_M_join_17 : decode b_M_join 17 = .ok (.ireturn, 1) := by decide +kernel
theorem d_M_join_18 : decode b_M_join 18 = .ok (.aload_n 0, 1) := by decide +kernel
theorem d_M_join_19 : decode b_M_join 19 = .ok (.iconst 0, 1) := by decide +kernel
theorem d_M_join_20 : decode b_M_join 20 = .ok (.putfield 98, 3) := by decide +kernel
theorem d_M_join_23 : decode b_M_join 23 = .ok (.iconst 1, 1) := by decide +kernel
theorem d_M_join_24 : decode b_M_join 24 = .ok (.istore 5, 2) := by decide +kernel
theorem d_M_join_26 : decode b_M_join 26 = .ok (.iload 5, 2) := by decide +kernel
theorem d_M_join_28 : decode b_M_join 28 = .ok (.ifCond .eq 121, 3) := by decide +kernel
theorem d_M_join_31 : decode b_M_join 31 = .ok (.aload_n 0, 1) := by decide +kernel
theorem d_M_join_32 : decode b_M_join 32 = .ok (.iload_n 1, 1) := by decide +kernel
theorem d_M_join_33 : decode b_M_join 33 = .ok (.iload_n 2, 1) := by decide +kernel
theorem d_M_join_34 : decode b_M_join 34 = .ok (.invokevirtual 119, 3) := by decide +kernel
theorem d_M_join_37 : decode b_M_join 37 = .ok (.ifCond .eq 26, 3) := by decide +kernel
theorem d_M_join_40 : decode b_M_join 40 = .ok (.aload_n 0, 1) := by decide +kernel
theorem d_M_join_41 : decode b_M_join 41 = .ok (.getfield 31, 3) := by decide +kernel
theorem d_M_join_44 : decode b_M_join 44 = .ok (.aload_n 0, 1) := by decide +kernel
theorem d_M_join_45 : decode b_M_join 45 = .ok (.getfield 98, 3) := by decide +kernel
theorem d_M_join_48 : decode b_M_join 48 = .ok (.iconst 0, 1) := by decide +kernel
theorem d_M_join_49 : decode b_M_join 49 = .ok (.iastore, 1) := by decide +kernel
theorem d_M_join_50 : decode b_M_join 50 = .ok (.aload_n 0, 1) := by decide +kernel
theorem d_M_join_51 : decode b_M_join 51 = .ok (.aload_n 0, 1) := by decide +kernel
theorem d_M_join_52 : decode b_M_join 52 = .ok (.getfield 98, 3) := by decide +kernel
theorem d_M_join_55 : decode b_M_join 55 = .ok (.iconst 1, 1) := by decide +kernel
theorem d_M_join_56 : decode b_M_join 56 = .ok (.iadd, 1) := by decide +kernel
theorem d_M_join_57 : decode b_M_join 57 = .ok (.putfield 98, 3) := by decide +kernel
theorem d_M_join_60 : decode b_M_join 60 = .ok (.goto (-34), 3) := by decide +kernel
theorem d_M_join_63 : decode b_M_join 63 = .ok (.aload_n 0, 1) := by decide +kernel
theorem d_M_join_64 : decode b_M_join 64 = .ok (.getfield 98, 3) := by decide +kernel
theorem d_M_join_67 : decode b_M_join 67 = .ok (.ifCond .le 36, 3) := by decide +kernel
theorem d_M_join_70 : decode b_M_join 70 = .ok (.aload_n 0, 1) := by decide +kernel
theorem d_M_join_71 : decode b_M_join 71 = .ok (.getfield 31, 3) := by decide +kernel
theorem d_M_join_74 : decode b_M_join 74 = .ok (.aload_n 0, 1) := by decide +kernel
theorem d_M_join_75 : decode b_M_join 75 = .ok (.getfield 98, 3) := by decide +kernel
theorem d_M_join_78 : decode b_M_join 78 = .ok (.iconst 1, 1) := by decide +kernel
theorem d_M_join_79 : decode b_M_join 79 = .ok (.isub, 1) := by decide +kernel
theorem d_M_join_80 : decode b_M_join 80 = .ok (.iaload, 1) := by decide +kernel
theorem d_M_join_81 : decode b_M_join 81 = .ok (.aload_n 0, 1) := by decide +kernel
theorem d_M_join_82 : decode b_M_join 82 = .ok (.getfield 34, 3) := by decide +kernel
theorem d_M_join_85 : decode b_M_join 85 = .ok (.iconst 2, 1) := by decide +kernel
theorem d_M_join_86 : decode b_M_join 86 = .ok (.isub, 1) := by decide +kernel
theorem d_M_join_87 : decode b_M_join 87 = .ok (.if_icmp .ne 16, 3) := by decide +kernel
theorem d_M_join_90 : decode b_M_join 90 = .ok (.aload_n 0, 1) := by decide +kernel
theorem d_M_join_91 : decode b_M_join 91 = .ok (.aload_n 0, 1) := by decide +kernel
theorem d_M_join_92 : decode b_M_join 92 = .ok (.getfield 98, 3) := by decide +kernel
theorem d_M_join_95 : decode b_M_join 95 = .ok (.iconst 1, 1) := by decide +kernel
theorem d_M_join_96 : decode b_M_join 96 = .ok (.isub, 1) := by decide +kernel
theorem d_M_join_97 : decode b_M_join 97 = .ok (.putfield 98, 3) := by decide +kernel
theorem d_M_join_100 : decode b_M_join 100 = .ok (.goto (-37), 3) := by decide +kernel
theorem d_M_join_103 : decode b_M_join 103 = .ok (.aload_n 0, 1) := by decide +kernel
theorem d_M_join_104 : decode b_M_join 104 = .ok (.getfield 98, 3) := by decide +kernel
theorem d_M_join_107 : decode b_M_join 107 = .ok (.ifCond .le 7, 3) := by decide +kernel
theorem d_M_join_110 : decode b_M_join 110 = .ok (.iconst 1, 1) := by decide +kernel
theorem d_M_join_111 : decode b_M_join 111 = .ok (.goto 4, 3) := by decide +kernel
theorem d_M_join_114 : decode b_M_join 114 = .ok (.iconst 0, 1) := by decide +kernel
theorem d_M_join_115 : decode b_M_join 115 = .ok (.istore 5, 2) := by decide +kernel
theorem d_M_join_117 : decode b_M_join 117 = .ok (.iload 5, 2) := by decide +kernel
theorem d_M_join_119 : decode b_M_join 119 = .ok (.ifCond .eq (-93), 3) := by decide +kernel
theorem d_M_join_122 : decode b_M_join 122 = .ok (.aload_n 0, 1) := by decide +kernel
theorem d_M_join_123 : decode b_M_join 123 = .ok (.getfield 31, 3) := by decide +kernel
theorem d_M_join_126 : decode b_M_join 126 = .ok (.aload_n 0, 1) := by decide +kernel
theorem d_M_join_127 : decode b_M_join 127 = .ok (.getfield 98, 3) := by decide +kernel
theorem d_M_join_130 : decode b_M_join 130 = .ok (.iconst 1, 1) := by decide +kernel
theorem d_M_join_131 : decode b_M_join 131 = .ok (.isub, 1) := by decide +kernel
theorem d_M_join_132 : decode b_M_join 132 = .ok (.aload_n 0, 1) := by decide +kernel
theorem d_M_join_133 : decode b_M_join 133 = .ok (.getfield 31, 3) := by decide +kernel
theorem d_M_join_136 : decode b_M_join 136 = .ok (.aload_n 0, 1) := by decide +kernel
theorem d_M_join_137 : decode b_M_join 137 = .ok (.getfield 98, 3) := by decide +kernel
theorem d_M_join_140 : decode b_M_join 140 = .ok (.iconst 1, 1) := by decide +kernel
theorem d_M_join_141 : decode b_M_join 141 = .ok (.isub, 1) := by decide +kernel
theorem d_M_join_142 : decode b_M_join 142 = .ok (.iaload, 1) := by decide +kernel
theorem d_M_join_143 : decode b_M_join 143 = .ok (.iconst 1, 1) := by decide +kernel
theorem d_M_join_144 : decode b_M_join 144 = .ok (.iadd, 1) := by decide +kernel
theorem d_M_join_145 : decode b_M_join 145 = .ok (.iastore, 1) := by decide +kernel
theorem d_M_join_146 : decode b_M_join 146 = .ok (.goto (-120), 3) := by decide +kernel
theorem d_M_join_149 : decode b_M_join 149 = .ok (.aload_n 0, 1) := by decide +kernel
theorem d_M_join_150 : decode b_M_join 150 = .ok (.aload_n 0, 1) := by decide +kernel
theorem d_M_join_151 : decode b_M_join 151 = .ok (.getfield 58, 3) := by decide +kernel
theorem d_M_join_154 : decode b_M_join 154 = .ok (.aload_n 0, 1) := by decide +kernel
theorem d_M_join_155 : decode b_M_join 155 = .ok (.getfield 55, 3) := by decide +kernel
theorem d_M_join_158 : decode b_M_join 158 = .ok (.invokestatic 38, 3) := by decide +kernel
theorem d_M_join_161 : decode b_M_join 161 = .ok (.i2l, 1) := by decide +kernel
theorem d_M_join_162 : decode b_M_join 162 = .ok (.ladd, 1) := by decide +kernel
theorem d_M_join_163 : decode b_M_join 163 = .ok (.putfield 58, 3) := by decide +kernel
theorem d_M_join_166 : decode b_M_join 166 = .ok (.aload_n 0, 1) := by decide +kernel
theorem d_M_join_167 : decode b_M_join 167 = .ok (.iload_n 3, 1) := by decide +kernel
theorem d_M_join_168 : decode b_M_join 168 = .ok (.invokevirtual 77, 3) := by decide +kernel
theorem d_M_join_171 : decode b_M_join 171 = .ok (.ireturn, 1) := by decide +kernel
theorem d_M_transfers_0 : decode b_M_transfers 0 = .ok (.aload_n 0, 1) := by decide +kernel
theorem d_M_transfers_1 : decode b_M_transfers 1 = .ok (.getfield 51, 3) := by decide +kernel
theorem d_M_transfers_4 : decode b_M_transfers 4 = .ok (.lreturn, 1) := by decide +kernel
theorem d_M_blocks_0 : decode b_M_blocks 0 = .ok (.iconst 0, 1) := by decide +kernel
theorem d_M_blocks_1 : decode b_M_blocks 1 = .ok (.istore_n 1, 1) := by decide +kernel
theorem d_M_blocks_2 : decode b_M_blocks 2 = .ok (.iconst 0, 1) := by decide +kernel
theorem d_M_blocks_3 : decode b_M_blocks 3 = .ok (.istore_n 2, 1) := by decide +kernel
theorem d_M_blocks_4 : decode b_M_blocks 4 = .ok (.iload_n 2, 1) := by decide +kernel
theorem d_M_blocks_5 : decode b_M_blocks 5 = .ok (.bipush 8, 2) := by decide +kernel
theorem d_M_blocks_7 : decode b_M_blocks 7 = .ok (.if_icmp .ge 34, 3) := by decide +kernel
theorem d_M_blocks_10 : decode b_M_blocks 10 = .ok (.iload_n 1, 1) := by decide +kernel
theorem d_M_blocks_11 : decode b_M_blocks 11 = .ok (.aload_n 0, 1) := by decide +kernel
theorem d_M_blocks_12 : decode b_M_blocks 12 = .ok (.getfield 16, 3) := by decide +kernel
theorem d_M_blocks_15 : decode b_M_blocks 15 = .ok (.iload_n 2, 1) := by decide +kernel
theorem d_M_blocks_16 : decode b_M_blocks 16 = .ok (.iaload, 1) := by decide +kernel
theorem d_M_blocks_17 : decode b_M_blocks 17 = .ok (.ifCond .le 15, 3) := by decide +kernel
theorem d_M_blocks_20 : decode b_M_blocks 20 = .ok (.aload_n 0, 1) := by decide +kernel
theorem d_M_blocks_21 : decode b_M_blocks 21 = .ok (.getfield 16, 3) := by decide +kernel
theorem d_M_blocks_24 : decode b_M_blocks 24 = .ok (.iload_n 2, 1) := by decide +kernel
theorem d_M_blocks_25 : decode b_M_blocks 25 = .ok (.iaload, 1) := by decide +kernel
theorem d_M_blocks_26 : decode b_M_blocks 26 = .ok (.invokestatic 38, 3) := by decide +kernel
theorem d_M_blocks_29 : decode b_M_blocks 29 = .ok (.goto 4, 3) := by decide +kernel
theorem d_M_blocks_32 : decode b_M_blocks 32 = .ok (.iconst 0, 1) := by decide +kernel
theorem d_M_blocks_33 : decode b_M_blocks 33 = .ok (.iadd, 1) := by decide +kernel
theorem d_M_blocks_34 : decode b_M_blocks 34 = .ok (.istore_n 1, 1) := by decide +kernel
theorem d_M_blocks_35 : decode b_M_blocks 35 = .ok (.iinc 2 1, 3) := by decide +kernel
theorem d_M_blocks_38 : decode b_M_blocks 38 = .ok (.goto (-34), 3) := by decide +kernel
theorem d_M_blocks_41 : decode b_M_blocks 41 = .ok (.iload_n 1, 1) := by decide +kernel
theorem d_M_blocks_42 : decode b_M_blocks 42 = .ok (.ireturn, 1) := by decide +kernel
