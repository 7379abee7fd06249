-- decode rows (by program)
theorem dX5_weight_14 : decode cX5_weight 14 = .ok (.iload_n 2, 1) := by decide +kernel
theorem dX5_weight_15 : decode cX5_weight 15 = .ok (.iconst 0, 1) := by decide +kernel
theorem dX5_weight_16 : decode cX5_weight 16 = .ok (.bipush 9, 2) := by decide +kernel
theorem dX5_weight_18 : decode cX5_weight 18 = .ok (.invokestatic 45, 3) := by decide +kernel
theorem dX5_weight_21 : decode cX5_weight 21 = .ok (.ifCond .ne 5, 3) := by decide +kernel
theorem dX5_weight_24 : decode cX5_weight 24 = .ok (.iconst (-1), 1) := by decide +kernel
theorem dX5_weight_25 : decode cX5_weight 25 = .ok (.ireturn, 1) := by decide +kernel
theorem dX5_weight_26 : decode cX5_weight 26 = .ok (.aload_n 0, 1) := by decide +kernel
theorem dX5_weight_27 : decode cX5_weight 27 = .ok (.getfield 20, 3) := by decide +kernel
theorem dX5_weight_30 : decode cX5_weight 30 = .ok (.iload_n 1, 1) := by decide +kernel
theorem dX5_weight_31 : decode cX5_weight 31 = .ok (.iaload, 1) := by decide +kernel
theorem dX5_weight_32 : decode cX5_weight 32 = .ok (.istore_n 3, 1) := by decide +kernel
theorem dX5_weight_33 : decode cX5_weight 33 = .ok (.aload_n 0, 1) := by decide +kernel
theorem dX5_weight_34 : decode cX5_weight 34 = .ok (.getfield 20, 3) := by decide +kernel
theorem dX5_weight_37 : decode cX5_weight 37 = .ok (.iload_n 1, 1) := by decide +kernel
theorem dX5_weight_38 : decode cX5_weight 38 = .ok (.iload_n 2, 1) := by decide +kernel
theorem dX5_weight_39 : decode cX5_weight 39 = .ok (.iastore, 1) := by decide +kernel
theorem dX5_weight_40 : decode cX5_weight 40 = .ok (.iload_n 3, 1) := by decide +kernel
theorem dX5_weight_41 : decode cX5_weight 41 = .ok (.ireturn, 1) := by decide +kernel
theorem dX5_weights_0 : decode cX5_weights 0 = .ok (.iconst 0, 1) := by decide +kernel
theorem dX5_weights_1 : decode cX5_weights 1 = .ok (.istore_n 1, 1) := by decide +kernel
theorem dX5_weights_2 : decode cX5_weights 2 = .ok (.iconst 0, 1) := by decide +kernel
theorem dX5_weights_3 : decode cX5_weights 3 = .ok (.istore_n 2, 1) := by decide +kernel
theorem dX5_weights_4 : decode cX5_weights 4 = .ok (.iload_n 2, 1) := by decide +kernel
theorem dX5_weights_5 : decode cX5_weights 5 = .ok (.aload_n 0, 1) := by decide +kernel
theorem dX5_weights_6 : decode cX5_weights 6 = .ok (.invokevirtual 61, 3) := by decide +kernel
theorem dX5_weights_9 : decode cX5_weights 9 = .ok (.if_icmp .ge 18, 3) := by decide +kernel
theorem dX5_weights_12 : decode cX5_weights 12 = .ok (.iload_n 1, 1) := by decide +kernel
theorem dX5_weights_13 : decode cX5_weights 13 = .ok (.aload_n 0, 1) := by decide +kernel
theorem dX5_weights_14 : decode cX5_weights 14 = .ok (.getfield 20, 3) := by decide +kernel
theorem dX5_weights_17 : decode cX5_weights 17 = .ok (.iload_n 2, 1) := by decide +kernel
theorem dX5_weights_18 : decode cX5_weights 18 = .ok (.iaload, 1) := by decide +kernel
theorem dX5_weights_19 : decode cX5_weights 19 = .ok (.iadd, 1) := by decide +kernel
theorem dX5_weights_20 : decode cX5_weights 20 = .ok (.istore_n 1, 1) := by decide +kernel
theorem dX5_weights_21 : decode cX5_weights 21 = .ok (.iinc 2 1, 3) := by decide +kernel
theorem dX5_weights_24 : decode cX5_weights 24 = .ok (.goto (-20), 3) := by decide +kernel
theorem dX5_weights_27 : decode cX5_weights 27 = .ok (.iload_n 1, 1) := by decide +kernel
theorem dX5_weights_28 : decode cX5_weights 28 = .ok (.ireturn, 1) := by decide +kernel
theorem dX5_common_0 : decode cX5_common 0 = .ok (.lload_n 0, 1) := by decide +kernel
theorem dX5_common_1 : decode cX5_common 1 = .ok (.lstore 4, 2) := by decide +kernel
theorem dX5_common_3 : decode cX5_common 3 = .ok (.lload_n 2, 1) := by decide +kernel
theorem dX5_common_4 : decode cX5_common 4 = .ok (.lstore 6, 2) := by decide +kernel
theorem dX5_common_6 : decode cX5_common 6 = .ok (.lload 6, 2) := by decide +kernel
theorem dX5_common_8 : decode cX5_common 8 = .ok (.lconst 0, 1) := by decide +kernel
theorem dX5_common_9 : decode cX5_common 9 = .ok (.lcmp, 1) := by decide +kernel
theorem dX5_common_10 : decode cX5_common 10 = .ok (.ifCond .eq 21, 3) := by decide +kernel
theorem dX5_common_13 : decode cX5_common 13 = .ok (.lload 4, 2) := by decide +kernel
theorem dX5_common_15 : decode cX5_common 15 = .ok (.lload 6, 2) := by decide +kernel
theorem dX5_common_17 : decode cX5_common 17 = .ok (.lrem, 1) := by decide +kernel
theorem dX5_common_18 : decode cX5_common 18 = .ok (.lstore 8, 2) := by decide +kernel
theorem dX5_common_20 : decode cX5_common 20 = .ok (.lload 6, 2) := by decide +kernel
theorem dX5_common_22 : decode cX5_common 22 = .ok (.lstore 4, 2) := by decide +kernel
theorem dX5_common_24 : decode cX5_common 24 = .ok (.lload 8, 2) := by decide +kernel
theorem dX5_common_26 : decode cX5_common 26 = .ok (.lstore 6, 2) := by decide +kernel
theorem dX5_common_28 : decode cX5_common 28 = .ok (.goto (-22), 3) := by decide +kernel
theorem dX5_common_31 : decode cX5_common 31 = .ok (.lload 4, 2) := by decide +kernel
theorem dX5_common_33 : decode cX5_common 33 = .ok (.lreturn, 1) := by decide +kernel
theorem dX5_chance_0 : decode cX5_chance 0 = .ok (.aload_n 0, 1) := by decide +kernel
theorem dX5_chance_1 : decode cX5_chance 1 = .ok (.iconst 0, 1) := by decide +kernel
theorem dX5_chance_2 : decode cX5_chance 2 = .ok (.putfield 42, 3) := by decide +kernel
theorem dX5_chance_5 : decode cX5_chance 5 = .ok (.aload_n 0, 1) := by decide +kernel
theorem dX5_chance_6 : decode cX5_chance 6 = .ok (.iload_n 1, 1) := by decide +kernel
theorem dX5_chance_7 : decode cX5_chance 7 = .ok (.invokevirtual 72, 3) := by decide +kernel
theorem dX5_chance_10 : decode cX5_chance 10 = .ok (.ifCond .eq 22, 3) := by decide +kernel
theorem dX5_chance_13 : decode cX5_chance 13 = .ok (.iload_n 2, 1) := by decide +kernel
theorem dX5_chance_14 : decode cX5_chance 14 = .ok (.iconst 0, 1) := by decide +kernel
theorem dX5_chance_15 : decode cX5_chance 15 = .ok (.bipush 6, 2) := by decide +kernel
theorem dX5_chance_17 : decode cX5_chance 17 = .ok (.invokestatic 45, 3) := by decide +kernel
theorem dX5_chance_20 : decode cX5_chance 20 = .ok (.ifCond .eq 12, 3) := by decide +kernel
theorem dX5_chance_23 : decode cX5_chance 23 = .ok (.iload_n 3, 1) := by decide +kernel
theorem dX5_chance_24 : decode cX5_chance 24 = .ok (.iconst 0, 1) := by decide +kernel
theorem dX5_chance_25 : decode cX5_chance 25 = .ok (.iconst 1, 1) := by decide +kernel
theorem dX5_chance_26 : decode cX5_chance 26 = .ok (.invokestatic 45, 3) := by decide +kernel
theorem dX5_chance_29 : decode cX5_chance 29 = .ok (.ifCond .ne 7, 3) := by decide +kernel
theorem dX5_chance_32 : decode cX5_chance 32 = .ok (.ldc2_w 106, 3) := by decide +kernel
theorem dX5_chance_35 : decode cX5_chance 35 = .ok (.lreturn, 1) := by decide +kernel
theorem dX5_chance_36 : decode cX5_chance 36 = .ok (.aload_n 0, 1) := by decide +kernel
theorem dX5_chance_37 : decode cX5_chance 37 = .ok (.invokevirtual 75, 3) := by decide +kernel
theorem dX5_chance_40 : decode cX5_chance 40 = .ok (.ifCond .eq 10, 3) := by decide +kernel
theorem dX5_chance_43 : decode cX5_chance 43 = .ok (.aload_n 0, 1) := by decide +kernel
theorem dX5_chance_44 : decode cX5_chance 44 = .ok (.invokevirtual 108, 3) := by decide +kernel
theorem dX5_chance_47 : decode cX5_chance 47 = .ok (.ifCond .ne 7, 3) := by decide +kernel
theorem dX5_chance_50 : decode cX5_chance 50 = .ok (.ldc2_w 111, 3) := by decide +kernel
theorem dX5_chance_53 : decode cX5_chance 53 = .ok (.lreturn, 1) := by decide +kernel
theorem dX5_chance_54 : decode cX5_chance 54 = .ok (.lconst 1, 1) := by decide +kernel
theorem dX5_chance_55 : decode cX5_chance 55 = .ok (.lstore 4, 2) := by decide +kernel
theorem dX5_chance_57 : decode cX5_chance 57 = .ok (.iconst 0, 1) := by decide +kernel
theorem dX5_chance_58 : decode cX5_chance 58 = .ok (.istore 6, 2) := by decide +kernel
theorem dX5_chance_60 : decode cX5_chance 60 = .ok (.iload 6, 2) := by decide +kernel
theorem dX5_chance_62 : decode cX5_chance 62 = .ok (.aload_n 0, 1) := by decide +kernel
theorem dX5_chance_63 : decode cX5_chance 63 = .ok (.invokevirtual 61, 3) := by decide +kernel
theorem dX5_chance_66 : decode cX5_chance 66 = .ok (.if_icmp .ge 34, 3) := by decide +kernel
theorem dX5_chance_69 : decode cX5_chance 69 = .ok (.lload 4, 2) := by decide +kernel
theorem dX5_chance_71 : decode cX5_chance 71 = .ok (.lload 4, 2) := by decide +kernel
theorem dX5_chance_73 : decode cX5_chance 73 = .ok (.aload_n 0, 1) := by decide +kernel
theorem dX5_chance_74 : decode cX5_chance 74 = .ok (.iload 6, 2) := by decide +kernel
theorem dX5_chance_76 : decode cX5_chance 76 = .ok (.invokevirtual 82, 3) := by decide +kernel
theorem dX5_chance_79 : decode cX5_chance 79 = .ok (.i2l, 1) := by decide +kernel
theorem dX5_chance_80 : decode cX5_chance 80 = .ok (.invokestatic 113, 3) := by decide +kernel
theorem dX5_chance_83 : decode cX5_chance 83 = .ok (.ldiv, 1) := by decide +kernel
theorem dX5_chance_84 : decode cX5_chance 84 = .ok (.aload_n 0, 1) := by decide +kernel
theorem dX5_chance_85 : decode cX5_chance 85 = .ok (.iload 6, 2) := by decide +kernel
theorem dX5_chance_87 : decode cX5_chance 87 = .ok (.invokevirtual 82, 3) := by decide +kernel
theorem dX5_chance_90 : decode cX5_chance 90 = .ok (.i2l, 1) := by decide +kernel
theorem dX5_chance_91 : decode cX5_chance 91 = .ok (.lmul, 1) := by decide +kernel
theorem dX5_chance_92 : decode cX5_chance 92 = .ok (.lstore 4, 2) := by decide +kernel
theorem dX5_chance_94 : decode cX5_chance 94 = .ok (.iinc 6 1, 3) := by decide +kernel
theorem dX5_chance_97 : decode cX5_chance 97 = .ok (.goto (-37), 3) := by decide +kernel
theorem dX5_chance_100 : decode cX5_chance 100 = .ok (.iconst 0, 1) := by decide +kernel
theorem dX5_chance_101 : decode cX5_chance 101 = .ok (.istore 6, 2) := by decide +kernel
theorem dX5_chance_103 : decode cX5_chance 103 = .ok (.iload 6, 2) := by decide +kernel
theorem dX5_chance_105 : decode cX5_chance 105 = .ok (.bipush 8, 2) := by decide +kernel
theorem dX5_chance_107 : decode cX5_chance 107 = .ok (.if_icmp .ge 26, 3) := by decide +kernel
theorem dX5_chance_110 : decode cX5_chance 110 = .ok (.aload_n 0, 1) := by decide +kernel
theorem dX5_chance_111 : decode cX5_chance 111 = .ok (.getfield 35, 3) := by decide +kernel
theorem dX5_chance_114 : decode cX5_chance 114 = .ok (.iload 6, 2) := by decide +kernel
theorem dX5_chance_116 : decode cX5_chance 116 = .ok (.iload 6, 2) := by decide +kernel
theorem dX5_chance_118 : decode cX5_chance 118 = .ok (.ifCond .ne 7, 3) := by decide +kernel
theorem dX5_chance_121 : decode cX5_chance 121 = .ok (.lconst 1, 1) := by decide +kernel
theorem dX5_chance_122 : decode cX5_chance 122 = .ok (.goto 4, 3) := by decide +kernel
theorem dX5_chance_125 : decode cX5_chance 125 = .ok (.lconst 0, 1) := by decide +kernel
theorem dX5_chance_126 : decode cX5_chance 126 = .ok (.lastore, 1) := by decide +kernel
theorem dX5_chance_127 : decode cX5_chance 127 = .ok (.iinc 6 1, 3) := by decide +kernel
theorem dX5_chance_130 : decode cX5_chance 130 = .ok (.goto (-27), 3) := by decide +kernel
theorem dX5_chance_133 : decode cX5_chance 133 = .ok (.lconst 1, 1) := by decide +kernel
theorem dX5_chance_134 : decode cX5_chance 134 = .ok (.lstore 6, 2) := by decide +kernel
theorem dX5_chance_136 : decode cX5_chance 136 = .ok (.iconst 0, 1) := by decide +kernel
theorem dX5_chance_137 : decode cX5_chance 137 = .ok (.istore 8, 2) := by decide +kernel
theorem dX5_chance_139 : decode cX5_chance 139 = .ok (.iload 8, 2) := by decide +kernel
theorem dX5_chance_141 : decode cX5_chance 141 = .ok (.iload_n 2, 1) := by decide +kernel
theorem dX5_chance_142 : decode cX5_chance 142 = .ok (.if_icmp .ge 147, 3) := by decide +kernel
theorem dX5_chance_145 : decode cX5_chance 145 = .ok (.iconst 0, 1) := by decide +kernel
theorem dX5_chance_146 : decode cX5_chance 146 = .ok (.istore 9, 2) := by decide +kernel
theorem dX5_chance_148 : decode cX5_chance 148 = .ok (.iload 9, 2) := by decide +kernel
theorem dX5_chance_150 : decode cX5_chance 150 = .ok (.aload_n 0, 1) := by decide +kernel
theorem dX5_chance_151 : decode cX5_chance 151 = .ok (.getfield 7, 3) := by decide +kernel
theorem dX5_chance_154 : decode cX5_chance 154 = .ok (.if_icmp .ge 84, 3) := by decide +kernel
theorem dX5_chance_157 : decode cX5_chance 157 = .ok (.aload_n 0, 1) := by decide +kernel
theorem dX5_chance_158 : decode cX5_chance 158 = .ok (.getfield 39, 3) := by decide +kernel
theorem dX5_chance_161 : decode cX5_chance 161 = .ok (.iload 9, 2) := by decide +kernel
theorem dX5_chance_163 : decode cX5_chance 163 = .ok (.lconst 0, 1) := by decide +kernel
theorem dX5_chance_164 : decode cX5_chance 164 = .ok (.lastore, 1) := by decide +kernel
theorem dX5_chance_165 : decode cX5_chance 165 = .ok (.iconst 0, 1) := by decide +kernel
theorem dX5_chance_166 : decode cX5_chance 166 = .ok (.istore 10, 2) := by decide +kernel
theorem dX5_chance_168 : decode cX5_chance 168 = .ok (.iload 10, 2) := by decide +kernel
theorem dX5_chance_170 : decode cX5_chance 170 = .ok (.aload_n 0, 1) := by decide +kernel
theorem dX5_chance_171 : decode cX5_chance 171 = .ok (.getfield 7, 3) := by decide +kernel
theorem dX5_chance_174 : decode cX5_chance 174 = .ok (.if_icmp .ge 58, 3) := by decide +kernel
theorem dX5_chance_177 : decode cX5_chance 177 = .ok (.aload_n 0, 1) := by decide +kernel
theorem dX5_chance_178 : decode cX5_chance 178 = .ok (.getfield 39, 3) := by decide +kernel
theorem dX5_chance_181 : decode cX5_chance 181 = .ok (.iload 9, 2) := by decide +kernel
theorem dX5_chance_183 : decode cX5_chance 183 = .ok (.dup2, 1) := by decide +kernel
theorem dX5_chance_184 : decode cX5_chance 184 = .ok (.laload, 1) := by decide +kernel
theorem dX5_chance_185 : decode cX5_chance 185 = .ok (.aload_n 0, 1) := by decide +kernel
theorem dX5_chance_186 : decode cX5_chance 186 = .ok (.getfield 35, 3) := by decide +kernel
theorem dX5_chance_189 : decode cX5_chance 189 = .ok (.iload 10, 2) := by decide +kernel
theorem dX5_chance_191 : decode cX5_chance 191 = .ok (.laload, 1) := by decide +kernel
theorem dX5_chance_192 : decode cX5_chance 192 = .ok (.aload_n 0, 1) := by decide +kernel
theorem dX5_chance_193 : decode cX5_chance 193 = .ok (.getfield 20, 3) := by decide +kernel
theorem dX5_chance_196 : decode cX5_chance 196 = .ok (.aload_n 0, 1) := by decide +kernel
theorem dX5_chance_197 : decode cX5_chance 197 = .ok (.iload 10, 2) := by decide +kernel
theorem dX5_chance_199 : decode cX5_chance 199 = .ok (.iload 9, 2) := by decide +kernel
theorem dX5_chance_201 : decode cX5_chance 201 = .ok (.invokevirtual 53, 3) := by decide +kernel
theorem dX5_chance_204 : decode cX5_chance 204 = .ok (.iaload, 1) := by decide +kernel
theorem dX5_chance_205 : decode cX5_chance 205 = .ok (.i2l, 1) := by decide +kernel
theorem dX5_chance_206 : decode cX5_chance 206 = .ok (.lmul, 1) := by decide +kernel
theorem dX5_chance_207 : decode cX5_chance 207 = .ok (.lload 4, 2) := by decide +kernel
theorem dX5_chance_209 : decode cX5_chance 209 = .ok (.aload_n 0, 1) := by decide +kernel
theorem dX5_chance_210 : decode cX5_chance 210 = .ok (.aload_n 0, 1) := by decide +kernel
theorem dX5_chance_211 : decode cX5_chance 211 = .ok (.iload 10, 2) := by decide +kernel
theorem dX5_chance_213 : decode cX5_chance 213 = .ok (.iload 9, 2) := by decide +kernel
theorem dX5_chance_215 : decode cX5_chance 215 = .ok (.invokevirtual 53, 3) := by decide +kernel
theorem dX5_chance_218 : decode cX5_chance 218 = .ok (.invokevirtual 82, 3) := by decide +kernel
theorem dX5_chance_221 : decode cX5_chance 221 = .ok (.i2l, 1) := by decide +kernel
theorem dX5_chance_222 : decode cX5_chance 222 = .ok (.ldiv, 1) := by decide +kernel
theorem dX5_chance_223 : decode cX5_chance 223 = .ok (.lmul, 1) := by decide +kernel
theorem dX5_chance_224 : decode cX5_chance 224 = .ok (.ladd, 1) := by decide +kernel
theorem dX5_chance_225 : decode cX5_chance 225 = .ok (.lastore, 1) := by decide +kernel
theorem dX5_chance_226 : decode cX5_chance 226 = .ok (.iinc 10 1, 3) := by decide +kernel
theorem dX5_chance_229 : decode cX5_chance 229 = .ok (.goto (-61), 3) := by decide +kernel
theorem dX5_chance_232 : decode cX5_chance 232 = .ok (.iinc 9 1, 3) := by decide +kernel
theorem dX5_chance_235 : decode cX5_chance 235 = .ok (.goto (-87), 3) := by decide +kernel
theorem dX5_chance_238 : decode cX5_chance 238 = .ok (.iconst 0, 1) := by decide +kernel
theorem dX5_chance_239 : decode cX5_chance 239 = .ok (.istore 9, 2) := by decide +kernel
theorem dX5_chance_241 : decode cX5_chance 241 = .ok (.iload 9, 2) := by decide +kernel
theorem dX5_chance_243 : decode cX5_chance 243 = .ok (.aload_n 0, 1) := by decide +kernel
theorem dX5_chance_244 : decode cX5_chance 244 = .ok (.getfield 7, 3) := by decide +kernel
theorem dX5_chance_247 : decode cX5_chance 247 = .ok (.if_icmp .ge 23, 3) := by decide +kernel
theorem dX5_chance_250 : decode cX5_chance 250 = .ok (.aload_n 0, 1) := by decide +kernel
theorem dX5_chance_251 : decode cX5_chance 251 = .ok (.getfield 35, 3) := by decide +kernel
theorem dX5_chance_254 : decode cX5_chance 254 = .ok (.iload 9, 2) := by decide +kernel
theorem dX5_chance_256 : decode cX5_chance 256 = .ok (.aload_n 0, 1) := by decide +kernel
theorem dX5_chance_257 : decode cX5_chance 257 = .ok (.getfield 39, 3) := by decide +kernel
theorem dX5_chance_260 : decode cX5_chance 260 = .ok (.iload 9, 2) := by decide +kernel
theorem dX5_chance_262 : decode cX5_chance 262 = .ok (.laload, 1) := by decide +kernel
theorem dX5_chance_263 : decode cX5_chance 263 = .ok (.lastore, 1) := by decide +kernel
theorem dX5_chance_264 : decode cX5_chance 264 = .ok (.iinc 9 1, 3) := by decide +kernel
theorem dX5_chance_267 : decode cX5_chance 267 = .ok (.goto (-26), 3) := by decide +kernel
theorem dX5_chance_270 : decode cX5_chance 270 = .ok (.lload 6, 2) := by decide +kernel
theorem dX5_chance_272 : decode cX5_chance 272 = .ok (.aload_n 0, 1) := by decide +kernel
theorem dX5_chance_273 : decode cX5_chance 273 = .ok (.invokevirtual 108, 3) := by decide +kernel
theorem dX5_chance_276 : decode cX5_chance 276 = .ok (.i2l, 1) := by decide +kernel
theorem dX5_chance_277 : decode cX5_chance 277 = .ok (.lload 4, 2) := by decide +kernel
theorem dX5_chance_279 : decode cX5_chance 279 = .ok (.lmul, 1) := by decide +kernel
theorem dX5_chance_280 : decode cX5_chance 280 = .ok (.lmul, 1) := by decide +kernel
theorem dX5_chance_281 : decode cX5_chance 281 = .ok (.lstore 6, 2) := by decide +kernel
theorem dX5_chance_283 : decode cX5_chance 283 = .ok (.iinc 8 1, 3) := by decide +kernel
theorem dX5_chance_286 : decode cX5_chance 286 = .ok (.goto (-147), 3) := by decide +kernel
theorem dX5_chance_289 : decode cX5_chance 289 = .ok (.lconst 0, 1) := by decide +kernel
theorem dX5_chance_290 : decode cX5_chance 290 = .ok (.lstore 8, 2) := by decide +kernel
theorem dX5_chance_292 : decode cX5_chance 292 = .ok (.iconst 0, 1) := by decide +kernel
theorem dX5_chance_293 : decode cX5_chance 293 = .ok (.istore 10, 2) := by decide +kernel
theorem dX5_chance_295 : decode cX5_chance 295 = .ok (.iload 10, 2) := by decide +kernel
theorem dX5_chance_297 : decode cX5_chance 297 = .ok (.aload_n 0, 1) := by decide +kernel
theorem dX5_chance_298 : decode cX5_chance 298 = .ok (.getfield 7, 3) := by decide +kernel
theorem dX5_chance_301 : decode cX5_chance 301 = .ok (.if_icmp .ge 36, 3) := by decide +kernel
theorem dX5_chance_304 : decode cX5_chance 304 = .ok (.lload 8, 2) := by decide +kernel
theorem dX5_chance_306 : decode cX5_chance 306 = .ok (.aload_n 0, 1) := by decide +kernel
theorem dX5_chance_307 : decode cX5_chance 307 = .ok (.iconst 0, 1) := by decide +kernel
theorem dX5_chance_308 : decode cX5_chance 308 = .ok (.iload 10, 2) := by decide +kernel
theorem dX5_chance_310 : decode cX5_chance 310 = .ok (.invokevirtual 53, 3) := by decide +kernel
theorem dX5_chance_313 : decode cX5_chance 313 = .ok (.iload_n 1, 1) := by decide +kernel
theorem dX5_chance_314 : decode cX5_chance 314 = .ok (.if_icmp .ne 13, 3) := by decide +kernel
theorem dX5_chance_317 : decode cX5_chance 317 = .ok (.aload_n 0, 1) := by decide +kernel
theorem dX5_chance_318 : decode cX5_chance 318 = .ok (.getfield 35, 3) := by decide +kernel
theorem dX5_chance_321 : decode cX5_chance 321 = .ok (.iload 10, 2) := by decide +kernel
theorem dX5_chance_323 : decode cX5_chance 323 = .ok (.laload, 1) := by decide +kernel
theorem dX5_chance_324 : decode cX5_chance 324 = .ok (.goto 4, 3) := by decide +kernel
theorem dX5_chance_327 : decode cX5_chance 327 = .ok (.lconst 0, 1) := by decide +kernel
theorem dX5_chance_328 : decode cX5_chance 328 = .ok (.ladd, 1) := by decide +kernel
theorem dX5_chance_329 : decode cX5_chance 329 = .ok (.lstore 8, 2) := by decide +kernel
theorem dX5_chance_331 : decode cX5_chance 331 = .ok (.iinc 10 1, 3) := by decide +kernel
theorem dX5_chance_334 : decode cX5_chance 334 = .ok (.goto (-39), 3) := by decide +kernel
theorem dX5_chance_337 : decode cX5_chance 337 = .ok (.lload 8, 2) := by decide +kernel
theorem dX5_chance_339 : decode cX5_chance 339 = .ok (.lload 6, 2) := by decide +kernel
theorem dX5_chance_341 : decode cX5_chance 341 = .ok (.invokestatic 113, 3) := by decide +kernel
theorem dX5_chance_344 : decode cX5_chance 344 = .ok (.lstore 10, 2) := by decide +kernel
theorem dX5_chance_346 : decode cX5_chance 346 = .ok (.iload_n 3, 1) := by decide +kernel
theorem dX5_chance_347 : decode cX5_chance 347 = .ok (.ifCond .ne 11, 3) := by decide +kernel
theorem dX5_chance_350 : decode cX5_chance 350 = .ok (.lload 8, 2) := by decide +kernel
theorem dX5_chance_352 : decode cX5_chance 352 = .ok (.lload 10, 2) := by decide +kernel
theorem dX5_chance_354 : decode cX5_chance 354 = .ok (.ldiv, 1) := by decide +kernel
theorem dX5_chance_355 : decode cX5_chance 355 = .ok (.goto 8, 3) := by decide +kernel
theorem dX5_chance_358 : decode cX5_chance 358 = .ok (.lload 6, 2) := by decide +kernel
theorem dX5_chance_360 : decode cX5_chance 360 = .ok (.lload 10, 2) := by decide +kernel
theorem dX5_chance_362 : decode cX5_chance 362 = .ok (.ldiv, 1) := by decide +kernel
theorem dX5_chance_363 : decode cX5_chance 363 = .ok (.lreturn, 1) := by decide +kernel
theorem dX5_root_0 : decode cX5_root 0 = .ok (.iconst 0, 1) := by decide +kernel
theorem dX5_root_1 : decode cX5_root 1 = .ok (.istore_n 1, 1) := by decide +kernel
theorem dX5_root_2 : decode cX5_root 2 = .ok (.iload_n 1, 1) := by decide +kernel
theorem dX5_root_3 : decode cX5_root 3 = .ok (.iload_n 1, 1) := by decide +kernel
theorem dX5_root_4 : decode cX5_root 4 = .ok (.imul, 1) := by decide +kernel
theorem dX5_root_5 : decode cX5_root 5 = .ok (.iload_n 0, 1) := by decide +kernel
theorem dX5_root_6 : decode cX5_root 6 = .ok (.if_icmp .ge 9, 3) := by decide +kernel
theorem dX5_root_9 : decode cX5_root 9 = .ok (.iinc 1 1, 3) := by decide +kernel
theorem dX5_root_12 : decode cX5_root 12 = .ok (.goto (-10), 3) := by decide +kernel
theorem dX5_root_15 : decode cX5_root 15 = .ok (.iload_n 1, 1) := by decide +kernel
theorem dX5_root_16 : decode cX5_root 16 = .ok (.ireturn, 1) := by decide +kernel
theorem dX5_sieved_0 : decode cX5_sieved 0 = .ok (.iload_n 1, 1) := by decide +kernel
theorem dX5_sieved_1 : decode cX5_sieved 1 = .ok (.iload_n 1, 1) := by decide +kernel
theorem dX5_sieved_2 : decode cX5_sieved 2 = .ok (.iload_n 2, 1) := by decide +kernel
theorem dX5_sieved_3 : decode cX5_sieved 3 = .ok (.isub, 1) := by decide +kernel
theorem dX5_sieved_4 : decode cX5_sieved 4 = .ok (.iconst 1, 1) := by decide +kernel
theorem dX5_sieved_5 : decode cX5_sieved 5 = .ok (.isub, 1) := by decide +kernel
theorem dX5_sieved_6 : decode cX5_sieved 6 = .ok (.imul, 1) := by decide +kernel
theorem dX5_sieved_7 : decode cX5_sieved 7 = .ok (.iload_n 0, 1) := by decide +kernel
theorem dX5_sieved_8 : decode cX5_sieved 8 = .ok (.iload_n 1, 1) := by decide +kernel
theorem dX5_sieved_9 : decode cX5_sieved 9 = .ok (.isub, 1) := by decide +kernel
theorem dX5_sieved_10 : decode cX5_sieved 10 = .ok (.iconst 1, 1) := by decide +kernel
theorem dX5_sieved_11 : decode cX5_sieved 11 = .ok (.isub, 1) := by decide +kernel
theorem dX5_sieved_12 : decode cX5_sieved 12 = .ok (.iload_n 3, 1) := by decide +kernel
theorem dX5_sieved_13 : decode cX5_sieved 13 = .ok (.imul, 1) := by decide +kernel
theorem dX5_sieved_14 : decode cX5_sieved 14 = .ok (.if_icmp .eq 5, 3) := by decide +kernel
theorem dX5_sieved_17 : decode cX5_sieved 17 = .ok (.iconst 1, 1) := by decide +kernel
theorem dX5_sieved_18 : decode cX5_sieved 18 = .ok (.ireturn, 1) := by decide +kernel
theorem dX5_sieved_19 : decode cX5_sieved 19 = .ok (.iload_n 2, 1) := by decide +kernel
theorem dX5_sieved_20 : decode cX5_sieved 20 = .ok (.iload_n 3, 1) := by decide +kernel
theorem dX5_sieved_21 : decode cX5_sieved 21 = .ok (.isub, 1) := by decide +kernel
theorem dX5_sieved_22 : decode cX5_sieved 22 = .ok (.iload_n 2, 1) := by decide +kernel
theorem dX5_sieved_23 : decode cX5_sieved 23 = .ok (.iload_n 3, 1) := by decide +kernel
theorem dX5_sieved_24 : decode cX5_sieved 24 = .ok (.isub, 1) := by decide +kernel
theorem dX5_sieved_25 : decode cX5_sieved 25 = .ok (.imul, 1) := by decide +kernel
theorem dX5_sieved_26 : decode cX5_sieved 26 = .ok (.iconst 4, 1) := by decide +kernel
theorem dX5_sieved_27 : decode cX5_sieved 27 = .ok (.iload_n 1, 1) := by decide +kernel
theorem dX5_sieved_28 : decode cX5_sieved 28 = .ok (.iload_n 3, 1) := by decide +kernel
theorem dX5_sieved_29 : decode cX5_sieved 29 = .ok (.isub, 1) := by decide +kernel
theorem dX5_sieved_30 : decode cX5_sieved 30 = .ok (.imul, 1) := by decide +kernel
theorem dX5_sieved_31 : decode cX5_sieved 31 = .ok (.iadd, 1) := by decide +kernel
theorem dX5_sieved_32 : decode cX5_sieved 32 = .ok (.istore 4, 2) := by decide +kernel
theorem dX5_sieved_34 : decode cX5_sieved 34 = .ok (.iconst 2, 1) := by decide +kernel
theorem dX5_sieved_35 : decode cX5_sieved 35 = .ok (.iload_n 1, 1) := by decide +kernel
theorem dX5_sieved_36 : decode cX5_sieved 36 = .ok (.imul, 1) := by decide +kernel
theorem dX5_sieved_37 : decode cX5_sieved 37 = .ok (.iload_n 0, 1) := by decide +kernel
theorem dX5_sieved_38 : decode cX5_sieved 38 = .ok (.iconst 1, 1) := by decide +kernel
theorem dX5_sieved_39 : decode cX5_sieved 39 = .ok (.isub, 1) := by decide +kernel
theorem dX5_sieved_40 : decode cX5_sieved 40 = .ok (.iload_n 2, 1) := by decide +kernel
theorem dX5_sieved_41 : decode cX5_sieved 41 = .ok (.iload_n 3, 1) := by decide +kernel
theorem dX5_sieved_42 : decode cX5_sieved 42 = .ok (.isub, 1) := by decide +kernel
theorem dX5_sieved_43 : decode cX5_sieved 43 = .ok (.imul, 1) := by decide +kernel
theorem dX5_sieved_44 : decode cX5_sieved 44 = .ok (.iadd, 1) := by decide +kernel
theorem dX5_sieved_45 : decode cX5_sieved 45 = .ok (.istore 5, 2) := by decide +kernel
theorem dX5_sieved_47 : decode cX5_sieved 47 = .ok (.iload 4, 2) := by decide +kernel
theorem dX5_sieved_49 : decode cX5_sieved 49 = .ok (.ifCond .ne 5, 3) := by decide +kernel
theorem dX5_sieved_52 : decode cX5_sieved 52 = .ok (.iconst 2, 1) := by decide +kernel
theorem dX5_sieved_53 : decode cX5_sieved 53 = .ok (.ireturn, 1) := by decide +kernel
theorem dX5_sieved_54 : decode cX5_sieved 54 = .ok (.iload 5, 2) := by decide +kernel
theorem dX5_sieved_56 : decode cX5_sieved 56 = .ok (.ifCond .ne 15, 3) := by decide +kernel
theorem dX5_sieved_59 : decode cX5_sieved 59 = .ok (.iload_n 0, 1) := by decide +kernel
theorem dX5_sieved_60 : decode cX5_sieved 60 = .ok (.iconst 2, 1) := by decide +kernel
theorem dX5_sieved_61 : decode cX5_sieved 61 = .ok (.irem, 1) := by decide +kernel
theorem dX5_sieved_62 : decode cX5_sieved 62 = .ok (.ifCond .ne 7, 3) := by decide +kernel
theorem dX5_sieved_65 : decode cX5_sieved 65 = .ok (.iconst 2, 1) := by decide +kernel
theorem dX5_sieved_66 : decode cX5_sieved 66 = .ok (.goto 4, 3) := by decide +kernel
theorem dX5_sieved_69 : decode cX5_sieved 69 = .ok (.iconst 0, 1) := by decide +kernel
theorem dX5_sieved_70 : decode cX5_sieved 70 = .ok (.ireturn, 1) := by decide +kernel
theorem dX5_sieved_71 : decode cX5_sieved 71 = .ok (.iload 4, 2) := by decide +kernel
theorem dX5_sieved_73 : decode cX5_sieved 73 = .ok (.invokestatic 117, 3) := by decide +kernel
theorem dX5_sieved_76 : decode cX5_sieved 76 = .ok (.istore 6, 2) := by decide +kernel
theorem dX5_sieved_78 : decode cX5_sieved 78 = .ok (.iload 6, 2) := by decide +kernel
theorem dX5_sieved_80 : decode cX5_sieved 80 = .ok (.iload 6, 2) := by decide +kernel
theorem dX5_sieved_82 : decode cX5_sieved 82 = .ok (.imul, 1) := by decide +kernel
theorem dX5_sieved_83 : decode cX5_sieved 83 = .ok (.iload 4, 2) := by decide +kernel
theorem dX5_sieved_85 : decode cX5_sieved 85 = .ok (.if_icmp .ne 25, 3) := by decide +kernel
theorem dX5_sieved_88 : decode cX5_sieved 88 = .ok (.iload 5, 2) := by decide +kernel
theorem dX5_sieved_90 : decode cX5_sieved 90 = .ok (.iload 6, 2) := by decide +kernel
theorem dX5_sieved_92 : decode cX5_sieved 92 = .ok (.irem, 1) := by decide +kernel
theorem dX5_sieved_93 : decode cX5_sieved 93 = .ok (.ifCond .ne 17, 3) := by decide +kernel
theorem dX5_sieved_96 : decode cX5_sieved 96 = .ok (.iload_n 0, 1) := by decide +kernel
theorem dX5_sieved_97 : decode cX5_sieved 97 = .ok (.iconst 1, 1) := by decide +kernel
theorem dX5_sieved_98 : decode cX5_sieved 98 = .ok (.isub, 1) := by decide +kernel
theorem dX5_sieved_99 : decode cX5_sieved 99 = .ok (.iload 5, 2) := by decide +kernel
theorem dX5_sieved_101 : decode cX5_sieved 101 = .ok (.iload 6, 2) := by decide +kernel
theorem dX5_sieved_103 : decode cX5_sieved 103 = .ok (.idiv, 1) := by decide +kernel
theorem dX5_sieved_104 : decode cX5_sieved 104 = .ok (.iadd, 1) := by decide +kernel
theorem dX5_sieved_105 : decode cX5_sieved 105 = .ok (.iconst 2, 1) := by decide +kernel
theorem dX5_sieved_106 : decode cX5_sieved 106 = .ok (.irem, 1) := by decide +kernel
theorem dX5_sieved_107 : decode cX5_sieved 107 = .ok (.ifCond .eq 5, 3) := by decide +kernel
theorem dX5_sieved_110 : decode cX5_sieved 110 = .ok (.iconst 2, 1) := by decide +kernel
theorem dX5_sieved_111 : decode cX5_sieved 111 = .ok (.ireturn, 1) := by decide +kernel
theorem dX5_sieved_112 : decode cX5_sieved 112 = .ok (.iload_n 2, 1) := by decide +kernel
theorem dX5_sieved_113 : decode cX5_sieved 113 = .ok (.iload_n 3, 1) := by decide +kernel
theorem dX5_sieved_114 : decode cX5_sieved 114 = .ok (.isub, 1) := by decide +kernel
theorem dX5_sieved_115 : decode cX5_sieved 115 = .ok (.iload 6, 2) := by decide +kernel
theorem dX5_sieved_117 : decode cX5_sieved 117 = .ok (.iadd, 1) := by decide +kernel
theorem dX5_sieved_118 : decode cX5_sieved 118 = .ok (.iconst 2, 1) := by decide +kernel
theorem dX5_sieved_119 : decode cX5_sieved 119 = .ok (.idiv, 1) := by decide +kernel
theorem dX5_sieved_120 : decode cX5_sieved 120 = .ok (.i2l, 1) := by decide +kernel
theorem dX5_sieved_121 : decode cX5_sieved 121 = .ok (.lstore 7, 2) := by decide +kernel
theorem dX5_sieved_123 : decode cX5_sieved 123 = .ok (.iload_n 2, 1) := by decide +kernel
theorem dX5_sieved_124 : decode cX5_sieved 124 = .ok (.iload_n 3, 1) := by decide +kernel
theorem dX5_sieved_125 : decode cX5_sieved 125 = .ok (.isub, 1) := by decide +kernel
theorem dX5_sieved_126 : decode cX5_sieved 126 = .ok (.iload 6, 2) := by decide +kernel
theorem dX5_sieved_128 : decode cX5_sieved 128 = .ok (.isub, 1) := by decide +kernel
theorem dX5_sieved_129 : decode cX5_sieved 129 = .ok (.iconst 2, 1) := by decide +kernel
theorem dX5_sieved_130 : decode cX5_sieved 130 = .ok (.idiv, 1) := by decide +kernel
theorem dX5_sieved_131 : decode cX5_sieved 131 = .ok (.i2l, 1) := by decide +kernel
theorem dX5_sieved_132 : decode cX5_sieved 132 = .ok (.lstore 9, 2) := by decide +kernel
theorem dX5_sieved_134 : decode cX5_sieved 134 = .ok (.lload 7, 2) := by decide +kernel
theorem dX5_sieved_136 : decode cX5_sieved 136 = .ok (.lconst 1, 1) := by decide +kernel
theorem dX5_sieved_137 : decode cX5_sieved 137 = .ok (.ladd, 1) := by decide +kernel
theorem dX5_sieved_138 : decode cX5_sieved 138 = .ok (.iload_n 1, 1) := by decide +kernel
theorem dX5_sieved_139 : decode cX5_sieved 139 = .ok (.i2l, 1) := by decide +kernel
theorem dX5_sieved_140 : decode cX5_sieved 140 = .ok (.lload 7, 2) := by decide +kernel
theorem dX5_sieved_142 : decode cX5_sieved 142 = .ok (.ladd, 1) := by decide +kernel
theorem dX5_sieved_143 : decode cX5_sieved 143 = .ok (.ldc2_w 120, 3) := by decide +kernel
theorem dX5_sieved_146 : decode cX5_sieved 146 = .ok (.lload 7, 2) := by decide +kernel
theorem dX5_sieved_148 : decode cX5_sieved 148 = .ok (.lmul, 1) := by decide +kernel
theorem dX5_sieved_149 : decode cX5_sieved 149 = .ok (.lload 9, 2) := by decide +kernel
theorem dX5_sieved_151 : decode cX5_sieved 151 = .ok (.lmul, 1) := by decide +kernel
theorem dX5_sieved_152 : decode cX5_sieved 152 = .ok (.ladd, 1) := by decide +kernel
theorem dX5_sieved_153 : decode cX5_sieved 153 = .ok (.lmul, 1) := by decide +kernel
theorem dX5_sieved_154 : decode cX5_sieved 154 = .ok (.iload_n 1, 1) := by decide +kernel
theorem dX5_sieved_155 : decode cX5_sieved 155 = .ok (.i2l, 1) := by decide +kernel
theorem dX5_sieved_156 : decode cX5_sieved 156 = .ok (.lload 7, 2) := by decide +kernel
theorem dX5_sieved_158 : decode cX5_sieved 158 = .ok (.ladd, 1) := by decide +kernel
theorem dX5_sieved_159 : decode cX5_sieved 159 = .ok (.lload 9, 2) := by decide +kernel
theorem dX5_sieved_161 : decode cX5_sieved 161 = .ok (.lconst 1, 1) := by decide +kernel
theorem dX5_sieved_162 : decode cX5_sieved 162 = .ok (.ladd, 1) := by decide +kernel
theorem dX5_sieved_163 : decode cX5_sieved 163 = .ok (.lmul, 1) := by decide +kernel
theorem dX5_sieved_164 : decode cX5_sieved 164 = .ok (.lload 9, 2) := by decide +kernel
theorem dX5_sieved_166 : decode cX5_sieved 166 = .ok (.lconst 1, 1) := by decide +kernel
theorem dX5_sieved_167 : decode cX5_sieved 167 = .ok (.ladd, 1) := by decide +kernel
theorem dX5_sieved_168 : decode cX5_sieved 168 = .ok (.lmul, 1) := by decide +kernel
theorem dX5_sieved_169 : decode cX5_sieved 169 = .ok (.lcmp, 1) := by decide +kernel
theorem dX5_sieved_170 : decode cX5_sieved 170 = .ok (.ifCond .gt 42, 3) := by decide +kernel
theorem dX5_sieved_173 : decode cX5_sieved 173 = .ok (.lload 9, 2) := by decide +kernel
theorem dX5_sieved_175 : decode cX5_sieved 175 = .ok (.lconst 1, 1) := by decide +kernel
theorem dX5_sieved_176 : decode cX5_sieved 176 = .ok (.ladd, 1) := by decide +kernel
theorem dX5_sieved_177 : decode cX5_sieved 177 = .ok (.iload_n 1, 1) := by decide +kernel
theorem dX5_sieved_178 : decode cX5_sieved 178 = .ok (.i2l, 1) := by decide +kernel
theorem dX5_sieved_179 : decode cX5_sieved 179 = .ok (.lload 9, 2) := by decide +kernel
theorem dX5_sieved_181 : decode cX5_sieved 181 = .ok (.ladd, 1) := by decide +kernel
theorem dX5_sieved_182 : decode cX5_sieved 182 = .ok (.ldc2_w 120, 3) := by decide +kernel
theorem dX5_sieved_185 : decode cX5_sieved 185 = .ok (.lload 7, 2) := by decide +kernel
theorem dX5_sieved_187 : decode cX5_sieved 187 = .ok (.lmul, 1) := by decide +kernel
theorem dX5_sieved_188 : decode cX5_sieved 188 = .ok (.lload 9, 2) := by decide +kernel
theorem dX5_sieved_190 : decode cX5_sieved 190 = .ok (.lmul, 1) := by decide +kernel
theorem dX5_sieved_191 : decode cX5_sieved 191 = .ok (.ladd, 1) := by decide +kernel
theorem dX5_sieved_192 : decode cX5_sieved 192 = .ok (.lmul, 1) := by decide +kernel
theorem dX5_sieved_193 : decode cX5_sieved 193 = .ok (.iload_n 1, 1) := by decide +kernel
theorem dX5_sieved_194 : decode cX5_sieved 194 = .ok (.i2l, 1) := by decide +kernel
theorem dX5_sieved_195 : decode cX5_sieved 195 = .ok (.lload 9, 2) := by decide +kernel
theorem dX5_sieved_197 : decode cX5_sieved 197 = .ok (.ladd, 1) := by decide +kernel
theorem dX5_sieved_198 : decode cX5_sieved 198 = .ok (.lload 7, 2) := by decide +kernel
theorem dX5_sieved_200 : decode cX5_sieved 200 = .ok (.lconst 1, 1) := by decide +kernel
theorem dX5_sieved_201 : decode cX5_sieved 201 = .ok (.ladd, 1) := by decide +kernel
theorem dX5_sieved_202 : decode cX5_sieved 202 = .ok (.lmul, 1) := by decide +kernel
theorem dX5_sieved_203 : decode cX5_sieved 203 = .ok (.lload 7, 2) := by decide +kernel
theorem dX5_sieved_205 : decode cX5_sieved 205 = .ok (.lconst 1, 1) := by decide +kernel
theorem dX5_sieved_206 : decode cX5_sieved 206 = .ok (.ladd, 1) := by decide +kernel
theorem dX5_sieved_207 : decode cX5_sieved 207 = .ok (.lmul, 1) := by decide +kernel
theorem dX5_sieved_208 : decode cX5_sieved 208 = .ok (.lcmp, 1) := by decide +kernel
theorem dX5_sieved_209 : decode cX5_sieved 209 = .ok (.ifCond .le 5, 3) := by decide +kernel
theorem dX5_sieved_212 : decode cX5_sieved 212 = .ok (.iconst 3, 1) := by decide +kernel
theorem dX5_sieved_213 : decode cX5_sieved 213 = .ok (.ireturn, 1) := by decide +kernel
theorem dX5_sieved_214 : decode cX5_sieved 214 = .ok (.iload_n 0, 1) := by decide +kernel
theorem dX5_sieved_215 : decode cX5_sieved 215 = .ok (.iconst 1, 1) := by decide +kernel
theorem dX5_sieved_216 : decode cX5_sieved 216 = .ok (.isub, 1) := by decide +kernel
theorem dX5_sieved_217 : decode cX5_sieved 217 = .ok (.iload 5, 2) := by decide +kernel
theorem dX5_sieved_219 : decode cX5_sieved 219 = .ok (.iload 6, 2) := by decide +kernel
theorem dX5_sieved_221 : decode cX5_sieved 221 = .ok (.idiv, 1) := by decide +kernel
theorem dX5_sieved_222 : decode cX5_sieved 222 = .ok (.isub, 1) := by decide +kernel
theorem dX5_sieved_223 : decode cX5_sieved 223 = .ok (.iconst 2, 1) := by decide +kernel
theorem dX5_sieved_224 : decode cX5_sieved 224 = .ok (.idiv, 1) := by decide +kernel
theorem dX5_sieved_225 : decode cX5_sieved 225 = .ok (.istore 11, 2) := by decide +kernel
theorem dX5_sieved_227 : decode cX5_sieved 227 = .ok (.iload_n 0, 1) := by decide +kernel
theorem dX5_sieved_228 : decode cX5_sieved 228 = .ok (.iconst 1, 1) := by decide +kernel
theorem dX5_sieved_229 : decode cX5_sieved 229 = .ok (.isub, 1) := by decide +kernel
theorem dX5_sieved_230 : decode cX5_sieved 230 = .ok (.iload 5, 2) := by decide +kernel
theorem dX5_sieved_232 : decode cX5_sieved 232 = .ok (.iload 6, 2) := by decide +kernel
theorem dX5_sieved_234 : decode cX5_sieved 234 = .ok (.idiv, 1) := by decide +kernel
theorem dX5_sieved_235 : decode cX5_sieved 235 = .ok (.iadd, 1) := by decide +kernel
theorem dX5_sieved_236 : decode cX5_sieved 236 = .ok (.iconst 2, 1) := by decide +kernel
theorem dX5_sieved_237 : decode cX5_sieved 237 = .ok (.idiv, 1) := by decide +kernel
theorem dX5_sieved_238 : decode cX5_sieved 238 = .ok (.istore 12, 2) := by decide +kernel
theorem dX5_sieved_240 : decode cX5_sieved 240 = .ok (.iload_n 3, 1) := by decide +kernel
theorem dX5_sieved_241 : decode cX5_sieved 241 = .ok (.ifCond .le 38, 3) := by decide +kernel
theorem dX5_sieved_244 : decode cX5_sieved 244 = .ok (.iload_n 3, 1) := by decide +kernel
theorem dX5_sieved_245 : decode cX5_sieved 245 = .ok (.iload_n 1, 1) := by decide +kernel
theorem dX5_sieved_246 : decode cX5_sieved 246 = .ok (.if_icmp .ge 33, 3) := by decide +kernel
theorem dX5_sieved_249 : decode cX5_sieved 249 = .ok (.iconst 2, 1) := by decide +kernel
theorem dX5_sieved_250 : decode cX5_sieved 250 = .ok (.iload_n 0, 1) := by decide +kernel
theorem dX5_sieved_251 : decode cX5_sieved 251 = .ok (.imul, 1) := by decide +kernel
theorem dX5_sieved_252 : decode cX5_sieved 252 = .ok (.iload 11, 2) := by decide +kernel
theorem dX5_sieved_254 : decode cX5_sieved 254 = .ok (.iload 11, 2) := by decide +kernel
theorem dX5_sieved_256 : decode cX5_sieved 256 = .ok (.iconst 3, 1) := by decide +kernel
theorem dX5_sieved_257 : decode cX5_sieved 257 = .ok (.iadd, 1) := by decide +kernel
theorem dX5_sieved_258 : decode cX5_sieved 258 = .ok (.imul, 1) := by decide +kernel
theorem dX5_sieved_259 : decode cX5_sieved 259 = .ok (.if_icmp .gt 16, 3) := by decide +kernel
theorem dX5_sieved_262 : decode cX5_sieved 262 = .ok (.iconst 2, 1) := by decide +kernel
theorem dX5_sieved_263 : decode cX5_sieved 263 = .ok (.iload_n 0, 1) := by decide +kernel
theorem dX5_sieved_264 : decode cX5_sieved 264 = .ok (.imul, 1) := by decide +kernel
theorem dX5_sieved_265 : decode cX5_sieved 265 = .ok (.iload 12, 2) := by decide +kernel
theorem dX5_sieved_267 : decode cX5_sieved 267 = .ok (.iload 12, 2) := by decide +kernel
theorem dX5_sieved_269 : decode cX5_sieved 269 = .ok (.iconst 3, 1) := by decide +kernel
theorem dX5_sieved_270 : decode cX5_sieved 270 = .ok (.iadd, 1) := by decide +kernel
theorem dX5_sieved_271 : decode cX5_sieved 271 = .ok (.imul, 1) := by decide +kernel
theorem dX5_sieved_272 : decode cX5_sieved 272 = .ok (.if_icmp .le 7, 3) := by decide +kernel
theorem dX5_sieved_275 : decode cX5_sieved 275 = .ok (.iconst 4, 1) := by decide +kernel
theorem dX5_sieved_276 : decode cX5_sieved 276 = .ok (.goto 4, 3) := by decide +kernel
theorem dX5_sieved_279 : decode cX5_sieved 279 = .ok (.iconst 0, 1) := by decide +kernel
theorem dX5_sieved_280 : decode cX5_sieved 280 = .ok (.ireturn, 1) := by decide +kernel
theorem dX5_sieve_0 : decode cX5_sieve 0 = .ok (.aload_n 0, 1) := by decide +kernel
theorem dX5_sieve_1 : decode cX5_sieve 1 = .ok (.iconst 0, 1) := by decide +kernel
theorem dX5_sieve_2 : decode cX5_sieve 2 = .ok (.putfield 42, 3) := by decide +kernel
theorem dX5_sieve_5 : decode cX5_sieve 5 = .ok (.iload_n 1, 1) := by decide +kernel
theorem dX5_sieve_6 : decode cX5_sieve 6 = .ok (.iconst 2, 1) := by decide +kernel
theorem dX5_sieve_7 : decode cX5_sieve 7 = .ok (.sipush 200, 3) := by decide +kernel
theorem dX5_sieve_10 : decode cX5_sieve 10 = .ok (.invokestatic 45, 3) := by decide +kernel
theorem dX5_sieve_13 : decode cX5_sieve 13 = .ok (.ifCond .eq 46, 3) := by decide +kernel
theorem dX5_sieve_16 : decode cX5_sieve 16 = .ok (.iload_n 2, 1) := by decide +kernel
theorem dX5_sieve_17 : decode cX5_sieve 17 = .ok (.iconst 1, 1) := by decide +kernel
theorem dX5_sieve_18 : decode cX5_sieve 18 = .ok (.iload_n 1, 1) := by decide +kernel
theorem dX5_sieve_19 : decode cX5_sieve 19 = .ok (.iconst 2, 1) := by decide +kernel
theorem dX5_sieve_20 : decode cX5_sieve 20 = .ok (.isub, 1) := by decide +kernel
theorem dX5_sieve_21 : decode cX5_sieve 21 = .ok (.invokestatic 45, 3) := by decide +kernel
theorem dX5_sieve_24 : decode cX5_sieve 24 = .ok (.ifCond .eq 35, 3) := by decide +kernel
theorem dX5_sieve_27 : decode cX5_sieve 27 = .ok (.iload_n 3, 1) := by decide +kernel
theorem dX5_sieve_28 : decode cX5_sieve 28 = .ok (.iconst 0, 1) := by decide +kernel
theorem dX5_sieve_29 : decode cX5_sieve 29 = .ok (.iload_n 2, 1) := by decide +kernel
theorem dX5_sieve_30 : decode cX5_sieve 30 = .ok (.iconst 1, 1) := by decide +kernel
theorem dX5_sieve_31 : decode cX5_sieve 31 = .ok (.isub, 1) := by decide +kernel
theorem dX5_sieve_32 : decode cX5_sieve 32 = .ok (.invokestatic 45, 3) := by decide +kernel
theorem dX5_sieve_35 : decode cX5_sieve 35 = .ok (.ifCond .eq 24, 3) := by decide +kernel
theorem dX5_sieve_38 : decode cX5_sieve 38 = .ok (.iload 4, 2) := by decide +kernel
theorem dX5_sieve_40 : decode cX5_sieve 40 = .ok (.iconst 0, 1) := by decide +kernel
theorem dX5_sieve_41 : decode cX5_sieve 41 = .ok (.iload_n 2, 1) := by decide +kernel
theorem dX5_sieve_42 : decode cX5_sieve 42 = .ok (.invokestatic 45, 3) := by decide +kernel
theorem dX5_sieve_45 : decode cX5_sieve 45 = .ok (.ifCond .eq 14, 3) := by decide +kernel
theorem dX5_sieve_48 : decode cX5_sieve 48 = .ok (.iload_n 1, 1) := by decide +kernel
theorem dX5_sieve_49 : decode cX5_sieve 49 = .ok (.iload_n 2, 1) := by decide +kernel
theorem dX5_sieve_50 : decode cX5_sieve 50 = .ok (.iload_n 3, 1) := by decide +kernel
theorem dX5_sieve_51 : decode cX5_sieve 51 = .ok (.iload 4, 2) := by decide +kernel
theorem dX5_sieve_53 : decode cX5_sieve 53 = .ok (.invokestatic 122, 3) := by decide +kernel
theorem dX5_sieve_56 : decode cX5_sieve 56 = .ok (.goto 4, 3) := by decide +kernel
theorem dX5_sieve_59 : decode cX5_sieve 59 = .ok (.iconst (-1), 1) := by decide +kernel
theorem dX5_sieve_60 : decode cX5_sieve 60 = .ok (.ireturn, 1) := by decide +kernel
theorem dX5_many_0 : decode cX5_many 0 = .ok (.aload_n 0, 1) := by decide +kernel
theorem dX5_many_1 : decode cX5_many 1 = .ok (.iconst 0, 1) := by decide +kernel
theorem dX5_many_2 : decode cX5_many 2 = .ok (.putfield 42, 3) := by decide +kernel
theorem dX5_many_5 : decode cX5_many 5 = .ok (.iload_n 1, 1) := by decide +kernel
theorem dX5_many_6 : decode cX5_many 6 = .ok (.iconst 2, 1) := by decide +kernel
theorem dX5_many_7 : decode cX5_many 7 = .ok (.bipush 40, 2) := by decide +kernel
theorem dX5_many_9 : decode cX5_many 9 = .ok (.invokestatic 45, 3) := by decide +kernel
theorem dX5_many_12 : decode cX5_many 12 = .ok (.ifCond .ne 5, 3) := by decide +kernel
theorem dX5_many_15 : decode cX5_many 15 = .ok (.iconst (-1), 1) := by decide +kernel
theorem dX5_many_16 : decode cX5_many 16 = .ok (.ireturn, 1) := by decide +kernel
theorem dX5_many_17 : decode cX5_many 17 = .ok (.iconst 0, 1) := by decide +kernel
theorem dX5_many_18 : decode cX5_many 18 = .ok (.istore_n 2, 1) := by decide +kernel
theorem dX5_many_19 : decode cX5_many 19 = .ok (.iconst 1, 1) := by decide +kernel
theorem dX5_many_20 : decode cX5_many 20 = .ok (.istore_n 3, 1) := by decide +kernel
theorem dX5_many_21 : decode cX5_many 21 = .ok (.iconst 2, 1) := by decide +kernel
theorem dX5_many_22 : decode cX5_many 22 = .ok (.iload_n 3, 1) := by decide +kernel
theorem dX5_many_23 : decode cX5_many 23 = .ok (.imul, 1) := by decide +kernel
theorem dX5_many_24 : decode cX5_many 24 = .ok (.iload_n 1, 1) := by decide +kernel
theorem dX5_many_25 : decode cX5_many 25 = .ok (.iconst 1, 1) := by decide +kernel
theorem dX5_many_26 : decode cX5_many 26 = .ok (.isub, 1) := by decide +kernel
theorem dX5_many_27 : decode cX5_many 27 = .ok (.if_icmp .gt 66, 3) := by decide +kernel
theorem dX5_many_30 : decode cX5_many 30 = .ok (.iload_n 3, 1) := by decide +kernel
theorem dX5_many_31 : decode cX5_many 31 = .ok (.iload_n 1, 1) := by decide +kernel
theorem dX5_many_32 : decode cX5_many 32 = .ok (.iconst 2, 1) := by decide +kernel
theorem dX5_many_33 : decode cX5_many 33 = .ok (.isub, 1) := by decide +kernel
theorem dX5_many_34 : decode cX5_many 34 = .ok (.if_icmp .gt 59, 3) := by decide +kernel
theorem dX5_many_37 : decode cX5_many 37 = .ok (.iconst 0, 1) := by decide +kernel
theorem dX5_many_38 : decode cX5_many 38 = .ok (.istore 4, 2) := by decide +kernel
theorem dX5_many_40 : decode cX5_many 40 = .ok (.iload 4, 2) := by decide +kernel
theorem dX5_many_42 : decode cX5_many 42 = .ok (.iload_n 3, 1) := by decide +kernel
theorem dX5_many_43 : decode cX5_many 43 = .ok (.if_icmp .ge 44, 3) := by decide +kernel
theorem dX5_many_46 : decode cX5_many 46 = .ok (.iconst 0, 1) := by decide +kernel
theorem dX5_many_47 : decode cX5_many 47 = .ok (.istore 5, 2) := by decide +kernel
theorem dX5_many_49 : decode cX5_many 49 = .ok (.iload 5, 2) := by decide +kernel
theorem dX5_many_51 : decode cX5_many 51 = .ok (.iload_n 3, 1) := by decide +kernel
theorem dX5_many_52 : decode cX5_many 52 = .ok (.if_icmp .gt 29, 3) := by decide +kernel
theorem dX5_many_55 : decode cX5_many 55 = .ok (.iload_n 2, 1) := by decide +kernel
theorem dX5_many_56 : decode cX5_many 56 = .ok (.iload_n 1, 1) := by decide +kernel
theorem dX5_many_57 : decode cX5_many 57 = .ok (.iload_n 3, 1) := by decide +kernel
theorem dX5_many_58 : decode cX5_many 58 = .ok (.iload 4, 2) := by decide +kernel
theorem dX5_many_60 : decode cX5_many 60 = .ok (.iload 5, 2) := by decide +kernel
theorem dX5_many_62 : decode cX5_many 62 = .ok (.invokestatic 122, 3) := by decide +kernel
theorem dX5_many_65 : decode cX5_many 65 = .ok (.ifCond .ne 7, 3) := by decide +kernel
theorem dX5_many_68 : decode cX5_many 68 = .ok (.iconst 1, 1) := by decide +kernel
theorem dX5_many_69 : decode cX5_many 69 = .ok (.goto 4, 3) := by decide +kernel
theorem dX5_many_72 : decode cX5_many 72 = .ok (.iconst 0, 1) := by decide +kernel
theorem dX5_many_73 : decode cX5_many 73 = .ok (.iadd, 1) := by decide +kernel
theorem dX5_many_74 : decode cX5_many 74 = .ok (.istore_n 2, 1) := by decide +kernel
theorem dX5_many_75 : decode cX5_many 75 = .ok (.iinc 5 1, 3) := by decide +kernel
theorem dX5_many_78 : decode cX5_many 78 = .ok (.goto (-29), 3) := by decide +kernel
theorem dX5_many_81 : decode cX5_many 81 = .ok (.iinc 4 1, 3) := by decide +kernel
theorem dX5_many_84 : decode cX5_many 84 = .ok (.goto (-44), 3) := by decide +kernel
theorem dX5_many_87 : decode cX5_many 87 = .ok (.iinc 3 1, 3) := by decide +kernel
theorem dX5_many_90 : decode cX5_many 90 = .ok (.goto (-69), 3) := by decide +kernel
theorem dX5_many_93 : decode cX5_many 93 = .ok (.iload_n 2, 1) := by decide +kernel
theorem dX5_many_94 : decode cX5_many 94 = .ok (.ireturn, 1) := by decide +kernel
theorem dX5_count_0 : decode cX5_count 0 = .ok (.aload_n 0, 1) := by decide +kernel
theorem dX5_count_1 : decode cX5_count 1 = .ok (.iconst 0, 1) := by decide +kernel
theorem dX5_count_2 : decode cX5_count 2 = .ok (.putfield 42, 3) := by decide +kernel
theorem dX5_count_5 : decode cX5_count 5 = .ok (.iload_n 1, 1) := by decide +kernel
theorem dX5_count_6 : decode cX5_count 6 = .ok (.tableswitch 58 0 3 #[30, 35, 40, 53], 30) := by decide +kernel
theorem dX5_count_36 : decode cX5_count 36 = .ok (.aload_n 0, 1) := by decide +kernel
theorem dX5_count_37 : decode cX5_count 37 = .ok (.getfield 7, 3) := by decide +kernel
theorem dX5_count_40 : decode cX5_count 40 = .ok (.ireturn, 1) := by decide +kernel
theorem dX5_count_41 : decode cX5_count 41 = .ok (.aload_n 0, 1) := by decide +kernel
theorem dX5_count_42 : decode cX5_count 42 = .ok (.invokevirtual 61, 3) := by decide +kernel
theorem dX5_count_45 : decode cX5_count 45 = .ok (.ireturn, 1) := by decide +kernel
theorem dX5_count_46 : decode cX5_count 46 = .ok (.aload_n 0, 1) := by decide +kernel
theorem dX5_count_47 : decode cX5_count 47 = .ok (.invokevirtual 75, 3) := by decide +kernel
theorem dX5_count_50 : decode cX5_count 50 = .ok (.ifCond .eq 7, 3) := by decide +kernel
theorem dX5_count_53 : decode cX5_count 53 = .ok (.iconst 1, 1) := by decide +kernel
theorem dX5_count_54 : decode cX5_count 54 = .ok (.goto 4, 3) := by decide +kernel
theorem dX5_count_57 : decode cX5_count 57 = .ok (.iconst 0, 1) := by decide +kernel
theorem dX5_count_58 : decode cX5_count 58 = .ok (.ireturn, 1) := by decide +kernel
theorem dX5_count_59 : decode cX5_count 59 = .ok (.aload_n 0, 1) := by decide +kernel
theorem dX5_count_60 : decode cX5_count 60 = .ok (.invokevirtual 108, 3) := by decide +kernel
theorem dX5_count_63 : decode cX5_count 63 = .ok (.ireturn, 1) := by decide +kernel
theorem dX5_count_64 : decode cX5_count 64 = .ok (.iconst (-1), 1) := by decide +kernel
theorem dX5_count_65 : decode cX5_count 65 = .ok (.ireturn, 1) := by decide +kernel
theorem dX5_trace_0 : decode cX5_trace 0 = .ok (.aload_n 0, 1) := by decide +kernel
theorem dX5_trace_1 : decode cX5_trace 1 = .ok (.iconst 0, 1) := by decide +kernel
theorem dX5_trace_2 : decode cX5_trace 2 = .ok (.putfield 42, 3) := by decide +kernel
theorem dX5_trace_5 : decode cX5_trace 5 = .ok (.aload_n 0, 1) := by decide +kernel
theorem dX5_trace_6 : decode cX5_trace 6 = .ok (.getfield 98, 3) := by decide +kernel
theorem dX5_trace_9 : decode cX5_trace 9 = .ok (.lreturn, 1) := by decide +kernel
