-- decode rows (by program)
theorem dX2_firstFailure_0 : decode cX2_firstFailure 0 = .ok (.iload_n 1, 1) := by decide +kernel
theorem dX2_firstFailure_1 : decode cX2_firstFailure 1 = .ok (.iload_n 1, 1) := by decide +kernel
theorem dX2_firstFailure_2 : decode cX2_firstFailure 2 = .ok (.iload_n 2, 1) := by decide +kernel
theorem dX2_firstFailure_3 : decode cX2_firstFailure 3 = .ok (.isub, 1) := by decide +kernel
theorem dX2_firstFailure_4 : decode cX2_firstFailure 4 = .ok (.iconst 1, 1) := by decide +kernel
theorem dX2_firstFailure_5 : decode cX2_firstFailure 5 = .ok (.isub, 1) := by decide +kernel
theorem dX2_firstFailure_6 : decode cX2_firstFailure 6 = .ok (.imul, 1) := by decide +kernel
theorem dX2_firstFailure_7 : decode cX2_firstFailure 7 = .ok (.iload_n 0, 1) := by decide +kernel
theorem dX2_firstFailure_8 : decode cX2_firstFailure 8 = .ok (.iload_n 1, 1) := by decide +kernel
theorem dX2_firstFailure_9 : decode cX2_firstFailure 9 = .ok (.isub, 1) := by decide +kernel
theorem dX2_firstFailure_10 : decode cX2_firstFailure 10 = .ok (.iconst 1, 1) := by decide +kernel
theorem dX2_firstFailure_11 : decode cX2_firstFailure 11 = .ok (.isub, 1) := by decide +kernel
theorem dX2_firstFailure_12 : decode cX2_firstFailure 12 = .ok (.iload_n 3, 1) := by decide +kernel
theorem dX2_firstFailure_13 : decode cX2_firstFailure 13 = .ok (.imul, 1) := by decide +kernel
theorem dX2_firstFailure_14 : decode cX2_firstFailure 14 = .ok (.if_icmp .eq 5, 3) := by decide +kernel
theorem dX2_firstFailure_17 : decode cX2_firstFailure 17 = .ok (.iconst 1, 1) := by decide +kernel
theorem dX2_firstFailure_18 : decode cX2_firstFailure 18 = .ok (.ireturn, 1) := by decide +kernel
theorem dX2_firstFailure_19 : decode cX2_firstFailure 19 = .ok (.iload_n 2, 1) := by decide +kernel
theorem dX2_firstFailure_20 : decode cX2_firstFailure 20 = .ok (.iload_n 3, 1) := by decide +kernel
theorem dX2_firstFailure_21 : decode cX2_firstFailure 21 = .ok (.isub, 1) := by decide +kernel
theorem dX2_firstFailure_22 : decode cX2_firstFailure 22 = .ok (.iload_n 2, 1) := by decide +kernel
theorem dX2_firstFailure_23 : decode cX2_firstFailure 23 = .ok (.iload_n 3, 1) := by decide +kernel
theorem dX2_firstFailure_24 : decode cX2_firstFailure 24 = .ok (.isub, 1) := by decide +kernel
theorem dX2_firstFailure_25 : decode cX2_firstFailure 25 = .ok (.imul, 1) := by decide +kernel
theorem dX2_firstFailure_26 : decode cX2_firstFailure 26 = .ok (.iconst 4, 1) := by decide +kernel
theorem dX2_firstFailure_27 : decode cX2_firstFailure 27 = .ok (.iload_n 1, 1) := by decide +kernel
theorem dX2_firstFailure_28 : decode cX2_firstFailure 28 = .ok (.iload_n 3, 1) := by decide +kernel
theorem dX2_firstFailure_29 : decode cX2_firstFailure 29 = .ok (.isub, 1) := by decide +kernel
theorem dX2_firstFailure_30 : decode cX2_firstFailure 30 = .ok (.imul, 1) := by decide +kernel
theorem dX2_firstFailure_31 : decode cX2_firstFailure 31 = .ok (.iadd, 1) := by decide +kernel
theorem dX2_firstFailure_32 : decode cX2_firstFailure 32 = .ok (.istore 4, 2) := by decide +kernel
theorem dX2_firstFailure_34 : decode cX2_firstFailure 34 = .ok (.iconst 2, 1) := by decide +kernel
theorem dX2_firstFailure_35 : decode cX2_firstFailure 35 = .ok (.iload_n 1, 1) := by decide +kernel
theorem dX2_firstFailure_36 : decode cX2_firstFailure 36 = .ok (.imul, 1) := by decide +kernel
theorem dX2_firstFailure_37 : decode cX2_firstFailure 37 = .ok (.iload_n 0, 1) := by decide +kernel
theorem dX2_firstFailure_38 : decode cX2_firstFailure 38 = .ok (.iconst 1, 1) := by decide +kernel
theorem dX2_firstFailure_39 : decode cX2_firstFailure 39 = .ok (.isub, 1) := by decide +kernel
theorem dX2_firstFailure_40 : decode cX2_firstFailure 40 = .ok (.iload_n 2, 1) := by decide +kernel
theorem dX2_firstFailure_41 : decode cX2_firstFailure 41 = .ok (.iload_n 3, 1) := by decide +kernel
theorem dX2_firstFailure_42 : decode cX2_firstFailure 42 = .ok (.isub, 1) := by decide +kernel
theorem dX2_firstFailure_43 : decode cX2_firstFailure 43 = .ok (.imul, 1) := by decide +kernel
theorem dX2_firstFailure_44 : decode cX2_firstFailure 44 = .ok (.iadd, 1) := by decide +kernel
theorem dX2_firstFailure_45 : decode cX2_firstFailure 45 = .ok (.istore 5, 2) := by decide +kernel
theorem dX2_firstFailure_47 : decode cX2_firstFailure 47 = .ok (.iload 4, 2) := by decide +kernel
theorem dX2_firstFailure_49 : decode cX2_firstFailure 49 = .ok (.ifCond .gt 5, 3) := by decide +kernel
theorem dX2_firstFailure_52 : decode cX2_firstFailure 52 = .ok (.iconst 2, 1) := by decide +kernel
theorem dX2_firstFailure_53 : decode cX2_firstFailure 53 = .ok (.ireturn, 1) := by decide +kernel
theorem dX2_firstFailure_54 : decode cX2_firstFailure 54 = .ok (.iload 5, 2) := by decide +kernel
theorem dX2_firstFailure_56 : decode cX2_firstFailure 56 = .ok (.ifCond .ne 15, 3) := by decide +kernel
theorem dX2_firstFailure_59 : decode cX2_firstFailure 59 = .ok (.iload_n 0, 1) := by decide +kernel
theorem dX2_firstFailure_60 : decode cX2_firstFailure 60 = .ok (.iconst 2, 1) := by decide +kernel
theorem dX2_firstFailure_61 : decode cX2_firstFailure 61 = .ok (.irem, 1) := by decide +kernel
theorem dX2_firstFailure_62 : decode cX2_firstFailure 62 = .ok (.ifCond .ne 7, 3) := by decide +kernel
theorem dX2_firstFailure_65 : decode cX2_firstFailure 65 = .ok (.iconst 2, 1) := by decide +kernel
theorem dX2_firstFailure_66 : decode cX2_firstFailure 66 = .ok (.goto 4, 3) := by decide +kernel
theorem dX2_firstFailure_69 : decode cX2_firstFailure 69 = .ok (.iconst 0, 1) := by decide +kernel
theorem dX2_firstFailure_70 : decode cX2_firstFailure 70 = .ok (.ireturn, 1) := by decide +kernel
theorem dX2_firstFailure_71 : decode cX2_firstFailure 71 = .ok (.iload 4, 2) := by decide +kernel
theorem dX2_firstFailure_73 : decode cX2_firstFailure 73 = .ok (.invokestatic 9, 3) := by decide +kernel
theorem dX2_firstFailure_76 : decode cX2_firstFailure 76 = .ok (.istore 6, 2) := by decide +kernel
theorem dX2_firstFailure_78 : decode cX2_firstFailure 78 = .ok (.iload 6, 2) := by decide +kernel
theorem dX2_firstFailure_80 : decode cX2_firstFailure 80 = .ok (.ifCond .le 25, 3) := by decide +kernel
theorem dX2_firstFailure_83 : decode cX2_firstFailure 83 = .ok (.iload 5, 2) := by decide +kernel
theorem dX2_firstFailure_85 : decode cX2_firstFailure 85 = .ok (.iload 6, 2) := by decide +kernel
theorem dX2_firstFailure_87 : decode cX2_firstFailure 87 = .ok (.irem, 1) := by decide +kernel
theorem dX2_firstFailure_88 : decode cX2_firstFailure 88 = .ok (.ifCond .ne 17, 3) := by decide +kernel
theorem dX2_firstFailure_91 : decode cX2_firstFailure 91 = .ok (.iload_n 0, 1) := by decide +kernel
theorem dX2_firstFailure_92 : decode cX2_firstFailure 92 = .ok (.iconst 1, 1) := by decide +kernel
theorem dX2_firstFailure_93 : decode cX2_firstFailure 93 = .ok (.isub, 1) := by decide +kernel
theorem dX2_firstFailure_94 : decode cX2_firstFailure 94 = .ok (.iload 5, 2) := by decide +kernel
theorem dX2_firstFailure_96 : decode cX2_firstFailure 96 = .ok (.iload 6, 2) := by decide +kernel
theorem dX2_firstFailure_98 : decode cX2_firstFailure 98 = .ok (.idiv, 1) := by decide +kernel
theorem dX2_firstFailure_99 : decode cX2_firstFailure 99 = .ok (.iadd, 1) := by decide +kernel
theorem dX2_firstFailure_100 : decode cX2_firstFailure 100 = .ok (.iconst 2, 1) := by decide +kernel
theorem dX2_firstFailure_101 : decode cX2_firstFailure 101 = .ok (.irem, 1) := by decide +kernel
theorem dX2_firstFailure_102 : decode cX2_firstFailure 102 = .ok (.ifCond .eq 5, 3) := by decide +kernel
theorem dX2_firstFailure_105 : decode cX2_firstFailure 105 = .ok (.iconst 2, 1) := by decide +kernel
theorem dX2_firstFailure_106 : decode cX2_firstFailure 106 = .ok (.ireturn, 1) := by decide +kernel
theorem dX2_firstFailure_107 : decode cX2_firstFailure 107 = .ok (.iload_n 2, 1) := by decide +kernel
theorem dX2_firstFailure_108 : decode cX2_firstFailure 108 = .ok (.iload_n 3, 1) := by decide +kernel
theorem dX2_firstFailure_109 : decode cX2_firstFailure 109 = .ok (.isub, 1) := by decide +kernel
theorem dX2_firstFailure_110 : decode cX2_firstFailure 110 = .ok (.iload 6, 2) := by decide +kernel
theorem dX2_firstFailure_112 : decode cX2_firstFailure 112 = .ok (.iadd, 1) := by decide +kernel
theorem dX2_firstFailure_113 : decode cX2_firstFailure 113 = .ok (.iconst 2, 1) := by decide +kernel
theorem dX2_firstFailure_114 : decode cX2_firstFailure 114 = .ok (.idiv, 1) := by decide +kernel
theorem dX2_firstFailure_115 : decode cX2_firstFailure 115 = .ok (.istore 7, 2) := by decide +kernel
theorem dX2_firstFailure_117 : decode cX2_firstFailure 117 = .ok (.iload_n 2, 1) := by decide +kernel
theorem dX2_firstFailure_118 : decode cX2_firstFailure 118 = .ok (.iload_n 3, 1) := by decide +kernel
theorem dX2_firstFailure_119 : decode cX2_firstFailure 119 = .ok (.isub, 1) := by decide +kernel
theorem dX2_firstFailure_120 : decode cX2_firstFailure 120 = .ok (.iload 6, 2) := by decide +kernel
theorem dX2_firstFailure_122 : decode cX2_firstFailure 122 = .ok (.isub, 1) := by decide +kernel
theorem dX2_firstFailure_123 : decode cX2_firstFailure 123 = .ok (.iconst 2, 1) := by decide +kernel
theorem dX2_firstFailure_124 : decode cX2_firstFailure 124 = .ok (.idiv, 1) := by decide +kernel
theorem dX2_firstFailure_125 : decode cX2_firstFailure 125 = .ok (.istore 8, 2) := by decide +kernel
theorem dX2_firstFailure_127 : decode cX2_firstFailure 127 = .ok (.iload_n 1, 1) := by decide +kernel
theorem dX2_firstFailure_128 : decode cX2_firstFailure 128 = .ok (.iload 7, 2) := by decide +kernel
theorem dX2_firstFailure_130 : decode cX2_firstFailure 130 = .ok (.iload 8, 2) := by decide +kernel
theorem dX2_firstFailure_132 : decode cX2_firstFailure 132 = .ok (.invokestatic 15, 3) := by decide +kernel
theorem dX2_firstFailure_135 : decode cX2_firstFailure 135 = .ok (.ifCond .ne 14, 3) := by decide +kernel
theorem dX2_firstFailure_138 : decode cX2_firstFailure 138 = .ok (.iload_n 1, 1) := by decide +kernel
theorem dX2_firstFailure_139 : decode cX2_firstFailure 139 = .ok (.iload 8, 2) := by decide +kernel
theorem dX2_firstFailure_141 : decode cX2_firstFailure 141 = .ok (.iload 7, 2) := by decide +kernel
theorem dX2_firstFailure_143 : decode cX2_firstFailure 143 = .ok (.invokestatic 15, 3) := by decide +kernel
theorem dX2_firstFailure_146 : decode cX2_firstFailure 146 = .ok (.ifCond .eq 5, 3) := by decide +kernel
theorem dX2_firstFailure_149 : decode cX2_firstFailure 149 = .ok (.iconst 3, 1) := by decide +kernel
theorem dX2_firstFailure_150 : decode cX2_firstFailure 150 = .ok (.ireturn, 1) := by decide +kernel
theorem dX2_firstFailure_151 : decode cX2_firstFailure 151 = .ok (.iload_n 0, 1) := by decide +kernel
theorem dX2_firstFailure_152 : decode cX2_firstFailure 152 = .ok (.iconst 1, 1) := by decide +kernel
theorem dX2_firstFailure_153 : decode cX2_firstFailure 153 = .ok (.isub, 1) := by decide +kernel
theorem dX2_firstFailure_154 : decode cX2_firstFailure 154 = .ok (.iload 5, 2) := by decide +kernel
theorem dX2_firstFailure_156 : decode cX2_firstFailure 156 = .ok (.iload 6, 2) := by decide +kernel
theorem dX2_firstFailure_158 : decode cX2_firstFailure 158 = .ok (.idiv, 1) := by decide +kernel
theorem dX2_firstFailure_159 : decode cX2_firstFailure 159 = .ok (.isub, 1) := by decide +kernel
theorem dX2_firstFailure_160 : decode cX2_firstFailure 160 = .ok (.iconst 2, 1) := by decide +kernel
theorem dX2_firstFailure_161 : decode cX2_firstFailure 161 = .ok (.idiv, 1) := by decide +kernel
theorem dX2_firstFailure_162 : decode cX2_firstFailure 162 = .ok (.istore 9, 2) := by decide +kernel
theorem dX2_firstFailure_164 : decode cX2_firstFailure 164 = .ok (.iload_n 0, 1) := by decide +kernel
theorem dX2_firstFailure_165 : decode cX2_firstFailure 165 = .ok (.iconst 1, 1) := by decide +kernel
theorem dX2_firstFailure_166 : decode cX2_firstFailure 166 = .ok (.isub, 1) := by decide +kernel
theorem dX2_firstFailure_167 : decode cX2_firstFailure 167 = .ok (.iload 5, 2) := by decide +kernel
theorem dX2_firstFailure_169 : decode cX2_firstFailure 169 = .ok (.iload 6, 2) := by decide +kernel
theorem dX2_firstFailure_171 : decode cX2_firstFailure 171 = .ok (.idiv, 1) := by decide +kernel
theorem dX2_firstFailure_172 : decode cX2_firstFailure 172 = .ok (.iadd, 1) := by decide +kernel
theorem dX2_firstFailure_173 : decode cX2_firstFailure 173 = .ok (.iconst 2, 1) := by decide +kernel
theorem dX2_firstFailure_174 : decode cX2_firstFailure 174 = .ok (.idiv, 1) := by decide +kernel
theorem dX2_firstFailure_175 : decode cX2_firstFailure 175 = .ok (.istore 10, 2) := by decide +kernel
theorem dX2_firstFailure_177 : decode cX2_firstFailure 177 = .ok (.iload_n 3, 1) := by decide +kernel
theorem dX2_firstFailure_178 : decode cX2_firstFailure 178 = .ok (.ifCond .le 12, 3) := by decide +kernel
theorem dX2_firstFailure_181 : decode cX2_firstFailure 181 = .ok (.iload_n 3, 1) := by decide +kernel
theorem dX2_firstFailure_182 : decode cX2_firstFailure 182 = .ok (.iload_n 1, 1) := by decide +kernel
theorem dX2_firstFailure_183 : decode cX2_firstFailure 183 = .ok (.if_icmp .ge 7, 3) := by decide +kernel
theorem dX2_firstFailure_186 : decode cX2_firstFailure 186 = .ok (.iconst 1, 1) := by decide +kernel
theorem dX2_firstFailure_187 : decode cX2_firstFailure 187 = .ok (.goto 4, 3) := by decide +kernel
theorem dX2_firstFailure_190 : decode cX2_firstFailure 190 = .ok (.iconst 0, 1) := by decide +kernel
theorem dX2_firstFailure_191 : decode cX2_firstFailure 191 = .ok (.istore 11, 2) := by decide +kernel
theorem dX2_firstFailure_193 : decode cX2_firstFailure 193 = .ok (.iload 11, 2) := by decide +kernel
theorem dX2_firstFailure_195 : decode cX2_firstFailure 195 = .ok (.ifCond .eq 33, 3) := by decide +kernel
theorem dX2_firstFailure_198 : decode cX2_firstFailure 198 = .ok (.iconst 2, 1) := by decide +kernel
theorem dX2_firstFailure_199 : decode cX2_firstFailure 199 = .ok (.iload_n 0, 1) := by decide +kernel
theorem dX2_firstFailure_200 : decode cX2_firstFailure 200 = .ok (.imul, 1) := by decide +kernel
theorem dX2_firstFailure_201 : decode cX2_firstFailure 201 = .ok (.iload 9, 2) := by decide +kernel
theorem dX2_firstFailure_203 : decode cX2_firstFailure 203 = .ok (.iload 9, 2) := by decide +kernel
theorem dX2_firstFailure_205 : decode cX2_firstFailure 205 = .ok (.iconst 3, 1) := by decide +kernel
theorem dX2_firstFailure_206 : decode cX2_firstFailure 206 = .ok (.iadd, 1) := by decide +kernel
theorem dX2_firstFailure_207 : decode cX2_firstFailure 207 = .ok (.imul, 1) := by decide +kernel
theorem dX2_firstFailure_208 : decode cX2_firstFailure 208 = .ok (.if_icmp .gt 16, 3) := by decide +kernel
theorem dX2_firstFailure_211 : decode cX2_firstFailure 211 = .ok (.iconst 2, 1) := by decide +kernel
theorem dX2_firstFailure_212 : decode cX2_firstFailure 212 = .ok (.iload_n 0, 1) := by decide +kernel
theorem dX2_firstFailure_213 : decode cX2_firstFailure 213 = .ok (.imul, 1) := by decide +kernel
theorem dX2_firstFailure_214 : decode cX2_firstFailure 214 = .ok (.iload 10, 2) := by decide +kernel
theorem dX2_firstFailure_216 : decode cX2_firstFailure 216 = .ok (.iload 10, 2) := by decide +kernel
theorem dX2_firstFailure_218 : decode cX2_firstFailure 218 = .ok (.iconst 3, 1) := by decide +kernel
theorem dX2_firstFailure_219 : decode cX2_firstFailure 219 = .ok (.iadd, 1) := by decide +kernel
theorem dX2_firstFailure_220 : decode cX2_firstFailure 220 = .ok (.imul, 1) := by decide +kernel
theorem dX2_firstFailure_221 : decode cX2_firstFailure 221 = .ok (.if_icmp .le 7, 3) := by decide +kernel
theorem dX2_firstFailure_224 : decode cX2_firstFailure 224 = .ok (.iconst 4, 1) := by decide +kernel
theorem dX2_firstFailure_225 : decode cX2_firstFailure 225 = .ok (.goto 4, 3) := by decide +kernel
theorem dX2_firstFailure_228 : decode cX2_firstFailure 228 = .ok (.iconst 0, 1) := by decide +kernel
theorem dX2_firstFailure_229 : decode cX2_firstFailure 229 = .ok (.ireturn, 1) := by decide +kernel
theorem dX2_breaksBound_0 : decode cX2_breaksBound 0 = .ok (.iload_n 1, 1) := by decide +kernel
theorem dX2_breaksBound_1 : decode cX2_breaksBound 1 = .ok (.iconst 1, 1) := by decide +kernel
theorem dX2_breaksBound_2 : decode cX2_breaksBound 2 = .ok (.iadd, 1) := by decide +kernel
theorem dX2_breaksBound_3 : decode cX2_breaksBound 3 = .ok (.iload_n 0, 1) := by decide +kernel
theorem dX2_breaksBound_4 : decode cX2_breaksBound 4 = .ok (.iload_n 1, 1) := by decide +kernel
theorem dX2_breaksBound_5 : decode cX2_breaksBound 5 = .ok (.iadd, 1) := by decide +kernel
theorem dX2_breaksBound_6 : decode cX2_breaksBound 6 = .ok (.iconst 2, 1) := by decide +kernel
theorem dX2_breaksBound_7 : decode cX2_breaksBound 7 = .ok (.iload_n 1, 1) := by decide +kernel
theorem dX2_breaksBound_8 : decode cX2_breaksBound 8 = .ok (.imul, 1) := by decide +kernel
theorem dX2_breaksBound_9 : decode cX2_breaksBound 9 = .ok (.iload_n 2, 1) := by decide +kernel
theorem dX2_breaksBound_10 : decode cX2_breaksBound 10 = .ok (.imul, 1) := by decide +kernel
theorem dX2_breaksBound_11 : decode cX2_breaksBound 11 = .ok (.iadd, 1) := by decide +kernel
theorem dX2_breaksBound_12 : decode cX2_breaksBound 12 = .ok (.imul, 1) := by decide +kernel
theorem dX2_breaksBound_13 : decode cX2_breaksBound 13 = .ok (.iload_n 0, 1) := by decide +kernel
theorem dX2_breaksBound_14 : decode cX2_breaksBound 14 = .ok (.iload_n 1, 1) := by decide +kernel
theorem dX2_breaksBound_15 : decode cX2_breaksBound 15 = .ok (.iadd, 1) := by decide +kernel
theorem dX2_breaksBound_16 : decode cX2_breaksBound 16 = .ok (.iload_n 2, 1) := by decide +kernel
theorem dX2_breaksBound_17 : decode cX2_breaksBound 17 = .ok (.iconst 1, 1) := by decide +kernel
theorem dX2_breaksBound_18 : decode cX2_breaksBound 18 = .ok (.iadd, 1) := by decide +kernel
theorem dX2_breaksBound_19 : decode cX2_breaksBound 19 = .ok (.imul, 1) := by decide +kernel
theorem dX2_breaksBound_20 : decode cX2_breaksBound 20 = .ok (.iload_n 2, 1) := by decide +kernel
theorem dX2_breaksBound_21 : decode cX2_breaksBound 21 = .ok (.iconst 1, 1) := by decide +kernel
theorem dX2_breaksBound_22 : decode cX2_breaksBound 22 = .ok (.iadd, 1) := by decide +kernel
theorem dX2_breaksBound_23 : decode cX2_breaksBound 23 = .ok (.imul, 1) := by decide +kernel
theorem dX2_breaksBound_24 : decode cX2_breaksBound 24 = .ok (.if_icmp .le 7, 3) := by decide +kernel
theorem dX2_breaksBound_27 : decode cX2_breaksBound 27 = .ok (.iconst 1, 1) := by decide +kernel
theorem dX2_breaksBound_28 : decode cX2_breaksBound 28 = .ok (.goto 4, 3) := by decide +kernel
theorem dX2_breaksBound_31 : decode cX2_breaksBound 31 = .ok (.iconst 0, 1) := by decide +kernel
theorem dX2_breaksBound_32 : decode cX2_breaksBound 32 = .ok (.ireturn, 1) := by decide +kernel
theorem dX2_wholeRoot_0 : decode cX2_wholeRoot 0 = .ok (.iconst 0, 1) := by decide +kernel
theorem dX2_wholeRoot_1 : decode cX2_wholeRoot 1 = .ok (.istore_n 1, 1) := by decide +kernel
theorem dX2_wholeRoot_2 : decode cX2_wholeRoot 2 = .ok (.iload_n 1, 1) := by decide +kernel
theorem dX2_wholeRoot_3 : decode cX2_wholeRoot 3 = .ok (.sipush 200, 3) := by decide +kernel
theorem dX2_wholeRoot_6 : decode cX2_wholeRoot 6 = .ok (.if_icmp .gt 18, 3) := by decide +kernel
theorem dX2_wholeRoot_9 : decode cX2_wholeRoot 9 = .ok (.iload_n 1, 1) := by decide +kernel
theorem dX2_wholeRoot_10 : decode cX2_wholeRoot 10 = .ok (.iload_n 1, 1) := by decide +kernel
theorem dX2_wholeRoot_11 : decode cX2_wholeRoot 11 = .ok (.imul, 1) := by decide +kernel
theorem dX2_wholeRoot_12 : decode cX2_wholeRoot 12 = .ok (.iload_n 0, 1) := by decide +kernel
theorem dX2_wholeRoot_13 : decode cX2_wholeRoot 13 = .ok (.if_icmp .ne 5, 3) := by decide +kernel
theorem dX2_wholeRoot_16 : decode cX2_wholeRoot 16 = .ok (.iload_n 1, 1) := by decide +kernel
theorem dX2_wholeRoot_17 : decode cX2_wholeRoot 17 = .ok (.ireturn, 1) := by decide +kernel
theorem dX2_wholeRoot_18 : decode cX2_wholeRoot 18 = .ok (.iinc 1 1, 3) := by decide +kernel
theorem dX2_wholeRoot_21 : decode cX2_wholeRoot 21 = .ok (.goto (-19), 3) := by decide +kernel
theorem dX2_wholeRoot_24 : decode cX2_wholeRoot 24 = .ok (.iconst (-1), 1) := by decide +kernel
theorem dX2_wholeRoot_25 : decode cX2_wholeRoot 25 = .ok (.ireturn, 1) := by decide +kernel
