theorem dX8_setOdds_37 : decode cX8_setOdds 37 = .ok (.iload_n 2, 1) := by decide +kernel
theorem dX8_setOdds_38 : decode cX8_setOdds 38 = .ok (.iadd, 1) := by decide +kernel
theorem dX8_setOdds_39 : decode cX8_setOdds 39 = .ok (.iload_n 3, 1) := by decide +kernel
theorem dX8_setOdds_40 : decode cX8_setOdds 40 = .ok (.iastore, 1) := by decide +kernel
theorem dX8_setOdds_41 : decode cX8_setOdds 41 = .ok (.return_, 1) := by decide +kernel
theorem dX8_findOdds_0 : decode cX8_findOdds 0 = .ok (.aload_n 0, 1) := by decide +kernel
theorem dX8_findOdds_1 : decode cX8_findOdds 1 = .ok (.getfield 32, 3) := by decide +kernel
theorem dX8_findOdds_4 : decode cX8_findOdds 4 = .ok (.iload_n 1, 1) := by decide +kernel
theorem dX8_findOdds_5 : decode cX8_findOdds 5 = .ok (.baload, 1) := by decide +kernel
theorem dX8_findOdds_6 : decode cX8_findOdds 6 = .ok (.ifCond .eq 40, 3) := by decide +kernel
theorem dX8_findOdds_9 : decode cX8_findOdds 9 = .ok (.iconst 0, 1) := by decide +kernel
theorem dX8_findOdds_10 : decode cX8_findOdds 10 = .ok (.istore_n 2, 1) := by decide +kernel
theorem dX8_findOdds_11 : decode cX8_findOdds 11 = .ok (.iload_n 2, 1) := by decide +kernel
theorem dX8_findOdds_12 : decode cX8_findOdds 12 = .ok (.iconst 3, 1) := by decide +kernel
theorem dX8_findOdds_13 : decode cX8_findOdds 13 = .ok (.if_icmp .ge 32, 3) := by decide +kernel
theorem dX8_findOdds_16 : decode cX8_findOdds 16 = .ok (.aload_n 0, 1) := by decide +kernel
theorem dX8_findOdds_17 : decode cX8_findOdds 17 = .ok (.iload_n 1, 1) := by decide +kernel
theorem dX8_findOdds_18 : decode cX8_findOdds 18 = .ok (.iload_n 2, 1) := by decide +kernel
theorem dX8_findOdds_19 : decode cX8_findOdds 19 = .ok (.iload_n 2, 1) := by decide +kernel
theorem dX8_findOdds_20 : decode cX8_findOdds 20 = .ok (.aload_n 0, 1) := by decide +kernel
theorem dX8_findOdds_21 : decode cX8_findOdds 21 = .ok (.getfield 23, 3) := by decide +kernel
theorem dX8_findOdds_24 : decode cX8_findOdds 24 = .ok (.iload_n 1, 1) := by decide +kernel
theorem dX8_findOdds_25 : decode cX8_findOdds 25 = .ok (.iaload, 1) := by decide +kernel
theorem dX8_findOdds_26 : decode cX8_findOdds 26 = .ok (.if_icmp .ne 9, 3) := by decide +kernel
theorem dX8_findOdds_29 : decode cX8_findOdds 29 = .ok (.sipush 1000, 3) := by decide +kernel
theorem dX8_findOdds_32 : decode cX8_findOdds 32 = .ok (.goto 4, 3) := by decide +kernel
theorem dX8_findOdds_35 : decode cX8_findOdds 35 = .ok (.iconst 0, 1) := by decide +kernel
theorem dX8_findOdds_36 : decode cX8_findOdds 36 = .ok (.invokevirtual 253, 3) := by decide +kernel
theorem dX8_findOdds_39 : decode cX8_findOdds 39 = .ok (.iinc 2 1, 3) := by decide +kernel
theorem dX8_findOdds_42 : decode cX8_findOdds 42 = .ok (.goto (-31), 3) := by decide +kernel
theorem dX8_findOdds_45 : decode cX8_findOdds 45 = .ok (.return_, 1) := by decide +kernel
theorem dX8_findOdds_46 : decode cX8_findOdds 46 = .ok (.lconst 0, 1) := by decide +kernel
theorem dX8_findOdds_47 : decode cX8_findOdds 47 = .ok (.lstore_n 2, 1) := by decide +kernel
theorem dX8_findOdds_48 : decode cX8_findOdds 48 = .ok (.iconst 0, 1) := by decide +kernel
theorem dX8_findOdds_49 : decode cX8_findOdds 49 = .ok (.istore 4, 2) := by decide +kernel
theorem dX8_findOdds_51 : decode cX8_findOdds 51 = .ok (.iload 4, 2) := by decide +kernel
theorem dX8_findOdds_53 : decode cX8_findOdds 53 = .ok (.iconst 3, 1) := by decide +kernel
theorem dX8_findOdds_54 : decode cX8_findOdds 54 = .ok (.if_icmp .ge 115, 3) := by decide +kernel
theorem dX8_findOdds_57 : decode cX8_findOdds 57 = .ok (.aload_n 0, 1) := by decide +kernel
theorem dX8_findOdds_58 : decode cX8_findOdds 58 = .ok (.getfield 60, 3) := by decide +kernel
theorem dX8_findOdds_61 : decode cX8_findOdds 61 = .ok (.iload 4, 2) := by decide +kernel
theorem dX8_findOdds_63 : decode cX8_findOdds 63 = .ok (.aload_n 0, 1) := by decide +kernel
theorem dX8_findOdds_64 : decode cX8_findOdds 64 = .ok (.getfield 57, 3) := by decide +kernel
theorem dX8_findOdds_67 : decode cX8_findOdds 67 = .ok (.iload 4, 2) := by decide +kernel
theorem dX8_findOdds_69 : decode cX8_findOdds 69 = .ok (.iaload, 1) := by decide +kernel
theorem dX8_findOdds_70 : decode cX8_findOdds 70 = .ok (.i2l, 1) := by decide +kernel
theorem dX8_findOdds_71 : decode cX8_findOdds 71 = .ok (.lastore, 1) := by decide +kernel
theorem dX8_findOdds_72 : decode cX8_findOdds 72 = .ok (.iconst 0, 1) := by decide +kernel
theorem dX8_findOdds_73 : decode cX8_findOdds 73 = .ok (.istore 5, 2) := by decide +kernel
theorem dX8_findOdds_75 : decode cX8_findOdds 75 = .ok (.iconst 0, 1) := by decide +kernel
theorem dX8_findOdds_76 : decode cX8_findOdds 76 = .ok (.istore 6, 2) := by decide +kernel
theorem dX8_findOdds_78 : decode cX8_findOdds 78 = .ok (.iload 6, 2) := by decide +kernel
theorem dX8_findOdds_80 : decode cX8_findOdds 80 = .ok (.aload_n 0, 1) := by decide +kernel
theorem dX8_findOdds_81 : decode cX8_findOdds 81 = .ok (.getfield 174, 3) := by decide +kernel
theorem dX8_findOdds_84 : decode cX8_findOdds 84 = .ok (.if_icmp .ge 69, 3) := by decide +kernel
theorem dX8_findOdds_87 : decode cX8_findOdds 87 = .ok (.iload 5, 2) := by decide +kernel
theorem dX8_findOdds_89 : decode cX8_findOdds 89 = .ok (.bipush 6, 2) := by decide +kernel
theorem dX8_findOdds_91 : decode cX8_findOdds 91 = .ok (.if_icmp .ge 62, 3) := by decide +kernel
theorem dX8_findOdds_94 : decode cX8_findOdds 94 = .ok (.aload_n 0, 1) := by decide +kernel
theorem dX8_findOdds_95 : decode cX8_findOdds 95 = .ok (.getfield 45, 3) := by decide +kernel
theorem dX8_findOdds_98 : decode cX8_findOdds 98 = .ok (.iload 6, 2) := by decide +kernel
theorem dX8_findOdds_100 : decode cX8_findOdds 100 = .ok (.iaload, 1) := by decide +kernel
theorem dX8_findOdds_101 : decode cX8_findOdds 101 = .ok (.iload_n 1, 1) := by decide +kernel
theorem dX8_findOdds_102 : decode cX8_findOdds 102 = .ok (.if_icmp .ne 45, 3) := by decide +kernel
theorem dX8_findOdds_105 : decode cX8_findOdds 105 = .ok (.iinc 5 1, 3) := by decide +kernel
theorem dX8_findOdds_108 : decode cX8_findOdds 108 = .ok (.aload_n 0, 1) := by decide +kernel
theorem dX8_findOdds_109 : decode cX8_findOdds 109 = .ok (.getfield 60, 3) := by decide +kernel
theorem dX8_findOdds_112 : decode cX8_findOdds 112 = .ok (.iload 4, 2) := by decide +kernel
theorem dX8_findOdds_114 : decode cX8_findOdds 114 = .ok (.dup2, 1) := by decide +kernel
theorem dX8_findOdds_115 : decode cX8_findOdds 115 = .ok (.laload, 1) := by decide +kernel
theorem dX8_findOdds_116 : decode cX8_findOdds 116 = .ok (.aload_n 0, 1) := by decide +kernel
theorem dX8_findOdds_117 : decode cX8_findOdds 117 = .ok (.getfield 54, 3) := by decide +kernel
theorem dX8_findOdds_120 : decode cX8_findOdds 120 = .ok (.bipush 12, 2) := by decide +kernel
theorem dX8_findOdds_122 : decode cX8_findOdds 122 = .ok (.aload_n 0, 1) := by decide +kernel
theorem dX8_findOdds_123 : decode cX8_findOdds 123 = .ok (.getfield 42, 3) := by decide +kernel
theorem dX8_findOdds_126 : decode cX8_findOdds 126 = .ok (.iload 6, 2) := by decide +kernel
theorem dX8_findOdds_128 : decode cX8_findOdds 128 = .ok (.iaload, 1) := by decide +kernel
theorem dX8_findOdds_129 : decode cX8_findOdds 129 = .ok (.imul, 1) := by decide +kernel
theorem dX8_findOdds_130 : decode cX8_findOdds 130 = .ok (.iconst 4, 1) := by decide +kernel
theorem dX8_findOdds_131 : decode cX8_findOdds 131 = .ok (.iload 4, 2) := by decide +kernel
theorem dX8_findOdds_133 : decode cX8_findOdds 133 = .ok (.imul, 1) := by decide +kernel
theorem dX8_findOdds_134 : decode cX8_findOdds 134 = .ok (.iadd, 1) := by decide +kernel
theorem dX8_findOdds_135 : decode cX8_findOdds 135 = .ok (.aload_n 0, 1) := by decide +kernel
theorem dX8_findOdds_136 : decode cX8_findOdds 136 = .ok (.getfield 48, 3) := by decide +kernel
theorem dX8_findOdds_139 : decode cX8_findOdds 139 = .ok (.iload 6, 2) := by decide +kernel
theorem dX8_findOdds_141 : decode cX8_findOdds 141 = .ok (.iaload, 1) := by decide +kernel
theorem dX8_findOdds_142 : decode cX8_findOdds 142 = .ok (.iadd, 1) := by decide +kernel
theorem dX8_findOdds_143 : decode cX8_findOdds 143 = .ok (.iaload, 1) := by decide +kernel
theorem dX8_findOdds_144 : decode cX8_findOdds 144 = .ok (.i2l, 1) := by decide +kernel
theorem dX8_findOdds_145 : decode cX8_findOdds 145 = .ok (.lmul, 1) := by decide +kernel
theorem dX8_findOdds_146 : decode cX8_findOdds 146 = .ok (.lastore, 1) := by decide +kernel
theorem dX8_findOdds_147 : decode cX8_findOdds 147 = .ok (.iinc 6 1, 3) := by decide +kernel
theorem dX8_findOdds_150 : decode cX8_findOdds 150 = .ok (.goto (-72), 3) := by decide +kernel
theorem dX8_findOdds_153 : decode cX8_findOdds 153 = .ok (.lload_n 2, 1) := by decide +kernel
theorem dX8_findOdds_154 : decode cX8_findOdds 154 = .ok (.aload_n 0, 1) := by decide +kernel
theorem dX8_findOdds_155 : decode cX8_findOdds 155 = .ok (.getfield 60, 3) := by decide +kernel
theorem dX8_findOdds_158 : decode cX8_findOdds 158 = .ok (.iload 4, 2) := by decide +kernel
theorem dX8_findOdds_160 : decode cX8_findOdds 160 = .ok (.laload, 1) := by decide +kernel
theorem dX8_findOdds_161 : decode cX8_findOdds 161 = .ok (.ladd, 1) := by decide +kernel
theorem dX8_findOdds_162 : decode cX8_findOdds 162 = .ok (.lstore_n 2, 1) := by decide +kernel
theorem dX8_findOdds_163 : decode cX8_findOdds 163 = .ok (.iinc 4 1, 3) := by decide +kernel
theorem dX8_findOdds_166 : decode cX8_findOdds 166 = .ok (.goto (-115), 3) := by decide +kernel
theorem dX8_findOdds_169 : decode cX8_findOdds 169 = .ok (.sipush 1000, 3) := by decide +kernel
theorem dX8_findOdds_172 : decode cX8_findOdds 172 = .ok (.istore 4, 2) := by decide +kernel
theorem dX8_findOdds_174 : decode cX8_findOdds 174 = .ok (.iconst 0, 1) := by decide +kernel
theorem dX8_findOdds_175 : decode cX8_findOdds 175 = .ok (.istore 5, 2) := by decide +kernel
theorem dX8_findOdds_177 : decode cX8_findOdds 177 = .ok (.iconst 0, 1) := by decide +kernel
theorem dX8_findOdds_178 : decode cX8_findOdds 178 = .ok (.istore 6, 2) := by decide +kernel
theorem dX8_findOdds_180 : decode cX8_findOdds 180 = .ok (.iload 6, 2) := by decide +kernel
theorem dX8_findOdds_182 : decode cX8_findOdds 182 = .ok (.iconst 3, 1) := by decide +kernel
theorem dX8_findOdds_183 : decode cX8_findOdds 183 = .ok (.if_icmp .ge 68, 3) := by decide +kernel
theorem dX8_findOdds_186 : decode cX8_findOdds 186 = .ok (.aload_n 0, 1) := by decide +kernel
theorem dX8_findOdds_187 : decode cX8_findOdds 187 = .ok (.getfield 64, 3) := by decide +kernel
theorem dX8_findOdds_190 : decode cX8_findOdds 190 = .ok (.iload 6, 2) := by decide +kernel
theorem dX8_findOdds_192 : decode cX8_findOdds 192 = .ok (.aload_n 0, 1) := by decide +kernel
theorem dX8_findOdds_193 : decode cX8_findOdds 193 = .ok (.getfield 60, 3) := by decide +kernel
theorem dX8_findOdds_196 : decode cX8_findOdds 196 = .ok (.iload 6, 2) := by decide +kernel
theorem dX8_findOdds_198 : decode cX8_findOdds 198 = .ok (.laload, 1) := by decide +kernel
theorem dX8_findOdds_199 : decode cX8_findOdds 199 = .ok (.ldc2_w 257, 3) := by decide +kernel
theorem dX8_findOdds_202 : decode cX8_findOdds 202 = .ok (.lmul, 1) := by decide +kernel
theorem dX8_findOdds_203 : decode cX8_findOdds 203 = .ok (.lload_n 2, 1) := by decide +kernel
theorem dX8_findOdds_204 : decode cX8_findOdds 204 = .ok (.ldiv, 1) := by decide +kernel
theorem dX8_findOdds_205 : decode cX8_findOdds 205 = .ok (.l2i, 1) := by decide +kernel
theorem dX8_findOdds_206 : decode cX8_findOdds 206 = .ok (.iastore, 1) := by decide +kernel
theorem dX8_findOdds_207 : decode cX8_findOdds 207 = .ok (.iload 4, 2) := by decide +kernel
theorem dX8_findOdds_209 : decode cX8_findOdds 209 = .ok (.aload_n 0, 1) := by decide +kernel
theorem dX8_findOdds_210 : decode cX8_findOdds 210 = .ok (.getfield 64, 3) := by decide +kernel
theorem dX8_findOdds_213 : decode cX8_findOdds 213 = .ok (.iload 6, 2) := by decide +kernel
theorem dX8_findOdds_215 : decode cX8_findOdds 215 = .ok (.iaload, 1) := by decide +kernel
theorem dX8_findOdds_216 : decode cX8_findOdds 216 = .ok (.isub, 1) := by decide +kernel
theorem dX8_findOdds_217 : decode cX8_findOdds 217 = .ok (.istore 4, 2) := by decide +kernel
theorem dX8_findOdds_219 : decode cX8_findOdds 219 = .ok (.aload_n 0, 1) := by decide +kernel
theorem dX8_findOdds_220 : decode cX8_findOdds 220 = .ok (.getfield 64, 3) := by decide +kernel
theorem dX8_findOdds_223 : decode cX8_findOdds 223 = .ok (.iload 6, 2) := by decide +kernel
theorem dX8_findOdds_225 : decode cX8_findOdds 225 = .ok (.iaload, 1) := by decide +kernel
theorem dX8_findOdds_226 : decode cX8_findOdds 226 = .ok (.aload_n 0, 1) := by decide +kernel
theorem dX8_findOdds_227 : decode cX8_findOdds 227 = .ok (.getfield 64, 3) := by decide +kernel
theorem dX8_findOdds_230 : decode cX8_findOdds 230 = .ok (.iload 5, 2) := by decide +kernel
theorem dX8_findOdds_232 : decode cX8_findOdds 232 = .ok (.iaload, 1) := by decide +kernel
theorem dX8_findOdds_233 : decode cX8_findOdds 233 = .ok (.if_icmp .le 8, 3) := by decide +kernel
theorem dX8_findOdds_236 : decode cX8_findOdds 236 = .ok (.iload 6, 2) := by decide +kernel
theorem dX8_findOdds_238 : decode cX8_findOdds 238 = .ok (.goto 5, 3) := by decide +kernel
theorem dX8_findOdds_241 : decode cX8_findOdds 241 = .ok (.iload 5, 2) := by decide +kernel
theorem dX8_findOdds_243 : decode cX8_findOdds 243 = .ok (.istore 5, 2) := by decide +kernel
theorem dX8_findOdds_245 : decode cX8_findOdds 245 = .ok (.iinc 6 1, 3) := by decide +kernel
theorem dX8_findOdds_248 : decode cX8_findOdds 248 = .ok (.goto (-68), 3) := by decide +kernel
theorem dX8_findOdds_251 : decode cX8_findOdds 251 = .ok (.aload_n 0, 1) := by decide +kernel
theorem dX8_findOdds_252 : decode cX8_findOdds 252 = .ok (.getfield 64, 3) := by decide +kernel
theorem dX8_findOdds_255 : decode cX8_findOdds 255 = .ok (.iload 5, 2) := by decide +kernel
theorem dX8_findOdds_257 : decode cX8_findOdds 257 = .ok (.dup2, 1) := by decide +kernel
theorem dX8_findOdds_258 : decode cX8_findOdds 258 = .ok (.iaload, 1) := by decide +kernel
theorem dX8_findOdds_259 : decode cX8_findOdds 259 = .ok (.iload 4, 2) := by decide +kernel
theorem dX8_findOdds_261 : decode cX8_findOdds 261 = .ok (.iadd, 1) := by decide +kernel
theorem dX8_findOdds_262 : decode cX8_findOdds 262 = .ok (.iastore, 1) := by decide +kernel
theorem dX8_findOdds_263 : decode cX8_findOdds 263 = .ok (.iconst 0, 1) := by decide +kernel
theorem dX8_findOdds_264 : decode cX8_findOdds 264 = .ok (.istore 6, 2) := by decide +kernel
theorem dX8_findOdds_266 : decode cX8_findOdds 266 = .ok (.iload 6, 2) := by decide +kernel
theorem dX8_findOdds_268 : decode cX8_findOdds 268 = .ok (.iconst 3, 1) := by decide +kernel
theorem dX8_findOdds_269 : decode cX8_findOdds 269 = .ok (.if_icmp .ge 23, 3) := by decide +kernel
theorem dX8_findOdds_272 : decode cX8_findOdds 272 = .ok (.aload_n 0, 1) := by decide +kernel
theorem dX8_findOdds_273 : decode cX8_findOdds 273 = .ok (.iload_n 1, 1) := by decide +kernel
theorem dX8_findOdds_274 : decode cX8_findOdds 274 = .ok (.iload 6, 2) := by decide +kernel
theorem dX8_findOdds_276 : decode cX8_findOdds 276 = .ok (.aload_n 0, 1) := by decide +kernel
theorem dX8_findOdds_277 : decode cX8_findOdds 277 = .ok (.getfield 64, 3) := by decide +kernel
theorem dX8_findOdds_280 : decode cX8_findOdds 280 = .ok (.iload 6, 2) := by decide +kernel
theorem dX8_findOdds_282 : decode cX8_findOdds 282 = .ok (.iaload, 1) := by decide +kernel
theorem dX8_findOdds_283 : decode cX8_findOdds 283 = .ok (.invokevirtual 253, 3) := by decide +kernel
theorem dX8_findOdds_286 : decode cX8_findOdds 286 = .ok (.iinc 6 1, 3) := by decide +kernel
theorem dX8_findOdds_289 : decode cX8_findOdds 289 = .ok (.goto (-23), 3) := by decide +kernel
theorem dX8_findOdds_292 : decode cX8_findOdds 292 = .ok (.return_, 1) := by decide +kernel
theorem dX8_findTable_0 : decode cX8_findTable 0 = .ok (.iconst 0, 1) := by decide +kernel
theorem dX8_findTable_1 : decode cX8_findTable 1 = .ok (.istore_n 2, 1) := by decide +kernel
theorem dX8_findTable_2 : decode cX8_findTable 2 = .ok (.iload_n 2, 1) := by decide +kernel
theorem dX8_findTable_3 : decode cX8_findTable 3 = .ok (.bipush 12, 2) := by decide +kernel
theorem dX8_findTable_5 : decode cX8_findTable 5 = .ok (.if_icmp .ge 16, 3) := by decide +kernel
theorem dX8_findTable_8 : decode cX8_findTable 8 = .ok (.aload_n 0, 1) := by decide +kernel
theorem dX8_findTable_9 : decode cX8_findTable 9 = .ok (.getfield 67, 3) := by decide +kernel
theorem dX8_findTable_12 : decode cX8_findTable 12 = .ok (.iload_n 2, 1) := by decide +kernel
theorem dX8_findTable_13 : decode cX8_findTable 13 = .ok (.iconst 0, 1) := by decide +kernel
theorem dX8_findTable_14 : decode cX8_findTable 14 = .ok (.iastore, 1) := by decide +kernel
theorem dX8_findTable_15 : decode cX8_findTable 15 = .ok (.iinc 2 1, 3) := by decide +kernel
theorem dX8_findTable_18 : decode cX8_findTable 18 = .ok (.goto (-16), 3) := by decide +kernel
theorem dX8_findTable_21 : decode cX8_findTable 21 = .ok (.iconst 0, 1) := by decide +kernel
theorem dX8_findTable_22 : decode cX8_findTable 22 = .ok (.istore_n 2, 1) := by decide +kernel
theorem dX8_findTable_23 : decode cX8_findTable 23 = .ok (.iload_n 2, 1) := by decide +kernel
theorem dX8_findTable_24 : decode cX8_findTable 24 = .ok (.iconst 3, 1) := by decide +kernel
theorem dX8_findTable_25 : decode cX8_findTable 25 = .ok (.if_icmp .ge 16, 3) := by decide +kernel
theorem dX8_findTable_28 : decode cX8_findTable 28 = .ok (.aload_n 0, 1) := by decide +kernel
theorem dX8_findTable_29 : decode cX8_findTable 29 = .ok (.getfield 70, 3) := by decide +kernel
theorem dX8_findTable_32 : decode cX8_findTable 32 = .ok (.iload_n 2, 1) := by decide +kernel
theorem dX8_findTable_33 : decode cX8_findTable 33 = .ok (.iconst 0, 1) := by decide +kernel
theorem dX8_findTable_34 : decode cX8_findTable 34 = .ok (.iastore, 1) := by decide +kernel
theorem dX8_findTable_35 : decode cX8_findTable 35 = .ok (.iinc 2 1, 3) := by decide +kernel
theorem dX8_findTable_38 : decode cX8_findTable 38 = .ok (.goto (-15), 3) := by decide +kernel
theorem dX8_findTable_41 : decode cX8_findTable 41 = .ok (.iconst 0, 1) := by decide +kernel
theorem dX8_findTable_42 : decode cX8_findTable 42 = .ok (.istore_n 2, 1) := by decide +kernel
theorem dX8_findTable_43 : decode cX8_findTable 43 = .ok (.iload_n 2, 1) := by decide +kernel
theorem dX8_findTable_44 : decode cX8_findTable 44 = .ok (.aload_n 0, 1) := by decide +kernel
theorem dX8_findTable_45 : decode cX8_findTable 45 = .ok (.getfield 174, 3) := by decide +kernel
theorem dX8_findTable_48 : decode cX8_findTable 48 = .ok (.if_icmp .ge 97, 3) := by decide +kernel
theorem dX8_findTable_51 : decode cX8_findTable 51 = .ok (.aload_n 0, 1) := by decide +kernel
theorem dX8_findTable_52 : decode cX8_findTable 52 = .ok (.getfield 42, 3) := by decide +kernel
theorem dX8_findTable_55 : decode cX8_findTable 55 = .ok (.iload_n 2, 1) := by decide +kernel
theorem dX8_findTable_56 : decode cX8_findTable 56 = .ok (.iaload, 1) := by decide +kernel
theorem dX8_findTable_57 : decode cX8_findTable 57 = .ok (.iload_n 1, 1) := by decide +kernel
theorem dX8_findTable_58 : decode cX8_findTable 58 = .ok (.if_icmp .ne 81, 3) := by decide +kernel
theorem dX8_findTable_61 : decode cX8_findTable 61 = .ok (.aload_n 0, 1) := by decide +kernel
theorem dX8_findTable_62 : decode cX8_findTable 62 = .ok (.iload_n 2, 1) := by decide +kernel
theorem dX8_findTable_63 : decode cX8_findTable 63 = .ok (.invokevirtual 241, 3) := by decide +kernel
theorem dX8_findTable_66 : decode cX8_findTable 66 = .ok (.ifCond .eq 73, 3) := by decide +kernel
theorem dX8_findTable_69 : decode cX8_findTable 69 = .ok (.iconst 0, 1) := by decide +kernel
theorem dX8_findTable_70 : decode cX8_findTable 70 = .ok (.istore_n 3, 1) := by decide +kernel
theorem dX8_findTable_71 : decode cX8_findTable 71 = .ok (.iload_n 3, 1) := by decide +kernel
theorem dX8_findTable_72 : decode cX8_findTable 72 = .ok (.iconst 3, 1) := by decide +kernel
theorem dX8_findTable_73 : decode cX8_findTable 73 = .ok (.if_icmp .ge 66, 3) := by decide +kernel
theorem dX8_findTable_76 : decode cX8_findTable 76 = .ok (.aload_n 0, 1) := by decide +kernel
theorem dX8_findTable_77 : decode cX8_findTable 77 = .ok (.getfield 70, 3) := by decide +kernel
theorem dX8_findTable_80 : decode cX8_findTable 80 = .ok (.iload_n 3, 1) := by decide +kernel
theorem dX8_findTable_81 : decode cX8_findTable 81 = .ok (.dup2, 1) := by decide +kernel
theorem dX8_findTable_82 : decode cX8_findTable 82 = .ok (.iaload, 1) := by decide +kernel
theorem dX8_findTable_83 : decode cX8_findTable 83 = .ok (.aload_n 0, 1) := by decide +kernel
theorem dX8_findTable_84 : decode cX8_findTable 84 = .ok (.getfield 51, 3) := by decide +kernel
theorem dX8_findTable_87 : decode cX8_findTable 87 = .ok (.iconst 3, 1) := by decide +kernel
theorem dX8_findTable_88 : decode cX8_findTable 88 = .ok (.aload_n 0, 1) := by decide +kernel
theorem dX8_findTable_89 : decode cX8_findTable 89 = .ok (.getfield 45, 3) := by decide +kernel
theorem dX8_findTable_92 : decode cX8_findTable 92 = .ok (.iload_n 2, 1) := by decide +kernel
theorem dX8_findTable_93 : decode cX8_findTable 93 = .ok (.iaload, 1) := by decide +kernel
theorem dX8_findTable_94 : decode cX8_findTable 94 = .ok (.imul, 1) := by decide +kernel
theorem dX8_findTable_95 : decode cX8_findTable 95 = .ok (.iload_n 3, 1) := by decide +kernel
theorem dX8_findTable_96 : decode cX8_findTable 96 = .ok (.iadd, 1) := by decide +kernel
theorem dX8_findTable_97 : decode cX8_findTable 97 = .ok (.iaload, 1) := by decide +kernel
theorem dX8_findTable_98 : decode cX8_findTable 98 = .ok (.iadd, 1) := by decide +kernel
theorem dX8_findTable_99 : decode cX8_findTable 99 = .ok (.iastore, 1) := by decide +kernel
theorem dX8_findTable_100 : decode cX8_findTable 100 = .ok (.aload_n 0, 1) := by decide +kernel
theorem dX8_findTable_101 : decode cX8_findTable 101 = .ok (.getfield 67, 3) := by decide +kernel
theorem dX8_findTable_104 : decode cX8_findTable 104 = .ok (.iconst 4, 1) := by decide +kernel
theorem dX8_findTable_105 : decode cX8_findTable 105 = .ok (.iload_n 3, 1) := by decide +kernel
theorem dX8_findTable_106 : decode cX8_findTable 106 = .ok (.imul, 1) := by decide +kernel
theorem dX8_findTable_107 : decode cX8_findTable 107 = .ok (.aload_n 0, 1) := by decide +kernel
theorem dX8_findTable_108 : decode cX8_findTable 108 = .ok (.getfield 48, 3) := by decide +kernel
theorem dX8_findTable_111 : decode cX8_findTable 111 = .ok (.iload_n 2, 1) := by decide +kernel
theorem dX8_findTable_112 : decode cX8_findTable 112 = .ok (.iaload, 1) := by decide +kernel
theorem dX8_findTable_113 : decode cX8_findTable 113 = .ok (.iadd, 1) := by decide +kernel
theorem dX8_findTable_114 : decode cX8_findTable 114 = .ok (.dup2, 1) := by decide +kernel
theorem dX8_findTable_115 : decode cX8_findTable 115 = .ok (.iaload, 1) := by decide +kernel
theorem dX8_findTable_116 : decode cX8_findTable 116 = .ok (.aload_n 0, 1) := by decide +kernel
theorem dX8_findTable_117 : decode cX8_findTable 117 = .ok (.getfield 51, 3) := by decide +kernel
theorem dX8_findTable_120 : decode cX8_findTable 120 = .ok (.iconst 3, 1) := by decide +kernel
theorem dX8_findTable_121 : decode cX8_findTable 121 = .ok (.aload_n 0, 1) := by decide +kernel
theorem dX8_findTable_122 : decode cX8_findTable 122 = .ok (.getfield 45, 3) := by decide +kernel
theorem dX8_findTable_125 : decode cX8_findTable 125 = .ok (.iload_n 2, 1) := by decide +kernel
theorem dX8_findTable_126 : decode cX8_findTable 126 = .ok (.iaload, 1) := by decide +kernel
theorem dX8_findTable_127 : decode cX8_findTable 127 = .ok (.imul, 1) := by decide +kernel
theorem dX8_findTable_128 : decode cX8_findTable 128 = .ok (.iload_n 3, 1) := by decide +kernel
theorem dX8_findTable_129 : decode cX8_findTable 129 = .ok (.iadd, 1) := by decide +kernel
theorem dX8_findTable_130 : decode cX8_findTable 130 = .ok (.iaload, 1) := by decide +kernel
theorem dX8_findTable_131 : decode cX8_findTable 131 = .ok (.iadd, 1) := by decide +kernel
theorem dX8_findTable_132 : decode cX8_findTable 132 = .ok (.iastore, 1) := by decide +kernel
theorem dX8_findTable_133 : decode cX8_findTable 133 = .ok (.iinc 3 1, 3) := by decide +kernel
theorem dX8_findTable_136 : decode cX8_findTable 136 = .ok (.goto (-65), 3) := by decide +kernel
theorem dX8_findTable_139 : decode cX8_findTable 139 = .ok (.iinc 2 1, 3) := by decide +kernel
theorem dX8_findTable_142 : decode cX8_findTable 142 = .ok (.goto (-99), 3) := by decide +kernel
theorem dX8_findTable_145 : decode cX8_findTable 145 = .ok (.iconst 0, 1) := by decide +kernel
theorem dX8_findTable_146 : decode cX8_findTable 146 = .ok (.istore_n 2, 1) := by decide +kernel
theorem dX8_findTable_147 : decode cX8_findTable 147 = .ok (.iload_n 2, 1) := by decide +kernel
theorem dX8_findTable_148 : decode cX8_findTable 148 = .ok (.bipush 12, 2) := by decide +kernel
theorem dX8_findTable_150 : decode cX8_findTable 150 = .ok (.if_icmp .ge 84, 3) := by decide +kernel
theorem dX8_findTable_153 : decode cX8_findTable 153 = .ok (.aload_n 0, 1) := by decide +kernel
theorem dX8_findTable_154 : decode cX8_findTable 154 = .ok (.getfield 70, 3) := by decide +kernel
theorem dX8_findTable_157 : decode cX8_findTable 157 = .ok (.iload_n 2, 1) := by decide +kernel
theorem dX8_findTable_158 : decode cX8_findTable 158 = .ok (.iconst 4, 1) := by decide +kernel
theorem dX8_findTable_159 : decode cX8_findTable 159 = .ok (.idiv, 1) := by decide +kernel
theorem dX8_findTable_160 : decode cX8_findTable 160 = .ok (.iaload, 1) := by decide +kernel
theorem dX8_findTable_161 : decode cX8_findTable 161 = .ok (.ifCond .le 67, 3) := by decide +kernel
theorem dX8_findTable_164 : decode cX8_findTable 164 = .ok (.iconst 1, 1) := by decide +kernel
theorem dX8_findTable_165 : decode cX8_findTable 165 = .ok (.bipush 96, 2) := by decide +kernel
theorem dX8_findTable_167 : decode cX8_findTable 167 = .ok (.aload_n 0, 1) := by decide +kernel
theorem dX8_findTable_168 : decode cX8_findTable 168 = .ok (.getfield 67, 3) := by decide +kernel
theorem dX8_findTable_171 : decode cX8_findTable 171 = .ok (.iload_n 2, 1) := by decide +kernel
theorem dX8_findTable_172 : decode cX8_findTable 172 = .ok (.iaload, 1) := by decide +kernel
theorem dX8_findTable_173 : decode cX8_findTable 173 = .ok (.imul, 1) := by decide +kernel
theorem dX8_findTable_174 : decode cX8_findTable 174 = .ok (.aload_n 0, 1) := by decide +kernel
theorem dX8_findTable_175 : decode cX8_findTable 175 = .ok (.getfield 70, 3) := by decide +kernel
theorem dX8_findTable_178 : decode cX8_findTable 178 = .ok (.iload_n 2, 1) := by decide +kernel
theorem dX8_findTable_179 : decode cX8_findTable 179 = .ok (.iconst 4, 1) := by decide +kernel
theorem dX8_findTable_180 : decode cX8_findTable 180 = .ok (.idiv, 1) := by decide +kernel
theorem dX8_findTable_181 : decode cX8_findTable 181 = .ok (.iaload, 1) := by decide +kernel
theorem dX8_findTable_182 : decode cX8_findTable 182 = .ok (.idiv, 1) := by decide +kernel
theorem dX8_findTable_183 : decode cX8_findTable 183 = .ok (.iadd, 1) := by decide +kernel
theorem dX8_findTable_184 : decode cX8_findTable 184 = .ok (.istore_n 3, 1) := by decide +kernel
theorem dX8_findTable_185 : decode cX8_findTable 185 = .ok (.aload_n 0, 1) := by decide +kernel
theorem dX8_findTable_186 : decode cX8_findTable 186 = .ok (.aload_n 0, 1) := by decide +kernel
theorem dX8_findTable_187 : decode cX8_findTable 187 = .ok (.getfield 249, 3) := by decide +kernel
theorem dX8_findTable_190 : decode cX8_findTable 190 = .ok (.ifCond .ne 18, 3) := by decide +kernel
theorem dX8_findTable_193 : decode cX8_findTable 193 = .ok (.aload_n 0, 1) := by decide +kernel
theorem dX8_findTable_194 : decode cX8_findTable 194 = .ok (.getfield 54, 3) := by decide +kernel
theorem dX8_findTable_197 : decode cX8_findTable 197 = .ok (.bipush 12, 2) := by decide +kernel
theorem dX8_findTable_199 : decode cX8_findTable 199 = .ok (.iload_n 1, 1) := by decide +kernel
theorem dX8_findTable_200 : decode cX8_findTable 200 = .ok (.imul, 1) := by decide +kernel
theorem dX8_findTable_201 : decode cX8_findTable 201 = .ok (.iload_n 2, 1) := by decide +kernel
theorem dX8_findTable_202 : decode cX8_findTable 202 = .ok (.iadd, 1) := by decide +kernel
theorem dX8_findTable_203 : decode cX8_findTable 203 = .ok (.iaload, 1) := by decide +kernel
theorem dX8_findTable_204 : decode cX8_findTable 204 = .ok (.iload_n 3, 1) := by decide +kernel
theorem dX8_findTable_205 : decode cX8_findTable 205 = .ok (.if_icmp .eq 7, 3) := by decide +kernel
theorem dX8_findTable_208 : decode cX8_findTable 208 = .ok (.iconst 1, 1) := by decide +kernel
theorem dX8_findTable_209 : decode cX8_findTable 209 = .ok (.goto 4, 3) := by decide +kernel
theorem dX8_findTable_212 : decode cX8_findTable 212 = .ok (.iconst 0, 1) := by decide +kernel
theorem dX8_findTable_213 : decode cX8_findTable 213 = .ok (.putfield 249, 3) := by decide +kernel
theorem dX8_findTable_216 : decode cX8_findTable 216 = .ok (.aload_n 0, 1) := by decide +kernel
theorem dX8_findTable_217 : decode cX8_findTable 217 = .ok (.getfield 54, 3) := by decide +kernel
theorem dX8_findTable_220 : decode cX8_findTable 220 = .ok (.bipush 12, 2) := by decide +kernel
theorem dX8_findTable_222 : decode cX8_findTable 222 = .ok (.iload_n 1, 1) := by decide +kernel
theorem dX8_findTable_223 : decode cX8_findTable 223 = .ok (.imul, 1) := by decide +kernel
theorem dX8_findTable_224 : decode cX8_findTable 224 = .ok (.iload_n 2, 1) := by decide +kernel
theorem dX8_findTable_225 : decode cX8_findTable 225 = .ok (.iadd, 1) := by decide +kernel
theorem dX8_findTable_226 : decode cX8_findTable 226 = .ok (.iload_n 3, 1) := by decide +kernel
theorem dX8_findTable_227 : decode cX8_findTable 227 = .ok (.iastore, 1) := by decide +kernel
theorem dX8_findTable_228 : decode cX8_findTable 228 = .ok (.iinc 2 1, 3) := by decide +kernel
theorem dX8_findTable_231 : decode cX8_findTable 231 = .ok (.goto (-84), 3) := by decide +kernel
theorem dX8_findTable_234 : decode cX8_findTable 234 = .ok (.return_, 1) := by decide +kernel
theorem dX8_findSky_0 : decode cX8_findSky 0 = .ok (.sipush 1000, 3) := by decide +kernel
theorem dX8_findSky_3 : decode cX8_findSky 3 = .ok (.istore_n 1, 1) := by decide +kernel
theorem dX8_findSky_4 : decode cX8_findSky 4 = .ok (.iconst 0, 1) := by decide +kernel
theorem dX8_findSky_5 : decode cX8_findSky 5 = .ok (.istore_n 2, 1) := by decide +kernel
theorem dX8_findSky_6 : decode cX8_findSky 6 = .ok (.iload_n 2, 1) := by decide +kernel
theorem dX8_findSky_7 : decode cX8_findSky 7 = .ok (.iconst 3, 1) := by decide +kernel
theorem dX8_findSky_8 : decode cX8_findSky 8 = .ok (.if_icmp .ge 64, 3) := by decide +kernel
theorem dX8_findSky_11 : decode cX8_findSky 11 = .ok (.iconst 0, 1) := by decide +kernel
theorem dX8_findSky_12 : decode cX8_findSky 12 = .ok (.istore_n 3, 1) := by decide +kernel
theorem dX8_findSky_13 : decode cX8_findSky 13 = .ok (.iconst 0, 1) := by decide +kernel
theorem dX8_findSky_14 : decode cX8_findSky 14 = .ok (.istore 4, 2) := by decide +kernel
theorem dX8_findSky_16 : decode cX8_findSky 16 = .ok (.iload 4, 2) := by decide +kernel
theorem dX8_findSky_18 : decode cX8_findSky 18 = .ok (.aload_n 0, 1) := by decide +kernel
theorem dX8_findSky_19 : decode cX8_findSky 19 = .ok (.getfield 154, 3) := by decide +kernel
theorem dX8_findSky_22 : decode cX8_findSky 22 = .ok (.if_icmp .ge 23, 3) := by decide +kernel
theorem dX8_findSky_25 : decode cX8_findSky 25 = .ok (.iload_n 3, 1) := by decide +kernel
theorem dX8_findSky_26 : decode cX8_findSky 26 = .ok (.aload_n 0, 1) := by decide +kernel
theorem dX8_findSky_27 : decode cX8_findSky 27 = .ok (.getfield 51, 3) := by decide +kernel
theorem dX8_findSky_30 : decode cX8_findSky 30 = .ok (.iconst 3, 1) := by decide +kernel
theorem dX8_findSky_31 : decode cX8_findSky 31 = .ok (.iload 4, 2) := by decide +kernel
theorem dX8_findSky_33 : decode cX8_findSky 33 = .ok (.imul, 1) := by decide +kernel
theorem dX8_findSky_34 : decode cX8_findSky 34 = .ok (.iload_n 2, 1) := by decide +kernel
theorem dX8_findSky_35 : decode cX8_findSky 35 = .ok (.iadd, 1) := by decide +kernel
theorem dX8_findSky_36 : decode cX8_findSky 36 = .ok (.iaload, 1) := by decide +kernel
theorem dX8_findSky_37 : decode cX8_findSky 37 = .ok (.iadd, 1) := by decide +kernel
theorem dX8_findSky_38 : decode cX8_findSky 38 = .ok (.istore_n 3, 1) := by decide +kernel
theorem dX8_findSky_39 : decode cX8_findSky 39 = .ok (.iinc 4 1, 3) := by decide +kernel
theorem dX8_findSky_42 : decode cX8_findSky 42 = .ok (.goto (-26), 3) := by decide +kernel
theorem dX8_findSky_45 : decode cX8_findSky 45 = .ok (.aload_n 0, 1) := by decide +kernel
theorem dX8_findSky_46 : decode cX8_findSky 46 = .ok (.getfield 64, 3) := by decide +kernel
theorem dX8_findSky_49 : decode cX8_findSky 49 = .ok (.iload_n 2, 1) := by decide +kernel
theorem dX8_findSky_50 : decode cX8_findSky 50 = .ok (.iload_n 3, 1) := by decide +kernel
theorem dX8_findSky_51 : decode cX8_findSky 51 = .ok (.aload_n 0, 1) := by decide +kernel
theorem dX8_findSky_52 : decode cX8_findSky 52 = .ok (.getfield 154, 3) := by decide +kernel
theorem dX8_findSky_55 : decode cX8_findSky 55 = .ok (.idiv, 1) := by decide +kernel
theorem dX8_findSky_56 : decode cX8_findSky 56 = .ok (.iastore, 1) := by decide +kernel
theorem dX8_findSky_57 : decode cX8_findSky 57 = .ok (.iload_n 1, 1) := by decide +kernel
theorem dX8_findSky_58 : decode cX8_findSky 58 = .ok (.aload_n 0, 1) := by decide +kernel
theorem dX8_findSky_59 : decode cX8_findSky 59 = .ok (.getfield 64, 3) := by decide +kernel
theorem dX8_findSky_62 : decode cX8_findSky 62 = .ok (.iload_n 2, 1) := by decide +kernel
theorem dX8_findSky_63 : decode cX8_findSky 63 = .ok (.iaload, 1) := by decide +kernel
theorem dX8_findSky_64 : decode cX8_findSky 64 = .ok (.isub, 1) := by decide +kernel
theorem dX8_findSky_65 : decode cX8_findSky 65 = .ok (.istore_n 1, 1) := by decide +kernel
theorem dX8_findSky_66 : decode cX8_findSky 66 = .ok (.iinc 2 1, 3) := by decide +kernel
theorem dX8_findSky_69 : decode cX8_findSky 69 = .ok (.goto (-63), 3) := by decide +kernel
theorem dX8_findSky_72 : decode cX8_findSky 72 = .ok (.aload_n 0, 1) := by decide +kernel
theorem dX8_findSky_73 : decode cX8_findSky 73 = .ok (.getfield 64, 3) := by decide +kernel
theorem dX8_findSky_76 : decode cX8_findSky 76 = .ok (.iconst 0, 1) := by decide +kernel
theorem dX8_findSky_77 : decode cX8_findSky 77 = .ok (.dup2, 1) := by decide +kernel
theorem dX8_findSky_78 : decode cX8_findSky 78 = .ok (.iaload, 1) := by decide +kernel
theorem dX8_findSky_79 : decode cX8_findSky 79 = .ok (.iload_n 1, 1) := by decide +kernel
theorem dX8_findSky_80 : decode cX8_findSky 80 = .ok (.iadd, 1) := by decide +kernel
theorem dX8_findSky_81 : decode cX8_findSky 81 = .ok (.iastore, 1) := by decide +kernel
theorem dX8_findSky_82 : decode cX8_findSky 82 = .ok (.iconst 0, 1) := by decide +kernel
theorem dX8_findSky_83 : decode cX8_findSky 83 = .ok (.istore_n 2, 1) := by decide +kernel
theorem dX8_findSky_84 : decode cX8_findSky 84 = .ok (.iload_n 2, 1) := by decide +kernel
theorem dX8_findSky_85 : decode cX8_findSky 85 = .ok (.iconst 3, 1) := by decide +kernel
theorem dX8_findSky_86 : decode cX8_findSky 86 = .ok (.if_icmp .ge 63, 3) := by decide +kernel
theorem dX8_findSky_89 : decode cX8_findSky 89 = .ok (.aload_n 0, 1) := by decide +kernel
theorem dX8_findSky_90 : decode cX8_findSky 90 = .ok (.getfield 64, 3) := by decide +kernel
theorem dX8_findSky_93 : decode cX8_findSky 93 = .ok (.iload_n 2, 1) := by decide +kernel
theorem dX8_findSky_94 : decode cX8_findSky 94 = .ok (.iaload, 1) := by decide +kernel
theorem dX8_findSky_95 : decode cX8_findSky 95 = .ok (.iconst 1, 1) := by decide +kernel
theorem dX8_findSky_96 : decode cX8_findSky 96 = .ok (.if_icmp .ge 7, 3) := by decide +kernel
theorem dX8_findSky_99 : decode cX8_findSky 99 = .ok (.iconst 1, 1) := by decide +kernel
theorem dX8_findSky_100 : decode cX8_findSky 100 = .ok (.goto 9, 3) := by decide +kernel
theorem dX8_findSky_103 : decode cX8_findSky 103 = .ok (.aload_n 0, 1) := by decide +kernel
theorem dX8_findSky_104 : decode cX8_findSky 104 = .ok (.getfield 64, 3) := by decide +kernel
theorem dX8_findSky_107 : decode cX8_findSky 107 = .ok (.iload_n 2, 1) := by decide +kernel
theorem dX8_findSky_108 : decode cX8_findSky 108 = .ok (.iaload, 1) := by decide +kernel
theorem dX8_findSky_109 : decode cX8_findSky 109 = .ok (.istore_n 3, 1) := by decide +kernel
theorem dX8_findSky_110 : decode cX8_findSky 110 = .ok (.aload_n 0, 1) := by decide +kernel
theorem dX8_findSky_111 : decode cX8_findSky 111 = .ok (.aload_n 0, 1) := by decide +kernel
theorem dX8_findSky_112 : decode cX8_findSky 112 = .ok (.getfield 249, 3) := by decide +kernel
theorem dX8_findSky_115 : decode cX8_findSky 115 = .ok (.ifCond .ne 13, 3) := by decide +kernel
theorem dX8_findSky_118 : decode cX8_findSky 118 = .ok (.aload_n 0, 1) := by decide +kernel
theorem dX8_findSky_119 : decode cX8_findSky 119 = .ok (.getfield 57, 3) := by decide +kernel
theorem dX8_findSky_122 : decode cX8_findSky 122 = .ok (.iload_n 2, 1) := by decide +kernel
theorem dX8_findSky_123 : decode cX8_findSky 123 = .ok (.iaload, 1) := by decide +kernel
theorem dX8_findSky_124 : decode cX8_findSky 124 = .ok (.iload_n 3, 1) := by decide +kernel
theorem dX8_findSky_125 : decode cX8_findSky 125 = .ok (.if_icmp .eq 7, 3) := by decide +kernel
theorem dX8_findSky_128 : decode cX8_findSky 128 = .ok (.iconst 1, 1) := by decide +kernel
theorem dX8_findSky_129 : decode cX8_findSky 129 = .ok (.goto 4, 3) := by decide +kernel
theorem dX8_findSky_132 : decode cX8_findSky 132 = .ok (.iconst 0, 1) := by decide +kernel
theorem dX8_findSky_133 : decode cX8_findSky 133 = .ok (.putfield 249, 3) := by decide +kernel
theorem dX8_findSky_136 : decode cX8_findSky 136 = .ok (.aload_n 0, 1) := by decide +kernel
theorem dX8_findSky_137 : decode cX8_findSky 137 = .ok (.getfield 57, 3) := by decide +kernel
theorem dX8_findSky_140 : decode cX8_findSky 140 = .ok (.iload_n 2, 1) := by decide +kernel
theorem dX8_findSky_141 : decode cX8_findSky 141 = .ok (.iload_n 3, 1) := by decide +kernel
theorem dX8_findSky_142 : decode cX8_findSky 142 = .ok (.iastore, 1) := by decide +kernel
theorem dX8_findSky_143 : decode cX8_findSky 143 = .ok (.iinc 2 1, 3) := by decide +kernel
theorem dX8_findSky_146 : decode cX8_findSky 146 = .ok (.goto (-62), 3) := by decide +kernel
theorem dX8_findSky_149 : decode cX8_findSky 149 = .ok (.return_, 1) := by decide +kernel
theorem dX8_reckon_0 : decode cX8_reckon 0 = .ok (.aload_n 0, 1) := by decide +kernel
theorem dX8_reckon_1 : decode cX8_reckon 1 = .ok (.invokevirtual 92, 3) := by decide +kernel
theorem dX8_reckon_4 : decode cX8_reckon 4 = .ok (.aload_n 0, 1) := by decide +kernel
theorem dX8_reckon_5 : decode cX8_reckon 5 = .ok (.iconst 0, 1) := by decide +kernel
theorem dX8_reckon_6 : decode cX8_reckon 6 = .ok (.putfield 204, 3) := by decide +kernel
theorem dX8_reckon_9 : decode cX8_reckon 9 = .ok (.aload_n 0, 1) := by decide +kernel
theorem dX8_reckon_10 : decode cX8_reckon 10 = .ok (.iconst 1, 1) := by decide +kernel
theorem dX8_reckon_11 : decode cX8_reckon 11 = .ok (.putfield 249, 3) := by decide +kernel
theorem dX8_reckon_14 : decode cX8_reckon 14 = .ok (.aload_n 0, 1) := by decide +kernel
theorem dX8_reckon_15 : decode cX8_reckon 15 = .ok (.getfield 249, 3) := by decide +kernel
theorem dX8_reckon_18 : decode cX8_reckon 18 = .ok (.ifCond .eq 83, 3) := by decide +kernel
theorem dX8_reckon_21 : decode cX8_reckon 21 = .ok (.aload_n 0, 1) := by decide +kernel
theorem dX8_reckon_22 : decode cX8_reckon 22 = .ok (.getfield 204, 3) := by decide +kernel
theorem dX8_reckon_25 : decode cX8_reckon 25 = .ok (.bipush 40, 2) := by decide +kernel
theorem dX8_reckon_27 : decode cX8_reckon 27 = .ok (.if_icmp .ge 74, 3) := by decide +kernel
theorem dX8_reckon_30 : decode cX8_reckon 30 = .ok (.aload_n 0, 1) := by decide +kernel
theorem dX8_reckon_31 : decode cX8_reckon 31 = .ok (.iconst 0, 1) := by decide +kernel
theorem dX8_reckon_32 : decode cX8_reckon 32 = .ok (.putfield 249, 3) := by decide +kernel
theorem dX8_reckon_35 : decode cX8_reckon 35 = .ok (.aload_n 0, 1) := by decide +kernel
theorem dX8_reckon_36 : decode cX8_reckon 36 = .ok (.dup, 1) := by decide +kernel
theorem dX8_reckon_37 : decode cX8_reckon 37 = .ok (.getfield 204, 3) := by decide +kernel
theorem dX8_reckon_40 : decode cX8_reckon 40 = .ok (.iconst 1, 1) := by decide +kernel
theorem dX8_reckon_41 : decode cX8_reckon 41 = .ok (.iadd, 1) := by decide +kernel
theorem dX8_reckon_42 : decode cX8_reckon 42 = .ok (.putfield 204, 3) := by decide +kernel
theorem dX8_reckon_45 : decode cX8_reckon 45 = .ok (.iconst 0, 1) := by decide +kernel
theorem dX8_reckon_46 : decode cX8_reckon 46 = .ok (.istore_n 1, 1) := by decide +kernel
theorem dX8_reckon_47 : decode cX8_reckon 47 = .ok (.iload_n 1, 1) := by decide +kernel
theorem dX8_reckon_48 : decode cX8_reckon 48 = .ok (.aload_n 0, 1) := by decide +kernel
theorem dX8_reckon_49 : decode cX8_reckon 49 = .ok (.getfield 154, 3) := by decide +kernel
theorem dX8_reckon_52 : decode cX8_reckon 52 = .ok (.if_icmp .ge 14, 3) := by decide +kernel
theorem dX8_reckon_55 : decode cX8_reckon 55 = .ok (.aload_n 0, 1) := by decide +kernel
theorem dX8_reckon_56 : decode cX8_reckon 56 = .ok (.iload_n 1, 1) := by decide +kernel
theorem dX8_reckon_57 : decode cX8_reckon 57 = .ok (.invokevirtual 259, 3) := by decide +kernel
theorem dX8_reckon_60 : decode cX8_reckon 60 = .ok (.iinc 1 1, 3) := by decide +kernel
theorem dX8_reckon_63 : decode cX8_reckon 63 = .ok (.goto (-16), 3) := by decide +kernel
theorem dX8_reckon_66 : decode cX8_reckon 66 = .ok (.iconst 0, 1) := by decide +kernel
theorem dX8_reckon_67 : decode cX8_reckon 67 = .ok (.istore_n 1, 1) := by decide +kernel
theorem dX8_reckon_68 : decode cX8_reckon 68 = .ok (.iload_n 1, 1) := by decide +kernel
theorem dX8_reckon_69 : decode cX8_reckon 69 = .ok (.aload_n 0, 1) := by decide +kernel
theorem dX8_reckon_70 : decode cX8_reckon 70 = .ok (.getfield 165, 3) := by decide +kernel
theorem dX8_reckon_73 : decode cX8_reckon 73 = .ok (.if_icmp .ge 14, 3) := by decide +kernel
theorem dX8_reckon_76 : decode cX8_reckon 76 = .ok (.aload_n 0, 1) := by decide +kernel
theorem dX8_reckon_77 : decode cX8_reckon 77 = .ok (.iload_n 1, 1) := by decide +kernel
theorem dX8_reckon_78 : decode cX8_reckon 78 = .ok (.invokevirtual 263, 3) := by decide +kernel
theorem dX8_reckon_81 : decode cX8_reckon 81 = .ok (.iinc 1 1, 3) := by decide +kernel
theorem dX8_reckon_84 : decode cX8_reckon 84 = .ok (.goto (-16), 3) := by decide +kernel
theorem dX8_reckon_87 : decode cX8_reckon 87 = .ok (.aload_n 0, 1) := by decide +kernel
theorem dX8_reckon_88 : decode cX8_reckon 88 = .ok (.getfield 154, 3) := by decide +kernel
theorem dX8_reckon_91 : decode cX8_reckon 91 = .ok (.ifCond .le (-77), 3) := by decide +kernel
theorem dX8_reckon_94 : decode cX8_reckon 94 = .ok (.aload_n 0, 1) := by decide +kernel
theorem dX8_reckon_95 : decode cX8_reckon 95 = .ok (.invokevirtual 266, 3) := by decide +kernel
theorem dX8_reckon_98 : decode cX8_reckon 98 = .ok (.goto (-84), 3) := by decide +kernel
theorem dX8_reckon_101 : decode cX8_reckon 101 = .ok (.aload_n 0, 1) := by decide +kernel
theorem dX8_reckon_102 : decode cX8_reckon 102 = .ok (.getfield 249, 3) := by decide +kernel
theorem dX8_reckon_105 : decode cX8_reckon 105 = .ok (.ifCond .eq 8, 3) := by decide +kernel
theorem dX8_reckon_108 : decode cX8_reckon 108 = .ok (.bipush (-41), 2) := by decide +kernel
theorem dX8_reckon_110 : decode cX8_reckon 110 = .ok (.goto 7, 3) := by decide +kernel
theorem dX8_reckon_113 : decode cX8_reckon 113 = .ok (.aload_n 0, 1) := by decide +kernel
theorem dX8_reckon_114 : decode cX8_reckon 114 = .ok (.getfield 204, 3) := by decide +kernel
theorem dX8_reckon_117 : decode cX8_reckon 117 = .ok (.ireturn, 1) := by decide +kernel
theorem dX8_odds_0 : decode cX8_odds 0 = .ok (.aload_n 0, 1) := by decide +kernel
theorem dX8_odds_1 : decode cX8_odds 1 = .ok (.iload_n 1, 1) := by decide +kernel
theorem dX8_odds_2 : decode cX8_odds 2 = .ok (.invokevirtual 168, 3) := by decide +kernel
theorem dX8_odds_5 : decode cX8_odds 5 = .ok (.ifCond .eq 7, 3) := by decide +kernel
theorem dX8_odds_8 : decode cX8_odds 8 = .ok (.sipush (-1001), 3) := by decide +kernel
theorem dX8_odds_11 : decode cX8_odds 11 = .ok (.ireturn, 1) := by decide +kernel
theorem dX8_odds_12 : decode cX8_odds 12 = .ok (.iload_n 2, 1) := by decide +kernel
theorem dX8_odds_13 : decode cX8_odds 13 = .ok (.i2l, 1) := by decide +kernel
theorem dX8_odds_14 : decode cX8_odds 14 = .ok (.lconst 0, 1) := by decide +kernel
theorem dX8_odds_15 : decode cX8_odds 15 = .ok (.ldc2_w 157, 3) := by decide +kernel
theorem dX8_odds_18 : decode cX8_odds 18 = .ok (.invokestatic 100, 3) := by decide +kernel
theorem dX8_odds_21 : decode cX8_odds 21 = .ok (.ifCond .eq 16, 3) := by decide +kernel
theorem dX8_odds_24 : decode cX8_odds 24 = .ok (.aload_n 0, 1) := by decide +kernel
theorem dX8_odds_25 : decode cX8_odds 25 = .ok (.getfield 51, 3) := by decide +kernel
theorem dX8_odds_28 : decode cX8_odds 28 = .ok (.iconst 3, 1) := by decide +kernel
theorem dX8_odds_29 : decode cX8_odds 29 = .ok (.iload_n 1, 1) := by decide +kernel
theorem dX8_odds_30 : decode cX8_odds 30 = .ok (.imul, 1) := by decide +kernel
theorem dX8_odds_31 : decode cX8_odds 31 = .ok (.iload_n 2, 1) := by decide +kernel
theorem dX8_odds_32 : decode cX8_odds 32 = .ok (.iadd, 1) := by decide +kernel
theorem dX8_odds_33 : decode cX8_odds 33 = .ok (.iaload, 1) := by decide +kernel
theorem dX8_odds_34 : decode cX8_odds 34 = .ok (.goto 6, 3) := by decide +kernel
theorem dX8_odds_37 : decode cX8_odds 37 = .ok (.sipush (-1002), 3) := by decide +kernel
theorem dX8_odds_40 : decode cX8_odds 40 = .ok (.ireturn, 1) := by decide +kernel
theorem dX8_table_0 : decode cX8_table 0 = .ok (.aload_n 0, 1) := by decide +kernel
theorem dX8_table_1 : decode cX8_table 1 = .ok (.iload_n 1, 1) := by decide +kernel
theorem dX8_table_2 : decode cX8_table 2 = .ok (.invokevirtual 217, 3) := by decide +kernel
theorem dX8_table_5 : decode cX8_table 5 = .ok (.ifCond .eq 7, 3) := by decide +kernel
theorem dX8_table_8 : decode cX8_table 8 = .ok (.sipush (-1001), 3) := by decide +kernel
theorem dX8_table_11 : decode cX8_table 11 = .ok (.ireturn, 1) := by decide +kernel
theorem dX8_table_12 : decode cX8_table 12 = .ok (.iload_n 2, 1) := by decide +kernel
theorem dX8_table_13 : decode cX8_table 13 = .ok (.i2l, 1) := by decide +kernel
theorem dX8_table_14 : decode cX8_table 14 = .ok (.lconst 0, 1) := by decide +kernel
theorem dX8_table_15 : decode cX8_table 15 = .ok (.ldc2_w 157, 3) := by decide +kernel
theorem dX8_table_18 : decode cX8_table 18 = .ok (.invokestatic 100, 3) := by decide +kernel
theorem dX8_table_21 : decode cX8_table 21 = .ok (.ifCond .eq 33, 3) := by decide +kernel
theorem dX8_table_24 : decode cX8_table 24 = .ok (.iload_n 3, 1) := by decide +kernel
theorem dX8_table_25 : decode cX8_table 25 = .ok (.i2l, 1) := by decide +kernel
theorem dX8_table_26 : decode cX8_table 26 = .ok (.lconst 0, 1) := by decide +kernel
theorem dX8_table_27 : decode cX8_table 27 = .ok (.ldc2_w 220, 3) := by decide +kernel
theorem dX8_table_30 : decode cX8_table 30 = .ok (.invokestatic 100, 3) := by decide +kernel
theorem dX8_table_33 : decode cX8_table 33 = .ok (.ifCond .eq 21, 3) := by decide +kernel
theorem dX8_table_36 : decode cX8_table 36 = .ok (.aload_n 0, 1) := by decide +kernel
theorem dX8_table_37 : decode cX8_table 37 = .ok (.getfield 54, 3) := by decide +kernel
theorem dX8_table_40 : decode cX8_table 40 = .ok (.bipush 12, 2) := by decide +kernel
theorem dX8_table_42 : decode cX8_table 42 = .ok (.iload_n 1, 1) := by decide +kernel
theorem dX8_table_43 : decode cX8_table 43 = .ok (.imul, 1) := by decide +kernel
theorem dX8_table_44 : decode cX8_table 44 = .ok (.iconst 4, 1) := by decide +kernel
theorem dX8_table_45 : decode cX8_table 45 = .ok (.iload_n 2, 1) := by decide +kernel
theorem dX8_table_46 : decode cX8_table 46 = .ok (.imul, 1) := by decide +kernel
theorem dX8_table_47 : decode cX8_table 47 = .ok (.iadd, 1) := by decide +kernel
theorem dX8_table_48 : decode cX8_table 48 = .ok (.iload_n 3, 1) := by decide +kernel
theorem dX8_table_49 : decode cX8_table 49 = .ok (.iadd, 1) := by decide +kernel
theorem dX8_table_50 : decode cX8_table 50 = .ok (.iaload, 1) := by decide +kernel
theorem dX8_table_51 : decode cX8_table 51 = .ok (.goto 6, 3) := by decide +kernel
theorem dX8_table_54 : decode cX8_table 54 = .ok (.sipush (-1002), 3) := by decide +kernel
theorem dX8_table_57 : decode cX8_table 57 = .ok (.ireturn, 1) := by decide +kernel
theorem dX8_sky_0 : decode cX8_sky 0 = .ok (.iload_n 1, 1) := by decide +kernel
theorem dX8_sky_1 : decode cX8_sky 1 = .ok (.i2l, 1) := by decide +kernel
theorem dX8_sky_2 : decode cX8_sky 2 = .ok (.lconst 0, 1) := by decide +kernel
theorem dX8_sky_3 : decode cX8_sky 3 = .ok (.ldc2_w 157, 3) := by decide +kernel
theorem dX8_sky_6 : decode cX8_sky 6 = .ok (.invokestatic 100, 3) := by decide +kernel
theorem dX8_sky_9 : decode cX8_sky 9 = .ok (.ifCond .eq 12, 3) := by decide +kernel
theorem dX8_sky_12 : decode cX8_sky 12 = .ok (.aload_n 0, 1) := by decide +kernel
theorem dX8_sky_13 : decode cX8_sky 13 = .ok (.getfield 57, 3) := by decide +kernel
theorem dX8_sky_16 : decode cX8_sky 16 = .ok (.iload_n 1, 1) := by decide +kernel
theorem dX8_sky_17 : decode cX8_sky 17 = .ok (.iaload, 1) := by decide +kernel
theorem dX8_sky_18 : decode cX8_sky 18 = .ok (.goto 6, 3) := by decide +kernel
theorem dX8_sky_21 : decode cX8_sky 21 = .ok (.sipush (-1002), 3) := by decide +kernel
theorem dX8_sky_24 : decode cX8_sky 24 = .ok (.ireturn, 1) := by decide +kernel
theorem dX8_far_0 : decode cX8_far 0 = .ok (.iload_n 1, 1) := by decide +kernel
theorem dX8_far_1 : decode cX8_far 1 = .ok (.i2l, 1) := by decide +kernel
theorem dX8_far_2 : decode cX8_far 2 = .ok (.lconst 0, 1) := by decide +kernel
theorem dX8_far_3 : decode cX8_far 3 = .ok (.ldc2_w 269, 3) := by decide +kernel
theorem dX8_far_6 : decode cX8_far 6 = .ok (.invokestatic 100, 3) := by decide +kernel
theorem dX8_far_9 : decode cX8_far 9 = .ok (.ifCond .eq 15, 3) := by decide +kernel
theorem dX8_far_12 : decode cX8_far 12 = .ok (.iload_n 2, 1) := by decide +kernel
theorem dX8_far_13 : decode cX8_far 13 = .ok (.i2l, 1) := by decide +kernel
theorem dX8_far_14 : decode cX8_far 14 = .ok (.lconst 0, 1) := by decide +kernel
theorem dX8_far_15 : decode cX8_far 15 = .ok (.ldc2_w 157, 3) := by decide +kernel
theorem dX8_far_18 : decode cX8_far 18 = .ok (.invokestatic 100, 3) := by decide +kernel
theorem dX8_far_21 : decode cX8_far 21 = .ok (.ifCond .ne 7, 3) := by decide +kernel
theorem dX8_far_24 : decode cX8_far 24 = .ok (.sipush (-1002), 3) := by decide +kernel
theorem dX8_far_27 : decode cX8_far 27 = .ok (.ireturn, 1) := by decide +kernel
theorem dX8_far_28 : decode cX8_far 28 = .ok (.iconst 0, 1) := by decide +kernel
theorem dX8_far_29 : decode cX8_far 29 = .ok (.istore_n 3, 1) := by decide +kernel
theorem dX8_far_30 : decode cX8_far 30 = .ok (.iconst 0, 1) := by decide +kernel
theorem dX8_far_31 : decode cX8_far 31 = .ok (.istore 4, 2) := by decide +kernel
theorem dX8_far_33 : decode cX8_far 33 = .ok (.iconst 0, 1) := by decide +kernel
theorem dX8_far_34 : decode cX8_far 34 = .ok (.istore 5, 2) := by decide +kernel
theorem dX8_far_36 : decode cX8_far 36 = .ok (.iload 5, 2) := by decide +kernel
theorem dX8_far_38 : decode cX8_far 38 = .ok (.aload_n 0, 1) := by decide +kernel
theorem dX8_far_39 : decode cX8_far 39 = .ok (.getfield 154, 3) := by decide +kernel
theorem dX8_far_42 : decode cX8_far 42 = .ok (.if_icmp .ge 53, 3) := by decide +kernel
theorem dX8_far_45 : decode cX8_far 45 = .ok (.iload_n 3, 1) := by decide +kernel
theorem dX8_far_46 : decode cX8_far 46 = .ok (.aload_n 0, 1) := by decide +kernel
theorem dX8_far_47 : decode cX8_far 47 = .ok (.getfield 26, 3) := by decide +kernel
theorem dX8_far_50 : decode cX8_far 50 = .ok (.iload 5, 2) := by decide +kernel
theorem dX8_far_52 : decode cX8_far 52 = .ok (.iaload, 1) := by decide +kernel
theorem dX8_far_53 : decode cX8_far 53 = .ok (.aload_n 0, 1) := by decide +kernel
theorem dX8_far_54 : decode cX8_far 54 = .ok (.getfield 51, 3) := by decide +kernel
theorem dX8_far_57 : decode cX8_far 57 = .ok (.iconst 3, 1) := by decide +kernel
theorem dX8_far_58 : decode cX8_far 58 = .ok (.iload 5, 2) := by decide +kernel
theorem dX8_far_60 : decode cX8_far 60 = .ok (.imul, 1) := by decide +kernel
theorem dX8_far_61 : decode cX8_far 61 = .ok (.iload_n 2, 1) := by decide +kernel
theorem dX8_far_62 : decode cX8_far 62 = .ok (.iadd, 1) := by decide +kernel
theorem dX8_far_63 : decode cX8_far 63 = .ok (.iaload, 1) := by decide +kernel
theorem dX8_far_64 : decode cX8_far 64 = .ok (.imul, 1) := by decide +kernel
theorem dX8_far_65 : decode cX8_far 65 = .ok (.iadd, 1) := by decide +kernel
theorem dX8_far_66 : decode cX8_far 66 = .ok (.istore_n 3, 1) := by decide +kernel
theorem dX8_far_67 : decode cX8_far 67 = .ok (.iload 4, 2) := by decide +kernel
theorem dX8_far_69 : decode cX8_far 69 = .ok (.aload_n 0, 1) := by decide +kernel
theorem dX8_far_70 : decode cX8_far 70 = .ok (.getfield 26, 3) := by decide +kernel
theorem dX8_far_73 : decode cX8_far 73 = .ok (.iload 5, 2) := by decide +kernel
theorem dX8_far_75 : decode cX8_far 75 = .ok (.iaload, 1) := by decide +kernel
theorem dX8_far_76 : decode cX8_far 76 = .ok (.aload_n 0, 1) := by decide +kernel
theorem dX8_far_77 : decode cX8_far 77 = .ok (.getfield 51, 3) := by decide +kernel
theorem dX8_far_80 : decode cX8_far 80 = .ok (.iconst 3, 1) := by decide +kernel
theorem dX8_far_81 : decode cX8_far 81 = .ok (.iload 5, 2) := by decide +kernel
theorem dX8_far_83 : decode cX8_far 83 = .ok (.imul, 1) := by decide +kernel
theorem dX8_far_84 : decode cX8_far 84 = .ok (.iaload, 1) := by decide +kernel
theorem dX8_far_85 : decode cX8_far 85 = .ok (.imul, 1) := by decide +kernel
theorem dX8_far_86 : decode cX8_far 86 = .ok (.iadd, 1) := by decide +kernel
theorem dX8_far_87 : decode cX8_far 87 = .ok (.istore 4, 2) := by decide +kernel
theorem dX8_far_89 : decode cX8_far 89 = .ok (.iinc 5 1, 3) := by decide +kernel
theorem dX8_far_92 : decode cX8_far 92 = .ok (.goto (-56), 3) := by decide +kernel
theorem dX8_far_95 : decode cX8_far 95 = .ok (.iload 4, 2) := by decide +kernel
theorem dX8_far_97 : decode cX8_far 97 = .ok (.iload_n 1, 1) := by decide +kernel
theorem dX8_far_98 : decode cX8_far 98 = .ok (.imul, 1) := by decide +kernel
theorem dX8_far_99 : decode cX8_far 99 = .ok (.sipush 200, 3) := by decide +kernel
theorem dX8_far_102 : decode cX8_far 102 = .ok (.idiv, 1) := by decide +kernel
theorem dX8_far_103 : decode cX8_far 103 = .ok (.istore 5, 2) := by decide +kernel
theorem dX8_far_105 : decode cX8_far 105 = .ok (.iload_n 2, 1) := by decide +kernel
theorem dX8_far_106 : decode cX8_far 106 = .ok (.ifCond .ne 12, 3) := by decide +kernel
theorem dX8_far_109 : decode cX8_far 109 = .ok (.iload_n 3, 1) := by decide +kernel
theorem dX8_far_110 : decode cX8_far 110 = .ok (.iconst 2, 1) := by decide +kernel
theorem dX8_far_111 : decode cX8_far 111 = .ok (.iload 5, 2) := by decide +kernel
theorem dX8_far_113 : decode cX8_far 113 = .ok (.imul, 1) := by decide +kernel
theorem dX8_far_114 : decode cX8_far 114 = .ok (.isub, 1) := by decide +kernel
theorem dX8_far_115 : decode cX8_far 115 = .ok (.goto 7, 3) := by decide +kernel
theorem dX8_far_118 : decode cX8_far 118 = .ok (.iload_n 3, 1) := by decide +kernel
theorem dX8_far_119 : decode cX8_far 119 = .ok (.iload 5, 2) := by decide +kernel
theorem dX8_far_121 : decode cX8_far 121 = .ok (.iadd, 1) := by decide +kernel
theorem dX8_far_122 : decode cX8_far 122 = .ok (.ireturn, 1) := by decide +kernel
theorem dX8_lean_0 : decode cX8_lean 0 = .ok (.aload_n 0, 1) := by decide +kernel
theorem dX8_lean_1 : decode cX8_lean 1 = .ok (.iload_n 1, 1) := by decide +kernel
theorem dX8_lean_2 : decode cX8_lean 2 = .ok (.invokevirtual 217, 3) := by decide +kernel
theorem dX8_lean_5 : decode cX8_lean 5 = .ok (.ifCond .eq 7, 3) := by decide +kernel
theorem dX8_lean_8 : decode cX8_lean 8 = .ok (.sipush (-1001), 3) := by decide +kernel
theorem dX8_lean_11 : decode cX8_lean 11 = .ok (.ireturn, 1) := by decide +kernel
theorem dX8_lean_12 : decode cX8_lean 12 = .ok (.iload_n 2, 1) := by decide +kernel
theorem dX8_lean_13 : decode cX8_lean 13 = .ok (.i2l, 1) := by decide +kernel
theorem dX8_lean_14 : decode cX8_lean 14 = .ok (.lconst 0, 1) := by decide +kernel
theorem dX8_lean_15 : decode cX8_lean 15 = .ok (.lconst 1, 1) := by decide +kernel
theorem dX8_lean_16 : decode cX8_lean 16 = .ok (.invokestatic 100, 3) := by decide +kernel
theorem dX8_lean_19 : decode cX8_lean 19 = .ok (.ifCond .ne 7, 3) := by decide +kernel
theorem dX8_lean_22 : decode cX8_lean 22 = .ok (.sipush (-1002), 3) := by decide +kernel
theorem dX8_lean_25 : decode cX8_lean 25 = .ok (.ireturn, 1) := by decide +kernel
theorem dX8_lean_26 : decode cX8_lean 26 = .ok (.iconst 0, 1) := by decide +kernel
theorem dX8_lean_27 : decode cX8_lean 27 = .ok (.istore_n 3, 1) := by decide +kernel
theorem dX8_lean_28 : decode cX8_lean 28 = .ok (.iconst 0, 1) := by decide +kernel
theorem dX8_lean_29 : decode cX8_lean 29 = .ok (.istore 4, 2) := by decide +kernel
theorem dX8_lean_31 : decode cX8_lean 31 = .ok (.iconst 0, 1) := by decide +kernel
theorem dX8_lean_32 : decode cX8_lean 32 = .ok (.istore 5, 2) := by decide +kernel
theorem dX8_lean_34 : decode cX8_lean 34 = .ok (.iload 5, 2) := by decide +kernel
theorem dX8_lean_36 : decode cX8_lean 36 = .ok (.aload_n 0, 1) := by decide +kernel
theorem dX8_lean_37 : decode cX8_lean 37 = .ok (.getfield 154, 3) := by decide +kernel
theorem dX8_lean_40 : decode cX8_lean 40 = .ok (.if_icmp .ge 137, 3) := by decide +kernel
theorem dX8_lean_43 : decode cX8_lean 43 = .ok (.aload_n 0, 1) := by decide +kernel
theorem dX8_lean_44 : decode cX8_lean 44 = .ok (.getfield 36, 3) := by decide +kernel
theorem dX8_lean_47 : decode cX8_lean 47 = .ok (.iload 5, 2) := by decide +kernel
theorem dX8_lean_49 : decode cX8_lean 49 = .ok (.iaload, 1) := by decide +kernel
theorem dX8_lean_50 : decode cX8_lean 50 = .ok (.ifCond .ge 7, 3) := by decide +kernel
theorem dX8_lean_53 : decode cX8_lean 53 = .ok (.iconst (-1), 1) := by decide +kernel
theorem dX8_lean_54 : decode cX8_lean 54 = .ok (.goto 15, 3) := by decide +kernel
theorem dX8_lean_57 : decode cX8_lean 57 = .ok (.aload_n 0, 1) := by decide +kernel
theorem dX8_lean_58 : decode cX8_lean 58 = .ok (.iload_n 1, 1) := by decide +kernel
theorem dX8_lean_59 : decode cX8_lean 59 = .ok (.aload_n 0, 1) := by decide +kernel
theorem dX8_lean_60 : decode cX8_lean 60 = .ok (.getfield 36, 3) := by decide +kernel
theorem dX8_lean_63 : decode cX8_lean 63 = .ok (.iload 5, 2) := by decide +kernel
theorem dX8_lean_65 : decode cX8_lean 65 = .ok (.iaload, 1) := by decide +kernel
theorem dX8_lean_66 : decode cX8_lean 66 = .ok (.invokevirtual 222, 3) := by decide +kernel
theorem dX8_lean_69 : decode cX8_lean 69 = .ok (.istore 6, 2) := by decide +kernel
theorem dX8_lean_71 : decode cX8_lean 71 = .ok (.aload_n 0, 1) := by decide +kernel
theorem dX8_lean_72 : decode cX8_lean 72 = .ok (.iload_n 1, 1) := by decide +kernel
theorem dX8_lean_73 : decode cX8_lean 73 = .ok (.iload 5, 2) := by decide +kernel
theorem dX8_lean_75 : decode cX8_lean 75 = .ok (.invokevirtual 222, 3) := by decide +kernel
theorem dX8_lean_78 : decode cX8_lean 78 = .ok (.istore 7, 2) := by decide +kernel
theorem dX8_lean_80 : decode cX8_lean 80 = .ok (.iload 6, 2) := by decide +kernel
theorem dX8_lean_82 : decode cX8_lean 82 = .ok (.ifCond .lt 89, 3) := by decide +kernel
theorem dX8_lean_85 : decode cX8_lean 85 = .ok (.iload 7, 2) := by decide +kernel
theorem dX8_lean_87 : decode cX8_lean 87 = .ok (.ifCond .lt 84, 3) := by decide +kernel
theorem dX8_lean_90 : decode cX8_lean 90 = .ok (.aload_n 0, 1) := by decide +kernel
theorem dX8_lean_91 : decode cX8_lean 91 = .ok (.getfield 48, 3) := by decide +kernel
theorem dX8_lean_94 : decode cX8_lean 94 = .ok (.iload 6, 2) := by decide +kernel
theorem dX8_lean_96 : decode cX8_lean 96 = .ok (.iaload, 1) := by decide +kernel
theorem dX8_lean_97 : decode cX8_lean 97 = .ok (.i2l, 1) := by decide +kernel
theorem dX8_lean_98 : decode cX8_lean 98 = .ok (.lconst 1, 1) := by decide +kernel
theorem dX8_lean_99 : decode cX8_lean 99 = .ok (.ldc2_w 157, 3) := by decide +kernel
theorem dX8_lean_102 : decode cX8_lean 102 = .ok (.invokestatic 100, 3) := by decide +kernel
theorem dX8_lean_105 : decode cX8_lean 105 = .ok (.ifCond .eq 66, 3) := by decide +kernel
theorem dX8_lean_108 : decode cX8_lean 108 = .ok (.aload_n 0, 1) := by decide +kernel
theorem dX8_lean_109 : decode cX8_lean 109 = .ok (.getfield 48, 3) := by decide +kernel
theorem dX8_lean_112 : decode cX8_lean 112 = .ok (.iload 7, 2) := by decide +kernel
theorem dX8_lean_114 : decode cX8_lean 114 = .ok (.iaload, 1) := by decide +kernel
theorem dX8_lean_115 : decode cX8_lean 115 = .ok (.i2l, 1) := by decide +kernel
theorem dX8_lean_116 : decode cX8_lean 116 = .ok (.lconst 1, 1) := by decide +kernel
theorem dX8_lean_117 : decode cX8_lean 117 = .ok (.ldc2_w 157, 3) := by decide +kernel
theorem dX8_lean_120 : decode cX8_lean 120 = .ok (.invokestatic 100, 3) := by decide +kernel
theorem dX8_lean_123 : decode cX8_lean 123 = .ok (.ifCond .eq 48, 3) := by decide +kernel
theorem dX8_lean_126 : decode cX8_lean 126 = .ok (.iinc 3 1, 3) := by decide +kernel
theorem dX8_lean_129 : decode cX8_lean 129 = .ok (.iload 4, 2) := by decide +kernel
theorem dX8_lean_131 : decode cX8_lean 131 = .ok (.aload_n 0, 1) := by decide +kernel
theorem dX8_lean_132 : decode cX8_lean 132 = .ok (.getfield 48, 3) := by decide +kernel
theorem dX8_lean_135 : decode cX8_lean 135 = .ok (.iload 6, 2) := by decide +kernel
theorem dX8_lean_137 : decode cX8_lean 137 = .ok (.iaload, 1) := by decide +kernel
theorem dX8_lean_138 : decode cX8_lean 138 = .ok (.aload_n 0, 1) := by decide +kernel
theorem dX8_lean_139 : decode cX8_lean 139 = .ok (.getfield 48, 3) := by decide +kernel
theorem dX8_lean_142 : decode cX8_lean 142 = .ok (.iload 7, 2) := by decide +kernel
theorem dX8_lean_144 : decode cX8_lean 144 = .ok (.iaload, 1) := by decide +kernel
theorem dX8_lean_145 : decode cX8_lean 145 = .ok (.if_icmp .eq 7, 3) := by decide +kernel
theorem dX8_lean_148 : decode cX8_lean 148 = .ok (.iconst 0, 1) := by decide +kernel
theorem dX8_lean_149 : decode cX8_lean 149 = .ok (.goto 19, 3) := by decide +kernel
theorem dX8_lean_152 : decode cX8_lean 152 = .ok (.aload_n 0, 1) := by decide +kernel
theorem dX8_lean_153 : decode cX8_lean 153 = .ok (.getfield 48, 3) := by decide +kernel
theorem dX8_lean_156 : decode cX8_lean 156 = .ok (.iload 6, 2) := by decide +kernel
theorem dX8_lean_158 : decode cX8_lean 158 = .ok (.iaload, 1) := by decide +kernel
theorem dX8_lean_159 : decode cX8_lean 159 = .ok (.iconst 1, 1) := by decide +kernel
theorem dX8_lean_160 : decode cX8_lean 160 = .ok (.if_icmp .ne 7, 3) := by decide +kernel
theorem dX8_lean_163 : decode cX8_lean 163 = .ok (.iconst 1, 1) := by decide +kernel
theorem dX8_lean_164 : decode cX8_lean 164 = .ok (.goto 4, 3) := by decide +kernel
theorem dX8_lean_167 : decode cX8_lean 167 = .ok (.iconst (-1), 1) := by decide +kernel
theorem dX8_lean_168 : decode cX8_lean 168 = .ok (.iadd, 1) := by decide +kernel
theorem dX8_lean_169 : decode cX8_lean 169 = .ok (.istore 4, 2) := by decide +kernel
theorem dX8_lean_171 : decode cX8_lean 171 = .ok (.iinc 5 1, 3) := by decide +kernel
theorem dX8_lean_174 : decode cX8_lean 174 = .ok (.goto (-140), 3) := by decide +kernel
theorem dX8_lean_177 : decode cX8_lean 177 = .ok (.iload_n 2, 1) := by decide +kernel
theorem dX8_lean_178 : decode cX8_lean 178 = .ok (.iconst 1, 1) := by decide +kernel
theorem dX8_lean_179 : decode cX8_lean 179 = .ok (.if_icmp .ne 7, 3) := by decide +kernel
theorem dX8_lean_182 : decode cX8_lean 182 = .ok (.iload_n 3, 1) := by decide +kernel
theorem dX8_lean_183 : decode cX8_lean 183 = .ok (.goto 22, 3) := by decide +kernel
theorem dX8_lean_186 : decode cX8_lean 186 = .ok (.iload_n 3, 1) := by decide +kernel
theorem dX8_lean_187 : decode cX8_lean 187 = .ok (.ifCond .ne 7, 3) := by decide +kernel
theorem dX8_lean_190 : decode cX8_lean 190 = .ok (.iconst (-1), 1) := by decide +kernel
theorem dX8_lean_191 : decode cX8_lean 191 = .ok (.goto 14, 3) := by decide +kernel
theorem dX8_lean_194 : decode cX8_lean 194 = .ok (.sipush 1000, 3) := by decide +kernel
theorem dX8_lean_197 : decode cX8_lean 197 = .ok (.iload 4, 2) := by decide +kernel
theorem dX8_lean_199 : decode cX8_lean 199 = .ok (.bipush 100, 2) := by decide +kernel
theorem dX8_lean_201 : decode cX8_lean 201 = .ok (.imul, 1) := by decide +kernel
theorem dX8_lean_202 : decode cX8_lean 202 = .ok (.iload_n 3, 1) := by decide +kernel
theorem dX8_lean_203 : decode cX8_lean 203 = .ok (.idiv, 1) := by decide +kernel
theorem dX8_lean_204 : decode cX8_lean 204 = .ok (.iadd, 1) := by decide +kernel
theorem dX8_lean_205 : decode cX8_lean 205 = .ok (.ireturn, 1) := by decide +kernel
theorem dX8_agreed_0 : decode cX8_agreed 0 = .ok (.aload_n 0, 1) := by decide +kernel
theorem dX8_agreed_1 : decode cX8_agreed 1 = .ok (.iload_n 1, 1) := by decide +kernel
theorem dX8_agreed_2 : decode cX8_agreed 2 = .ok (.invokevirtual 217, 3) := by decide +kernel
theorem dX8_agreed_5 : decode cX8_agreed 5 = .ok (.ifCond .ne 16, 3) := by decide +kernel
theorem dX8_agreed_8 : decode cX8_agreed 8 = .ok (.aload_n 0, 1) := by decide +kernel
theorem dX8_agreed_9 : decode cX8_agreed 9 = .ok (.iload_n 2, 1) := by decide +kernel
theorem dX8_agreed_10 : decode cX8_agreed 10 = .ok (.invokevirtual 217, 3) := by decide +kernel
theorem dX8_agreed_13 : decode cX8_agreed 13 = .ok (.ifCond .ne 8, 3) := by decide +kernel
theorem dX8_agreed_16 : decode cX8_agreed 16 = .ok (.iload_n 1, 1) := by decide +kernel
theorem dX8_agreed_17 : decode cX8_agreed 17 = .ok (.iload_n 2, 1) := by decide +kernel
theorem dX8_agreed_18 : decode cX8_agreed 18 = .ok (.if_icmp .ne 7, 3) := by decide +kernel
theorem dX8_agreed_21 : decode cX8_agreed 21 = .ok (.sipush (-1001), 3) := by decide +kernel
theorem dX8_agreed_24 : decode cX8_agreed 24 = .ok (.ireturn, 1) := by decide +kernel
theorem dX8_agreed_25 : decode cX8_agreed 25 = .ok (.iload_n 3, 1) := by decide +kernel
theorem dX8_agreed_26 : decode cX8_agreed 26 = .ok (.i2l, 1) := by decide +kernel
theorem dX8_agreed_27 : decode cX8_agreed 27 = .ok (.lconst 0, 1) := by decide +kernel
theorem dX8_agreed_28 : decode cX8_agreed 28 = .ok (.ldc2_w 157, 3) := by decide +kernel
theorem dX8_agreed_31 : decode cX8_agreed 31 = .ok (.invokestatic 100, 3) := by decide +kernel
theorem dX8_agreed_34 : decode cX8_agreed 34 = .ok (.ifCond .ne 7, 3) := by decide +kernel
theorem dX8_agreed_37 : decode cX8_agreed 37 = .ok (.sipush (-1002), 3) := by decide +kernel
theorem dX8_agreed_40 : decode cX8_agreed 40 = .ok (.ireturn, 1) := by decide +kernel
theorem dX8_agreed_41 : decode cX8_agreed 41 = .ok (.iconst 0, 1) := by decide +kernel
theorem dX8_agreed_42 : decode cX8_agreed 42 = .ok (.istore 4, 2) := by decide +kernel
theorem dX8_agreed_44 : decode cX8_agreed 44 = .ok (.iconst 0, 1) := by decide +kernel
theorem dX8_agreed_45 : decode cX8_agreed 45 = .ok (.istore 5, 2) := by decide +kernel
theorem dX8_agreed_47 : decode cX8_agreed 47 = .ok (.iconst 0, 1) := by decide +kernel
theorem dX8_agreed_48 : decode cX8_agreed 48 = .ok (.istore 6, 2) := by decide +kernel
theorem dX8_agreed_50 : decode cX8_agreed 50 = .ok (.iload 6, 2) := by decide +kernel
theorem dX8_agreed_52 : decode cX8_agreed 52 = .ok (.aload_n 0, 1) := by decide +kernel
theorem dX8_agreed_53 : decode cX8_agreed 53 = .ok (.getfield 154, 3) := by decide +kernel
theorem dX8_agreed_56 : decode cX8_agreed 56 = .ok (.if_icmp .ge 70, 3) := by decide +kernel
theorem dX8_agreed_59 : decode cX8_agreed 59 = .ok (.aload_n 0, 1) := by decide +kernel
theorem dX8_agreed_60 : decode cX8_agreed 60 = .ok (.iload_n 1, 1) := by decide +kernel
theorem dX8_agreed_61 : decode cX8_agreed 61 = .ok (.iload 6, 2) := by decide +kernel
theorem dX8_agreed_63 : decode cX8_agreed 63 = .ok (.invokevirtual 222, 3) := by decide +kernel
theorem dX8_agreed_66 : decode cX8_agreed 66 = .ok (.istore 7, 2) := by decide +kernel
theorem dX8_agreed_68 : decode cX8_agreed 68 = .ok (.aload_n 0, 1) := by decide +kernel
theorem dX8_agreed_69 : decode cX8_agreed 69 = .ok (.iload_n 2, 1) := by decide +kernel
theorem dX8_agreed_70 : decode cX8_agreed 70 = .ok (.iload 6, 2) := by decide +kernel
theorem dX8_agreed_72 : decode cX8_agreed 72 = .ok (.invokevirtual 222, 3) := by decide +kernel
theorem dX8_agreed_75 : decode cX8_agreed 75 = .ok (.istore 8, 2) := by decide +kernel
theorem dX8_agreed_77 : decode cX8_agreed 77 = .ok (.iload 7, 2) := by decide +kernel
theorem dX8_agreed_79 : decode cX8_agreed 79 = .ok (.ifCond .lt 41, 3) := by decide +kernel
theorem dX8_agreed_82 : decode cX8_agreed 82 = .ok (.iload 8, 2) := by decide +kernel
theorem dX8_agreed_84 : decode cX8_agreed 84 = .ok (.ifCond .lt 36, 3) := by decide +kernel
theorem dX8_agreed_87 : decode cX8_agreed 87 = .ok (.iinc 5 1, 3) := by decide +kernel
theorem dX8_agreed_90 : decode cX8_agreed 90 = .ok (.iload 4, 2) := by decide +kernel
theorem dX8_agreed_92 : decode cX8_agreed 92 = .ok (.aload_n 0, 1) := by decide +kernel
theorem dX8_agreed_93 : decode cX8_agreed 93 = .ok (.getfield 48, 3) := by decide +kernel
theorem dX8_agreed_96 : decode cX8_agreed 96 = .ok (.iload 7, 2) := by decide +kernel
theorem dX8_agreed_98 : decode cX8_agreed 98 = .ok (.iaload, 1) := by decide +kernel
theorem dX8_agreed_99 : decode cX8_agreed 99 = .ok (.aload_n 0, 1) := by decide +kernel
theorem dX8_agreed_100 : decode cX8_agreed 100 = .ok (.getfield 48, 3) := by decide +kernel
theorem dX8_agreed_103 : decode cX8_agreed 103 = .ok (.iload 8, 2) := by decide +kernel
theorem dX8_agreed_105 : decode cX8_agreed 105 = .ok (.iaload, 1) := by decide +kernel
theorem dX8_agreed_106 : decode cX8_agreed 106 = .ok (.if_icmp .ne 7, 3) := by decide +kernel
theorem dX8_agreed_109 : decode cX8_agreed 109 = .ok (.iconst 1, 1) := by decide +kernel
theorem dX8_agreed_110 : decode cX8_agreed 110 = .ok (.goto 4, 3) := by decide +kernel
theorem dX8_agreed_113 : decode cX8_agreed 113 = .ok (.iconst 0, 1) := by decide +kernel
theorem dX8_agreed_114 : decode cX8_agreed 114 = .ok (.invokestatic 148, 3) := by decide +kernel
theorem dX8_agreed_117 : decode cX8_agreed 117 = .ok (.iadd, 1) := by decide +kernel
theorem dX8_agreed_118 : decode cX8_agreed 118 = .ok (.istore 4, 2) := by decide +kernel
theorem dX8_agreed_120 : decode cX8_agreed 120 = .ok (.iinc 6 1, 3) := by decide +kernel
theorem dX8_agreed_123 : decode cX8_agreed 123 = .ok (.goto (-73), 3) := by decide +kernel
theorem dX8_agreed_126 : decode cX8_agreed 126 = .ok (.iload_n 3, 1) := by decide +kernel
theorem dX8_agreed_127 : decode cX8_agreed 127 = .ok (.ifCond .ne 8, 3) := by decide +kernel
theorem dX8_agreed_130 : decode cX8_agreed 130 = .ok (.iload 4, 2) := by decide +kernel
theorem dX8_agreed_132 : decode cX8_agreed 132 = .ok (.goto 34, 3) := by decide +kernel
theorem dX8_agreed_135 : decode cX8_agreed 135 = .ok (.iload_n 3, 1) := by decide +kernel
theorem dX8_agreed_136 : decode cX8_agreed 136 = .ok (.iconst 1, 1) := by decide +kernel
theorem dX8_agreed_137 : decode cX8_agreed 137 = .ok (.if_icmp .ne 8, 3) := by decide +kernel
theorem dX8_agreed_140 : decode cX8_agreed 140 = .ok (.iload 5, 2) := by decide +kernel
theorem dX8_agreed_142 : decode cX8_agreed 142 = .ok (.goto 24, 3) := by decide +kernel
theorem dX8_agreed_145 : decode cX8_agreed 145 = .ok (.iload 5, 2) := by decide +kernel
theorem dX8_agreed_147 : decode cX8_agreed 147 = .ok (.iconst 5, 1) := by decide +kernel
theorem dX8_agreed_148 : decode cX8_agreed 148 = .ok (.if_icmp .lt 14, 3) := by decide +kernel
theorem dX8_agreed_151 : decode cX8_agreed 151 = .ok (.iload 4, 2) := by decide +kernel
theorem dX8_agreed_153 : decode cX8_agreed 153 = .ok (.iload 5, 2) := by decide +kernel
theorem dX8_agreed_155 : decode cX8_agreed 155 = .ok (.if_icmp .ne 7, 3) := by decide +kernel
theorem dX8_agreed_158 : decode cX8_agreed 158 = .ok (.iconst 1, 1) := by decide +kernel
theorem dX8_agreed_159 : decode cX8_agreed 159 = .ok (.goto 4, 3) := by decide +kernel
theorem dX8_agreed_162 : decode cX8_agreed 162 = .ok (.iconst 0, 1) := by decide +kernel
theorem dX8_agreed_163 : decode cX8_agreed 163 = .ok (.invokestatic 148, 3) := by decide +kernel
theorem dX8_agreed_166 : decode cX8_agreed 166 = .ok (.ireturn, 1) := by decide +kernel
theorem dX8_green_0 : decode cX8_green 0 = .ok (.iload_n 1, 1) := by decide +kernel
theorem dX8_green_1 : decode cX8_green 1 = .ok (.ifCond .ge 7, 3) := by decide +kernel
theorem dX8_green_4 : decode cX8_green 4 = .ok (.sipush (-1002), 3) := by decide +kernel
theorem dX8_green_7 : decode cX8_green 7 = .ok (.ireturn, 1) := by decide +kernel
theorem dX8_green_8 : decode cX8_green 8 = .ok (.iconst 0, 1) := by decide +kernel
theorem dX8_green_9 : decode cX8_green 9 = .ok (.istore_n 2, 1) := by decide +kernel
theorem dX8_green_10 : decode cX8_green 10 = .ok (.bipush 8, 2) := by decide +kernel
theorem dX8_green_12 : decode cX8_green 12 = .ok (.istore_n 3, 1) := by decide +kernel
theorem dX8_green_13 : decode cX8_green 13 = .ok (.iload_n 3, 1) := by decide +kernel
theorem dX8_green_14 : decode cX8_green 14 = .ok (.ifCond .le 48, 3) := by decide +kernel
theorem dX8_green_17 : decode cX8_green 17 = .ok (.iconst 0, 1) := by decide +kernel
theorem dX8_green_18 : decode cX8_green 18 = .ok (.istore 4, 2) := by decide +kernel
theorem dX8_green_20 : decode cX8_green 20 = .ok (.iload 4, 2) := by decide +kernel
theorem dX8_green_22 : decode cX8_green 22 = .ok (.aload_n 0, 1) := by decide +kernel
theorem dX8_green_23 : decode cX8_green 23 = .ok (.getfield 154, 3) := by decide +kernel
theorem dX8_green_26 : decode cX8_green 26 = .ok (.if_icmp .ge 30, 3) := by decide +kernel
theorem dX8_green_29 : decode cX8_green 29 = .ok (.aload_n 0, 1) := by decide +kernel
theorem dX8_green_30 : decode cX8_green 30 = .ok (.iload 4, 2) := by decide +kernel
theorem dX8_green_32 : decode cX8_green 32 = .ok (.invokevirtual 183, 3) := by decide +kernel
theorem dX8_green_35 : decode cX8_green 35 = .ok (.iload_n 3, 1) := by decide +kernel
theorem dX8_green_36 : decode cX8_green 36 = .ok (.if_icmp .ne 14, 3) := by decide +kernel
theorem dX8_green_39 : decode cX8_green 39 = .ok (.iload_n 2, 1) := by decide +kernel
theorem dX8_green_40 : decode cX8_green 40 = .ok (.iload_n 1, 1) := by decide +kernel
theorem dX8_green_41 : decode cX8_green 41 = .ok (.if_icmp .ne 6, 3) := by decide +kernel
theorem dX8_green_44 : decode cX8_green 44 = .ok (.iload 4, 2) := by decide +kernel
theorem dX8_green_46 : decode cX8_green 46 = .ok (.ireturn, 1) := by decide +kernel
theorem dX8_green_47 : decode cX8_green 47 = .ok (.iinc 2 1, 3) := by decide +kernel
theorem dX8_green_50 : decode cX8_green 50 = .ok (.iinc 4 1, 3) := by decide +kernel
theorem dX8_green_53 : decode cX8_green 53 = .ok (.goto (-33), 3) := by decide +kernel
theorem dX8_green_56 : decode cX8_green 56 = .ok (.iinc 3 (-1), 3) := by decide +kernel
theorem dX8_green_59 : decode cX8_green 59 = .ok (.goto (-46), 3) := by decide +kernel
theorem dX8_green_62 : decode cX8_green 62 = .ok (.iconst (-1), 1) := by decide +kernel
theorem dX8_green_63 : decode cX8_green 63 = .ok (.ireturn, 1) := by decide +kernel
theorem dX8_isSure_0 : decode cX8_isSure 0 = .ok (.aload_n 0, 1) := by decide +kernel
theorem dX8_isSure_1 : decode cX8_isSure 1 = .ok (.getfield 39, 3) := by decide +kernel
theorem dX8_isSure_4 : decode cX8_isSure 4 = .ok (.aload_n 0, 1) := by decide +kernel
theorem dX8_isSure_5 : decode cX8_isSure 5 = .ok (.getfield 42, 3) := by decide +kernel
theorem dX8_isSure_8 : decode cX8_isSure 8 = .ok (.iload_n 1, 1) := by decide +kernel
theorem dX8_isSure_9 : decode cX8_isSure 9 = .ok (.iaload, 1) := by decide +kernel
theorem dX8_isSure_10 : decode cX8_isSure 10 = .ok (.iaload, 1) := by decide +kernel
theorem dX8_isSure_11 : decode cX8_isSure 11 = .ok (.iconst 4, 1) := by decide +kernel
theorem dX8_isSure_12 : decode cX8_isSure 12 = .ok (.if_icmp .ne 50, 3) := by decide +kernel
theorem dX8_isSure_15 : decode cX8_isSure 15 = .ok (.aload_n 0, 1) := by decide +kernel
theorem dX8_isSure_16 : decode cX8_isSure 16 = .ok (.getfield 48, 3) := by decide +kernel
theorem dX8_isSure_19 : decode cX8_isSure 19 = .ok (.iload_n 1, 1) := by decide +kernel
theorem dX8_isSure_20 : decode cX8_isSure 20 = .ok (.iaload, 1) := by decide +kernel
theorem dX8_isSure_21 : decode cX8_isSure 21 = .ok (.iconst 3, 1) := by decide +kernel
theorem dX8_isSure_22 : decode cX8_isSure 22 = .ok (.if_icmp .ge 40, 3) := by decide +kernel
theorem dX8_isSure_25 : decode cX8_isSure 25 = .ok (.aload_n 0, 1) := by decide +kernel
theorem dX8_isSure_26 : decode cX8_isSure 26 = .ok (.getfield 51, 3) := by decide +kernel
theorem dX8_isSure_29 : decode cX8_isSure 29 = .ok (.iconst 3, 1) := by decide +kernel
theorem dX8_isSure_30 : decode cX8_isSure 30 = .ok (.aload_n 0, 1) := by decide +kernel
theorem dX8_isSure_31 : decode cX8_isSure 31 = .ok (.getfield 45, 3) := by decide +kernel
theorem dX8_isSure_34 : decode cX8_isSure 34 = .ok (.iload_n 1, 1) := by decide +kernel
theorem dX8_isSure_35 : decode cX8_isSure 35 = .ok (.iaload, 1) := by decide +kernel
theorem dX8_isSure_36 : decode cX8_isSure 36 = .ok (.imul, 1) := by decide +kernel
theorem dX8_isSure_37 : decode cX8_isSure 37 = .ok (.aload_n 0, 1) := by decide +kernel
theorem dX8_isSure_38 : decode cX8_isSure 38 = .ok (.getfield 48, 3) := by decide +kernel
theorem dX8_isSure_41 : decode cX8_isSure 41 = .ok (.iload_n 1, 1) := by decide +kernel
theorem dX8_isSure_42 : decode cX8_isSure 42 = .ok (.iaload, 1) := by decide +kernel
theorem dX8_isSure_43 : decode cX8_isSure 43 = .ok (.iadd, 1) := by decide +kernel
theorem dX8_isSure_44 : decode cX8_isSure 44 = .ok (.iaload, 1) := by decide +kernel
theorem dX8_isSure_45 : decode cX8_isSure 45 = .ok (.bipush 10, 2) := by decide +kernel
theorem dX8_isSure_47 : decode cX8_isSure 47 = .ok (.aload_n 0, 1) := by decide +kernel
theorem dX8_isSure_48 : decode cX8_isSure 48 = .ok (.getfield 7, 3) := by decide +kernel
theorem dX8_isSure_51 : decode cX8_isSure 51 = .ok (.bipush 7, 2) := by decide +kernel
theorem dX8_isSure_53 : decode cX8_isSure 53 = .ok (.iaload, 1) := by decide +kernel
theorem dX8_isSure_54 : decode cX8_isSure 54 = .ok (.imul, 1) := by decide +kernel
theorem dX8_isSure_55 : decode cX8_isSure 55 = .ok (.if_icmp .lt 7, 3) := by decide +kernel
theorem dX8_isSure_58 : decode cX8_isSure 58 = .ok (.iconst 1, 1) := by decide +kernel
theorem dX8_isSure_59 : decode cX8_isSure 59 = .ok (.goto 4, 3) := by decide +kernel
theorem dX8_isSure_62 : decode cX8_isSure 62 = .ok (.iconst 0, 1) := by decide +kernel
theorem dX8_isSure_63 : decode cX8_isSure 63 = .ok (.ireturn, 1) := by decide +kernel
theorem dX8_given_0 : decode cX8_given 0 = .ok (.iload_n 1, 1) := by decide +kernel
theorem dX8_given_1 : decode cX8_given 1 = .ok (.i2l, 1) := by decide +kernel
theorem dX8_given_2 : decode cX8_given 2 = .ok (.lconst 0, 1) := by decide +kernel
theorem dX8_given_3 : decode cX8_given 3 = .ok (.ldc2_w 157, 3) := by decide +kernel
theorem dX8_given_6 : decode cX8_given 6 = .ok (.invokestatic 100, 3) := by decide +kernel
theorem dX8_given_9 : decode cX8_given 9 = .ok (.ifCond .ne 7, 3) := by decide +kernel
theorem dX8_given_12 : decode cX8_given 12 = .ok (.sipush (-1002), 3) := by decide +kernel
theorem dX8_given_15 : decode cX8_given 15 = .ok (.ireturn, 1) := by decide +kernel
theorem dX8_given_16 : decode cX8_given 16 = .ok (.iconst 0, 1) := by decide +kernel
theorem dX8_given_17 : decode cX8_given 17 = .ok (.istore_n 2, 1) := by decide +kernel
theorem dX8_given_18 : decode cX8_given 18 = .ok (.iconst 0, 1) := by decide +kernel
theorem dX8_given_19 : decode cX8_given 19 = .ok (.istore_n 3, 1) := by decide +kernel
theorem dX8_given_20 : decode cX8_given 20 = .ok (.iconst 0, 1) := by decide +kernel
theorem dX8_given_21 : decode cX8_given 21 = .ok (.istore 4, 2) := by decide +kernel
theorem dX8_given_23 : decode cX8_given 23 = .ok (.iconst 0, 1) := by decide +kernel
theorem dX8_given_24 : decode cX8_given 24 = .ok (.istore 5, 2) := by decide +kernel
theorem dX8_given_26 : decode cX8_given 26 = .ok (.iload 5, 2) := by decide +kernel
theorem dX8_given_28 : decode cX8_given 28 = .ok (.aload_n 0, 1) := by decide +kernel
theorem dX8_given_29 : decode cX8_given 29 = .ok (.getfield 154, 3) := by decide +kernel
theorem dX8_given_32 : decode cX8_given 32 = .ok (.if_icmp .ge 168, 3) := by decide +kernel
theorem dX8_given_35 : decode cX8_given 35 = .ok (.iconst 0, 1) := by decide +kernel
theorem dX8_given_36 : decode cX8_given 36 = .ok (.istore 6, 2) := by decide +kernel
theorem dX8_given_38 : decode cX8_given 38 = .ok (.iconst 0, 1) := by decide +kernel
theorem dX8_given_39 : decode cX8_given 39 = .ok (.istore 7, 2) := by decide +kernel
theorem dX8_given_41 : decode cX8_given 41 = .ok (.iconst 0, 1) := by decide +kernel
theorem dX8_given_42 : decode cX8_given 42 = .ok (.istore 8, 2) := by decide +kernel
theorem dX8_given_44 : decode cX8_given 44 = .ok (.iconst 0, 1) := by decide +kernel
theorem dX8_given_45 : decode cX8_given 45 = .ok (.istore 9, 2) := by decide +kernel
theorem dX8_given_47 : decode cX8_given 47 = .ok (.iload 9, 2) := by decide +kernel
theorem dX8_given_49 : decode cX8_given 49 = .ok (.aload_n 0, 1) := by decide +kernel
theorem dX8_given_50 : decode cX8_given 50 = .ok (.getfield 174, 3) := by decide +kernel
theorem dX8_given_53 : decode cX8_given 53 = .ok (.if_icmp .ge 109, 3) := by decide +kernel
theorem dX8_given_56 : decode cX8_given 56 = .ok (.aload_n 0, 1) := by decide +kernel
theorem dX8_given_57 : decode cX8_given 57 = .ok (.getfield 45, 3) := by decide +kernel
theorem dX8_given_60 : decode cX8_given 60 = .ok (.iload 9, 2) := by decide +kernel
theorem dX8_given_62 : decode cX8_given 62 = .ok (.iaload, 1) := by decide +kernel
theorem dX8_given_63 : decode cX8_given 63 = .ok (.iload 5, 2) := by decide +kernel
theorem dX8_given_65 : decode cX8_given 65 = .ok (.if_icmp .ne 91, 3) := by decide +kernel
theorem dX8_given_68 : decode cX8_given 68 = .ok (.iload 6, 2) := by decide +kernel
theorem dX8_given_70 : decode cX8_given 70 = .ok (.ifCond .ne 12, 3) := by decide +kernel
theorem dX8_given_73 : decode cX8_given 73 = .ok (.aload_n 0, 1) := by decide +kernel
theorem dX8_given_74 : decode cX8_given 74 = .ok (.iload 9, 2) := by decide +kernel
theorem dX8_given_76 : decode cX8_given 76 = .ok (.invokevirtual 271, 3) := by decide +kernel
theorem dX8_given_79 : decode cX8_given 79 = .ok (.ifCond .eq 7, 3) := by decide +kernel
theorem dX8_given_82 : decode cX8_given 82 = .ok (.iconst 1, 1) := by decide +kernel
theorem dX8_given_83 : decode cX8_given 83 = .ok (.goto 4, 3) := by decide +kernel
theorem dX8_given_86 : decode cX8_given 86 = .ok (.iconst 0, 1) := by decide +kernel
theorem dX8_given_87 : decode cX8_given 87 = .ok (.istore 6, 2) := by decide +kernel
theorem dX8_given_89 : decode cX8_given 89 = .ok (.iload 7, 2) := by decide +kernel
theorem dX8_given_91 : decode cX8_given 91 = .ok (.ifCond .ne 29, 3) := by decide +kernel
theorem dX8_given_94 : decode cX8_given 94 = .ok (.aload_n 0, 1) := by decide +kernel
theorem dX8_given_95 : decode cX8_given 95 = .ok (.iload 9, 2) := by decide +kernel
theorem dX8_given_97 : decode cX8_given 97 = .ok (.invokevirtual 271, 3) := by decide +kernel
theorem dX8_given_100 : decode cX8_given 100 = .ok (.ifCond .eq 24, 3) := by decide +kernel
theorem dX8_given_103 : decode cX8_given 103 = .ok (.aload_n 0, 1) := by decide +kernel
theorem dX8_given_104 : decode cX8_given 104 = .ok (.getfield 48, 3) := by decide +kernel
theorem dX8_given_107 : decode cX8_given 107 = .ok (.iload 9, 2) := by decide +kernel
theorem dX8_given_109 : decode cX8_given 109 = .ok (.iaload, 1) := by decide +kernel
theorem dX8_given_110 : decode cX8_given 110 = .ok (.aload_n 0, 1) := by decide +kernel
theorem dX8_given_111 : decode cX8_given 111 = .ok (.getfield 23, 3) := by decide +kernel
theorem dX8_given_114 : decode cX8_given 114 = .ok (.iload 5, 2) := by decide +kernel
theorem dX8_given_116 : decode cX8_given 116 = .ok (.iaload, 1) := by decide +kernel
theorem dX8_given_117 : decode cX8_given 117 = .ok (.if_icmp .eq 7, 3) := by decide +kernel
theorem dX8_given_120 : decode cX8_given 120 = .ok (.iconst 1, 1) := by decide +kernel
theorem dX8_given_121 : decode cX8_given 121 = .ok (.goto 4, 3) := by decide +kernel
theorem dX8_given_124 : decode cX8_given 124 = .ok (.iconst 0, 1) := by decide +kernel
theorem dX8_given_125 : decode cX8_given 125 = .ok (.istore 7, 2) := by decide +kernel
theorem dX8_given_127 : decode cX8_given 127 = .ok (.iload 8, 2) := by decide +kernel
theorem dX8_given_129 : decode cX8_given 129 = .ok (.aload_n 0, 1) := by decide +kernel
theorem dX8_given_130 : decode cX8_given 130 = .ok (.getfield 39, 3) := by decide +kernel
theorem dX8_given_133 : decode cX8_given 133 = .ok (.aload_n 0, 1) := by decide +kernel
theorem dX8_given_134 : decode cX8_given 134 = .ok (.getfield 42, 3) := by decide +kernel
theorem dX8_given_137 : decode cX8_given 137 = .ok (.iload 9, 2) := by decide +kernel
theorem dX8_given_139 : decode cX8_given 139 = .ok (.iaload, 1) := by decide +kernel
theorem dX8_given_140 : decode cX8_given 140 = .ok (.iaload, 1) := by decide +kernel
theorem dX8_given_141 : decode cX8_given 141 = .ok (.iconst 4, 1) := by decide +kernel
theorem dX8_given_142 : decode cX8_given 142 = .ok (.if_icmp .eq 7, 3) := by decide +kernel
theorem dX8_given_145 : decode cX8_given 145 = .ok (.iconst 1, 1) := by decide +kernel
theorem dX8_given_146 : decode cX8_given 146 = .ok (.goto 4, 3) := by decide +kernel
theorem dX8_given_149 : decode cX8_given 149 = .ok (.iconst 0, 1) := by decide +kernel
theorem dX8_given_150 : decode cX8_given 150 = .ok (.invokestatic 148, 3) := by decide +kernel
theorem dX8_given_153 : decode cX8_given 153 = .ok (.iadd, 1) := by decide +kernel
theorem dX8_given_154 : decode cX8_given 154 = .ok (.istore 8, 2) := by decide +kernel
theorem dX8_given_156 : decode cX8_given 156 = .ok (.iinc 9 1, 3) := by decide +kernel
theorem dX8_given_159 : decode cX8_given 159 = .ok (.goto (-112), 3) := by decide +kernel
theorem dX8_given_162 : decode cX8_given 162 = .ok (.iload_n 2, 1) := by decide +kernel
theorem dX8_given_163 : decode cX8_given 163 = .ok (.iload 6, 2) := by decide +kernel
theorem dX8_given_165 : decode cX8_given 165 = .ok (.invokestatic 148, 3) := by decide +kernel
theorem dX8_given_168 : decode cX8_given 168 = .ok (.iadd, 1) := by decide +kernel
theorem dX8_given_169 : decode cX8_given 169 = .ok (.istore_n 2, 1) := by decide +kernel
theorem dX8_given_170 : decode cX8_given 170 = .ok (.iload_n 3, 1) := by decide +kernel
theorem dX8_given_171 : decode cX8_given 171 = .ok (.iload 6, 2) := by decide +kernel
theorem dX8_given_173 : decode cX8_given 173 = .ok (.ifCond .eq 8, 3) := by decide +kernel
theorem dX8_given_176 : decode cX8_given 176 = .ok (.iload 8, 2) := by decide +kernel
theorem dX8_given_178 : decode cX8_given 178 = .ok (.goto 4, 3) := by decide +kernel
theorem dX8_given_181 : decode cX8_given 181 = .ok (.iconst 0, 1) := by decide +kernel
theorem dX8_given_182 : decode cX8_given 182 = .ok (.iadd, 1) := by decide +kernel
theorem dX8_given_183 : decode cX8_given 183 = .ok (.istore_n 3, 1) := by decide +kernel
theorem dX8_given_184 : decode cX8_given 184 = .ok (.iload 4, 2) := by decide +kernel
theorem dX8_given_186 : decode cX8_given 186 = .ok (.iload 7, 2) := by decide +kernel
theorem dX8_given_188 : decode cX8_given 188 = .ok (.invokestatic 148, 3) := by decide +kernel
theorem dX8_given_191 : decode cX8_given 191 = .ok (.iadd, 1) := by decide +kernel
theorem dX8_given_192 : decode cX8_given 192 = .ok (.istore 4, 2) := by decide +kernel
theorem dX8_given_194 : decode cX8_given 194 = .ok (.iinc 5 1, 3) := by decide +kernel
theorem dX8_given_197 : decode cX8_given 197 = .ok (.goto (-171), 3) := by decide +kernel
theorem dX8_given_200 : decode cX8_given 200 = .ok (.iload_n 1, 1) := by decide +kernel
theorem dX8_given_201 : decode cX8_given 201 = .ok (.ifCond .ne 7, 3) := by decide +kernel
theorem dX8_given_204 : decode cX8_given 204 = .ok (.iload_n 2, 1) := by decide +kernel
theorem dX8_given_205 : decode cX8_given 205 = .ok (.goto 14, 3) := by decide +kernel
theorem dX8_given_208 : decode cX8_given 208 = .ok (.iload_n 1, 1) := by decide +kernel
theorem dX8_given_209 : decode cX8_given 209 = .ok (.iconst 1, 1) := by decide +kernel
theorem dX8_given_210 : decode cX8_given 210 = .ok (.if_icmp .ne 7, 3) := by decide +kernel
theorem dX8_given_213 : decode cX8_given 213 = .ok (.iload_n 3, 1) := by decide +kernel
theorem dX8_given_214 : decode cX8_given 214 = .ok (.goto 5, 3) := by decide +kernel
theorem dX8_given_217 : decode cX8_given 217 = .ok (.iload 4, 2) := by decide +kernel
theorem dX8_given_219 : decode cX8_given 219 = .ok (.ireturn, 1) := by decide +kernel
theorem dX8_things_0 : decode cX8_things 0 = .ok (.iload_n 1, 1) := by decide +kernel
theorem dX8_things_1 : decode cX8_things 1 = .ok (.i2l, 1) := by decide +kernel
theorem dX8_things_2 : decode cX8_things 2 = .ok (.ldc2_w 157, 3) := by decide +kernel
theorem dX8_things_5 : decode cX8_things 5 = .ok (.ldc2_w 98, 3) := by decide +kernel
theorem dX8_things_8 : decode cX8_things 8 = .ok (.invokestatic 100, 3) := by decide +kernel
theorem dX8_things_11 : decode cX8_things 11 = .ok (.ifCond .ne 7, 3) := by decide +kernel
theorem dX8_things_14 : decode cX8_things 14 = .ok (.sipush (-1002), 3) := by decide +kernel
theorem dX8_things_17 : decode cX8_things 17 = .ok (.ireturn, 1) := by decide +kernel
theorem dX8_things_18 : decode cX8_things 18 = .ok (.aload_n 0, 1) := by decide +kernel
theorem dX8_things_19 : decode cX8_things 19 = .ok (.iload_n 1, 1) := by decide +kernel
theorem dX8_things_20 : decode cX8_things 20 = .ok (.putfield 95, 3) := by decide +kernel
theorem dX8_things_23 : decode cX8_things 23 = .ok (.iconst 0, 1) := by decide +kernel
theorem dX8_things_24 : decode cX8_things 24 = .ok (.istore_n 2, 1) := by decide +kernel
theorem dX8_things_25 : decode cX8_things 25 = .ok (.iload_n 2, 1) := by decide +kernel
theorem dX8_things_26 : decode cX8_things 26 = .ok (.bipush 8, 2) := by decide +kernel
theorem dX8_things_28 : decode cX8_things 28 = .ok (.if_icmp .ge 16, 3) := by decide +kernel
theorem dX8_things_31 : decode cX8_things 31 = .ok (.aload_n 0, 1) := by decide +kernel
theorem dX8_things_32 : decode cX8_things 32 = .ok (.getfield 73, 3) := by decide +kernel
theorem dX8_things_35 : decode cX8_things 35 = .ok (.iload_n 2, 1) := by decide +kernel
theorem dX8_things_36 : decode cX8_things 36 = .ok (.iconst 1, 1) := by decide +kernel
theorem dX8_things_37 : decode cX8_things 37 = .ok (.iastore, 1) := by decide +kernel
theorem dX8_things_38 : decode cX8_things 38 = .ok (.iinc 2 1, 3) := by decide +kernel
theorem dX8_things_41 : decode cX8_things 41 = .ok (.goto (-16), 3) := by decide +kernel
theorem dX8_things_44 : decode cX8_things 44 = .ok (.iconst 0, 1) := by decide +kernel
theorem dX8_things_45 : decode cX8_things 45 = .ok (.istore_n 2, 1) := by decide +kernel
theorem dX8_things_46 : decode cX8_things 46 = .ok (.iload_n 2, 1) := by decide +kernel
theorem dX8_things_47 : decode cX8_things 47 = .ok (.bipush 6, 2) := by decide +kernel
theorem dX8_things_49 : decode cX8_things 49 = .ok (.if_icmp .ge 16, 3) := by decide +kernel
theorem dX8_things_52 : decode cX8_things 52 = .ok (.aload_n 0, 1) := by decide +kernel
theorem dX8_things_53 : decode cX8_things 53 = .ok (.getfield 76, 3) := by decide +kernel
theorem dX8_things_56 : decode cX8_things 56 = .ok (.iload_n 2, 1) := by decide +kernel
theorem dX8_things_57 : decode cX8_things 57 = .ok (.iconst 0, 1) := by decide +kernel
theorem dX8_things_58 : decode cX8_things 58 = .ok (.iastore, 1) := by decide +kernel
theorem dX8_things_59 : decode cX8_things 59 = .ok (.iinc 2 1, 3) := by decide +kernel
theorem dX8_things_62 : decode cX8_things 62 = .ok (.goto (-16), 3) := by decide +kernel
theorem dX8_things_65 : decode cX8_things 65 = .ok (.iload_n 1, 1) := by decide +kernel
theorem dX8_things_66 : decode cX8_things 66 = .ok (.ireturn, 1) := by decide +kernel
theorem dX8_weight_0 : decode cX8_weight 0 = .ok (.iload_n 1, 1) := by decide +kernel
theorem dX8_weight_1 : decode cX8_weight 1 = .ok (.i2l, 1) := by decide +kernel
theorem dX8_weight_2 : decode cX8_weight 2 = .ok (.lconst 0, 1) := by decide +kernel
theorem dX8_weight_3 : decode cX8_weight 3 = .ok (.aload_n 0, 1) := by decide +kernel
theorem dX8_weight_4 : decode cX8_weight 4 = .ok (.getfield 95, 3) := by decide +kernel
theorem dX8_weight_7 : decode cX8_weight 7 = .ok (.iconst 1, 1) := by decide +kernel
theorem dX8_weight_8 : decode cX8_weight 8 = .ok (.isub, 1) := by decide +kernel
theorem dX8_weight_9 : decode cX8_weight 9 = .ok (.i2l, 1) := by decide +kernel
theorem dX8_weight_10 : decode cX8_weight 10 = .ok (.invokestatic 100, 3) := by decide +kernel
theorem dX8_weight_13 : decode cX8_weight 13 = .ok (.ifCond .eq 15, 3) := by decide +kernel
theorem dX8_weight_16 : decode cX8_weight 16 = .ok (.iload_n 2, 1) := by decide +kernel
theorem dX8_weight_17 : decode cX8_weight 17 = .ok (.i2l, 1) := by decide +kernel
theorem dX8_weight_18 : decode cX8_weight 18 = .ok (.lconst 1, 1) := by decide +kernel
theorem dX8_weight_19 : decode cX8_weight 19 = .ok (.ldc2_w 274, 3) := by decide +kernel
theorem dX8_weight_22 : decode cX8_weight 22 = .ok (.invokestatic 100, 3) := by decide +kernel
theorem dX8_weight_25 : decode cX8_weight 25 = .ok (.ifCond .ne 7, 3) := by decide +kernel
theorem dX8_weight_28 : decode cX8_weight 28 = .ok (.sipush (-1002), 3) := by decide +kernel
theorem dX8_weight_31 : decode cX8_weight 31 = .ok (.ireturn, 1) := by decide +kernel
theorem dX8_weight_32 : decode cX8_weight 32 = .ok (.aload_n 0, 1) := by decide +kernel
theorem dX8_weight_33 : decode cX8_weight 33 = .ok (.getfield 73, 3) := by decide +kernel
theorem dX8_weight_36 : decode cX8_weight 36 = .ok (.iload_n 1, 1) := by decide +kernel
theorem dX8_weight_37 : decode cX8_weight 37 = .ok (.iaload, 1) := by decide +kernel
theorem dX8_weight_38 : decode cX8_weight 38 = .ok (.istore_n 3, 1) := by decide +kernel
theorem dX8_weight_39 : decode cX8_weight 39 = .ok (.aload_n 0, 1) := by decide +kernel
theorem dX8_weight_40 : decode cX8_weight 40 = .ok (.getfield 73, 3) := by decide +kernel
theorem dX8_weight_43 : decode cX8_weight 43 = .ok (.iload_n 1, 1) := by decide +kernel
theorem dX8_weight_44 : decode cX8_weight 44 = .ok (.iload_n 2, 1) := by decide +kernel
theorem dX8_weight_45 : decode cX8_weight 45 = .ok (.iastore, 1) := by decide +kernel
theorem dX8_weight_46 : decode cX8_weight 46 = .ok (.iload_n 3, 1) := by decide +kernel
theorem dX8_weight_47 : decode cX8_weight 47 = .ok (.ireturn, 1) := by decide +kernel
theorem dX8_question_0 : decode cX8_question 0 = .ok (.iload_n 1, 1) := by decide +kernel
theorem dX8_question_1 : decode cX8_question 1 = .ok (.i2l, 1) := by decide +kernel
theorem dX8_question_2 : decode cX8_question 2 = .ok (.lconst 0, 1) := by decide +kernel
theorem dX8_question_3 : decode cX8_question 3 = .ok (.ldc2_w 172, 3) := by decide +kernel
theorem dX8_question_6 : decode cX8_question 6 = .ok (.invokestatic 100, 3) := by decide +kernel
theorem dX8_question_9 : decode cX8_question 9 = .ok (.ifCond .eq 21, 3) := by decide +kernel
theorem dX8_question_12 : decode cX8_question 12 = .ok (.iload_n 2, 1) := by decide +kernel
theorem dX8_question_13 : decode cX8_question 13 = .ok (.i2l, 1) := by decide +kernel
theorem dX8_question_14 : decode cX8_question 14 = .ok (.lconst 0, 1) := by decide +kernel
theorem dX8_question_15 : decode cX8_question 15 = .ok (.iconst 1, 1) := by decide +kernel
theorem dX8_question_16 : decode cX8_question 16 = .ok (.aload_n 0, 1) := by decide +kernel
theorem dX8_question_17 : decode cX8_question 17 = .ok (.getfield 95, 3) := by decide +kernel
theorem dX8_question_20 : decode cX8_question 20 = .ok (.ishl, 1) := by decide +kernel
theorem dX8_question_21 : decode cX8_question 21 = .ok (.iconst 1, 1) := by decide +kernel
theorem dX8_question_22 : decode cX8_question 22 = .ok (.isub, 1) := by decide +kernel
theorem dX8_question_23 : decode cX8_question 23 = .ok (.i2l, 1) := by decide +kernel
theorem dX8_question_24 : decode cX8_question 24 = .ok (.invokestatic 100, 3) := by decide +kernel
theorem dX8_question_27 : decode cX8_question 27 = .ok (.ifCond .ne 7, 3) := by decide +kernel
theorem dX8_question_30 : decode cX8_question 30 = .ok (.sipush (-1002), 3) := by decide +kernel
theorem dX8_question_33 : decode cX8_question 33 = .ok (.ireturn, 1) := by decide +kernel
theorem dX8_question_34 : decode cX8_question 34 = .ok (.aload_n 0, 1) := by decide +kernel
theorem dX8_question_35 : decode cX8_question 35 = .ok (.getfield 76, 3) := by decide +kernel
theorem dX8_question_38 : decode cX8_question 38 = .ok (.iload_n 1, 1) := by decide +kernel
theorem dX8_question_39 : decode cX8_question 39 = .ok (.iaload, 1) := by decide +kernel
theorem dX8_question_40 : decode cX8_question 40 = .ok (.istore_n 3, 1) := by decide +kernel
theorem dX8_question_41 : decode cX8_question 41 = .ok (.aload_n 0, 1) := by decide +kernel
theorem dX8_question_42 : decode cX8_question 42 = .ok (.getfield 76, 3) := by decide +kernel
theorem dX8_question_45 : decode cX8_question 45 = .ok (.iload_n 1, 1) := by decide +kernel
theorem dX8_question_46 : decode cX8_question 46 = .ok (.iload_n 2, 1) := by decide +kernel
theorem dX8_question_47 : decode cX8_question 47 = .ok (.iastore, 1) := by decide +kernel
theorem dX8_question_48 : decode cX8_question 48 = .ok (.iload_n 3, 1) := by decide +kernel
theorem dX8_question_49 : decode cX8_question 49 = .ok (.ireturn, 1) := by decide +kernel
theorem dX8_weightOf_0 : decode cX8_weightOf 0 = .ok (.iconst 0, 1) := by decide +kernel
theorem dX8_weightOf_1 : decode cX8_weightOf 1 = .ok (.istore_n 2, 1) := by decide +kernel
theorem dX8_weightOf_2 : decode cX8_weightOf 2 = .ok (.iconst 0, 1) := by decide +kernel
theorem dX8_weightOf_3 : decode cX8_weightOf 3 = .ok (.istore_n 3, 1) := by decide +kernel
theorem dX8_weightOf_4 : decode cX8_weightOf 4 = .ok (.iload_n 3, 1) := by decide +kernel
theorem dX8_weightOf_5 : decode cX8_weightOf 5 = .ok (.aload_n 0, 1) := by decide +kernel
theorem dX8_weightOf_6 : decode cX8_weightOf 6 = .ok (.getfield 95, 3) := by decide +kernel
theorem dX8_weightOf_9 : decode cX8_weightOf 9 = .ok (.if_icmp .ge 24, 3) := by decide +kernel
theorem dX8_weightOf_12 : decode cX8_weightOf 12 = .ok (.iload_n 2, 1) := by decide +kernel
theorem dX8_weightOf_13 : decode cX8_weightOf 13 = .ok (.iload_n 1, 1) := by decide +kernel
theorem dX8_weightOf_14 : decode cX8_weightOf 14 = .ok (.iload_n 3, 1) := by decide +kernel
theorem dX8_weightOf_15 : decode cX8_weightOf 15 = .ok (.ishr, 1) := by decide +kernel
theorem dX8_weightOf_16 : decode cX8_weightOf 16 = .ok (.iconst 1, 1) := by decide +kernel
theorem dX8_weightOf_17 : decode cX8_weightOf 17 = .ok (.iand, 1) := by decide +kernel
theorem dX8_weightOf_18 : decode cX8_weightOf 18 = .ok (.aload_n 0, 1) := by decide +kernel
theorem dX8_weightOf_19 : decode cX8_weightOf 19 = .ok (.getfield 73, 3) := by decide +kernel
theorem dX8_weightOf_22 : decode cX8_weightOf 22 = .ok (.iload_n 3, 1) := by decide +kernel
theorem dX8_weightOf_23 : decode cX8_weightOf 23 = .ok (.iaload, 1) := by decide +kernel
theorem dX8_weightOf_24 : decode cX8_weightOf 24 = .ok (.imul, 1) := by decide +kernel
theorem dX8_weightOf_25 : decode cX8_weightOf 25 = .ok (.iadd, 1) := by decide +kernel
theorem dX8_weightOf_26 : decode cX8_weightOf 26 = .ok (.istore_n 2, 1) := by decide +kernel
theorem dX8_weightOf_27 : decode cX8_weightOf 27 = .ok (.iinc 3 1, 3) := by decide +kernel
theorem dX8_weightOf_30 : decode cX8_weightOf 30 = .ok (.goto (-26), 3) := by decide +kernel
theorem dX8_weightOf_33 : decode cX8_weightOf 33 = .ok (.iload_n 2, 1) := by decide +kernel
theorem dX8_weightOf_34 : decode cX8_weightOf 34 = .ok (.ireturn, 1) := by decide +kernel
theorem dX8_findTrees_0 : decode cX8_findTrees 0 = .ok (.iconst 1, 1) := by decide +kernel
theorem dX8_findTrees_1 : decode cX8_findTrees 1 = .ok (.istore_n 1, 1) := by decide +kernel
theorem dX8_findTrees_2 : decode cX8_findTrees 2 = .ok (.iload_n 1, 1) := by decide +kernel
theorem dX8_findTrees_3 : decode cX8_findTrees 3 = .ok (.iconst 1, 1) := by decide +kernel
theorem dX8_findTrees_4 : decode cX8_findTrees 4 = .ok (.aload_n 0, 1) := by decide +kernel
theorem dX8_findTrees_5 : decode cX8_findTrees 5 = .ok (.getfield 95, 3) := by decide +kernel
theorem dX8_findTrees_8 : decode cX8_findTrees 8 = .ok (.ishl, 1) := by decide +kernel
theorem dX8_findTrees_9 : decode cX8_findTrees 9 = .ok (.if_icmp .ge 190, 3) := by decide +kernel
theorem dX8_findTrees_12 : decode cX8_findTrees 12 = .ok (.aload_n 0, 1) := by decide +kernel
theorem dX8_findTrees_13 : decode cX8_findTrees 13 = .ok (.getfield 79, 3) := by decide +kernel
theorem dX8_findTrees_16 : decode cX8_findTrees 16 = .ok (.iload_n 1, 1) := by decide +kernel
theorem dX8_findTrees_17 : decode cX8_findTrees 17 = .ok (.iconst 0, 1) := by decide +kernel
theorem dX8_findTrees_18 : decode cX8_findTrees 18 = .ok (.iastore, 1) := by decide +kernel
theorem dX8_findTrees_19 : decode cX8_findTrees 19 = .ok (.aload_n 0, 1) := by decide +kernel
theorem dX8_findTrees_20 : decode cX8_findTrees 20 = .ok (.getfield 82, 3) := by decide +kernel
theorem dX8_findTrees_23 : decode cX8_findTrees 23 = .ok (.iload_n 1, 1) := by decide +kernel
theorem dX8_findTrees_24 : decode cX8_findTrees 24 = .ok (.iconst (-1), 1) := by decide +kernel
theorem dX8_findTrees_25 : decode cX8_findTrees 25 = .ok (.iastore, 1) := by decide +kernel
theorem dX8_findTrees_26 : decode cX8_findTrees 26 = .ok (.aload_n 0, 1) := by decide +kernel
theorem dX8_findTrees_27 : decode cX8_findTrees 27 = .ok (.getfield 85, 3) := by decide +kernel
theorem dX8_findTrees_30 : decode cX8_findTrees 30 = .ok (.iload_n 1, 1) := by decide +kernel
theorem dX8_findTrees_31 : decode cX8_findTrees 31 = .ok (.iconst 0, 1) := by decide +kernel
theorem dX8_findTrees_32 : decode cX8_findTrees 32 = .ok (.iastore, 1) := by decide +kernel
theorem dX8_findTrees_33 : decode cX8_findTrees 33 = .ok (.ldc_w 276, 3) := by decide +kernel
theorem dX8_findTrees_36 : decode cX8_findTrees 36 = .ok (.istore_n 2, 1) := by decide +kernel
theorem dX8_findTrees_37 : decode cX8_findTrees 37 = .ok (.iconst 0, 1) := by decide +kernel
theorem dX8_findTrees_38 : decode cX8_findTrees 38 = .ok (.istore_n 3, 1) := by decide +kernel
theorem dX8_findTrees_39 : decode cX8_findTrees 39 = .ok (.iload_n 3, 1) := by decide +kernel
theorem dX8_findTrees_40 : decode cX8_findTrees 40 = .ok (.bipush 6, 2) := by decide +kernel
theorem dX8_findTrees_42 : decode cX8_findTrees 42 = .ok (.if_icmp .ge 125, 3) := by decide +kernel
theorem dX8_findTrees_45 : decode cX8_findTrees 45 = .ok (.iload_n 1, 1) := by decide +kernel
theorem dX8_findTrees_46 : decode cX8_findTrees 46 = .ok (.aload_n 0, 1) := by decide +kernel
theorem dX8_findTrees_47 : decode cX8_findTrees 47 = .ok (.getfield 76, 3) := by decide +kernel
theorem dX8_findTrees_50 : decode cX8_findTrees 50 = .ok (.iload_n 3, 1) := by decide +kernel
theorem dX8_findTrees_51 : decode cX8_findTrees 51 = .ok (.iaload, 1) := by decide +kernel
theorem dX8_findTrees_52 : decode cX8_findTrees 52 = .ok (.iand, 1) := by decide +kernel
theorem dX8_findTrees_53 : decode cX8_findTrees 53 = .ok (.istore 4, 2) := by decide +kernel
theorem dX8_findTrees_55 : decode cX8_findTrees 55 = .ok (.iload_n 1, 1) := by decide +kernel
theorem dX8_findTrees_56 : decode cX8_findTrees 56 = .ok (.aload_n 0, 1) := by decide +kernel
theorem dX8_findTrees_57 : decode cX8_findTrees 57 = .ok (.getfield 76, 3) := by decide +kernel
theorem dX8_findTrees_60 : decode cX8_findTrees 60 = .ok (.iload_n 3, 1) := by decide +kernel
theorem dX8_findTrees_61 : decode cX8_findTrees 61 = .ok (.iaload, 1) := by decide +kernel
theorem dX8_findTrees_62 : decode cX8_findTrees 62 = .ok (.iconst (-1), 1) := by decide +kernel
theorem dX8_findTrees_63 : decode cX8_findTrees 63 = .ok (.ixor, 1) := by decide +kernel
theorem dX8_findTrees_64 : decode cX8_findTrees 64 = .ok (.iand, 1) := by decide +kernel
theorem dX8_findTrees_65 : decode cX8_findTrees 65 = .ok (.istore 5, 2) := by decide +kernel
theorem dX8_findTrees_67 : decode cX8_findTrees 67 = .ok (.iload 4, 2) := by decide +kernel
theorem dX8_findTrees_69 : decode cX8_findTrees 69 = .ok (.ifCond .eq 92, 3) := by decide +kernel
theorem dX8_findTrees_72 : decode cX8_findTrees 72 = .ok (.iload 5, 2) := by decide +kernel
theorem dX8_findTrees_74 : decode cX8_findTrees 74 = .ok (.ifCond .eq 87, 3) := by decide +kernel
theorem dX8_findTrees_77 : decode cX8_findTrees 77 = .ok (.aload_n 0, 1) := by decide +kernel
theorem dX8_findTrees_78 : decode cX8_findTrees 78 = .ok (.getfield 79, 3) := by decide +kernel
theorem dX8_findTrees_81 : decode cX8_findTrees 81 = .ok (.iload 4, 2) := by decide +kernel
theorem dX8_findTrees_83 : decode cX8_findTrees 83 = .ok (.iaload, 1) := by decide +kernel
theorem dX8_findTrees_84 : decode cX8_findTrees 84 = .ok (.aload_n 0, 1) := by decide +kernel
theorem dX8_findTrees_85 : decode cX8_findTrees 85 = .ok (.getfield 79, 3) := by decide +kernel
theorem dX8_findTrees_88 : decode cX8_findTrees 88 = .ok (.iload 5, 2) := by decide +kernel
theorem dX8_findTrees_90 : decode cX8_findTrees 90 = .ok (.iaload, 1) := by decide +kernel
theorem dX8_findTrees_91 : decode cX8_findTrees 91 = .ok (.iadd, 1) := by decide +kernel
theorem dX8_findTrees_92 : decode cX8_findTrees 92 = .ok (.iload_n 2, 1) := by decide +kernel
theorem dX8_findTrees_93 : decode cX8_findTrees 93 = .ok (.if_icmp .ge 68, 3) := by decide +kernel
theorem dX8_findTrees_96 : decode cX8_findTrees 96 = .ok (.aload_n 0, 1) := by decide +kernel
theorem dX8_findTrees_97 : decode cX8_findTrees 97 = .ok (.getfield 79, 3) := by decide +kernel
theorem dX8_findTrees_100 : decode cX8_findTrees 100 = .ok (.iload 4, 2) := by decide +kernel
theorem dX8_findTrees_102 : decode cX8_findTrees 102 = .ok (.iaload, 1) := by decide +kernel
theorem dX8_findTrees_103 : decode cX8_findTrees 103 = .ok (.aload_n 0, 1) := by decide +kernel
theorem dX8_findTrees_104 : decode cX8_findTrees 104 = .ok (.getfield 79, 3) := by decide +kernel
theorem dX8_findTrees_107 : decode cX8_findTrees 107 = .ok (.iload 5, 2) := by decide +kernel
theorem dX8_findTrees_109 : decode cX8_findTrees 109 = .ok (.iaload, 1) := by decide +kernel
theorem dX8_findTrees_110 : decode cX8_findTrees 110 = .ok (.iadd, 1) := by decide +kernel
theorem dX8_findTrees_111 : decode cX8_findTrees 111 = .ok (.istore_n 2, 1) := by decide +kernel
theorem dX8_findTrees_112 : decode cX8_findTrees 112 = .ok (.aload_n 0, 1) := by decide +kernel
theorem dX8_findTrees_113 : decode cX8_findTrees 113 = .ok (.getfield 82, 3) := by decide +kernel
theorem dX8_findTrees_116 : decode cX8_findTrees 116 = .ok (.iload_n 1, 1) := by decide +kernel
theorem dX8_findTrees_117 : decode cX8_findTrees 117 = .ok (.iload_n 3, 1) := by decide +kernel
theorem dX8_findTrees_118 : decode cX8_findTrees 118 = .ok (.iastore, 1) := by decide +kernel
theorem dX8_findTrees_119 : decode cX8_findTrees 119 = .ok (.aload_n 0, 1) := by decide +kernel
theorem dX8_findTrees_120 : decode cX8_findTrees 120 = .ok (.getfield 85, 3) := by decide +kernel
theorem dX8_findTrees_123 : decode cX8_findTrees 123 = .ok (.iload_n 1, 1) := by decide +kernel
theorem dX8_findTrees_124 : decode cX8_findTrees 124 = .ok (.iconst 1, 1) := by decide +kernel
theorem dX8_findTrees_125 : decode cX8_findTrees 125 = .ok (.aload_n 0, 1) := by decide +kernel
theorem dX8_findTrees_126 : decode cX8_findTrees 126 = .ok (.getfield 85, 3) := by decide +kernel
theorem dX8_findTrees_129 : decode cX8_findTrees 129 = .ok (.iload 4, 2) := by decide +kernel
theorem dX8_findTrees_131 : decode cX8_findTrees 131 = .ok (.iaload, 1) := by decide +kernel
theorem dX8_findTrees_132 : decode cX8_findTrees 132 = .ok (.aload_n 0, 1) := by decide +kernel
theorem dX8_findTrees_133 : decode cX8_findTrees 133 = .ok (.getfield 85, 3) := by decide +kernel
theorem dX8_findTrees_136 : decode cX8_findTrees 136 = .ok (.iload 5, 2) := by decide +kernel
theorem dX8_findTrees_138 : decode cX8_findTrees 138 = .ok (.iaload, 1) := by decide +kernel
theorem dX8_findTrees_139 : decode cX8_findTrees 139 = .ok (.if_icmp .le 13, 3) := by decide +kernel
theorem dX8_findTrees_142 : decode cX8_findTrees 142 = .ok (.aload_n 0, 1) := by decide +kernel
theorem dX8_findTrees_143 : decode cX8_findTrees 143 = .ok (.getfield 85, 3) := by decide +kernel
theorem dX8_findTrees_146 : decode cX8_findTrees 146 = .ok (.iload 4, 2) := by decide +kernel
theorem dX8_findTrees_148 : decode cX8_findTrees 148 = .ok (.iaload, 1) := by decide +kernel
theorem dX8_findTrees_149 : decode cX8_findTrees 149 = .ok (.goto 10, 3) := by decide +kernel
theorem dX8_findTrees_152 : decode cX8_findTrees 152 = .ok (.aload_n 0, 1) := by decide +kernel
theorem dX8_findTrees_153 : decode cX8_findTrees 153 = .ok (.getfield 85, 3) := by decide +kernel
theorem dX8_findTrees_156 : decode cX8_findTrees 156 = .ok (.iload 5, 2) := by decide +kernel
theorem dX8_findTrees_158 : decode cX8_findTrees 158 = .ok (.iaload, 1) := by decide +kernel
theorem dX8_findTrees_159 : decode cX8_findTrees 159 = .ok (.iadd, 1) := by decide +kernel
theorem dX8_findTrees_160 : decode cX8_findTrees 160 = .ok (.iastore, 1) := by decide +kernel
theorem dX8_findTrees_161 : decode cX8_findTrees 161 = .ok (.iinc 3 1, 3) := by decide +kernel
theorem dX8_findTrees_164 : decode cX8_findTrees 164 = .ok (.goto (-125), 3) := by decide +kernel
theorem dX8_findTrees_167 : decode cX8_findTrees 167 = .ok (.aload_n 0, 1) := by decide +kernel
theorem dX8_findTrees_168 : decode cX8_findTrees 168 = .ok (.getfield 79, 3) := by decide +kernel
theorem dX8_findTrees_171 : decode cX8_findTrees 171 = .ok (.iload_n 1, 1) := by decide +kernel
theorem dX8_findTrees_172 : decode cX8_findTrees 172 = .ok (.aload_n 0, 1) := by decide +kernel
theorem dX8_findTrees_173 : decode cX8_findTrees 173 = .ok (.getfield 82, 3) := by decide +kernel
theorem dX8_findTrees_176 : decode cX8_findTrees 176 = .ok (.iload_n 1, 1) := by decide +kernel
theorem dX8_findTrees_177 : decode cX8_findTrees 177 = .ok (.iaload, 1) := by decide +kernel
theorem dX8_findTrees_178 : decode cX8_findTrees 178 = .ok (.ifCond .ge 7, 3) := by decide +kernel
theorem dX8_findTrees_181 : decode cX8_findTrees 181 = .ok (.iconst 0, 1) := by decide +kernel
theorem dX8_findTrees_182 : decode cX8_findTrees 182 = .ok (.goto 10, 3) := by decide +kernel
theorem dX8_findTrees_185 : decode cX8_findTrees 185 = .ok (.aload_n 0, 1) := by decide +kernel
theorem dX8_findTrees_186 : decode cX8_findTrees 186 = .ok (.iload_n 1, 1) := by decide +kernel
theorem dX8_findTrees_187 : decode cX8_findTrees 187 = .ok (.invokevirtual 277, 3) := by decide +kernel
theorem dX8_findTrees_190 : decode cX8_findTrees 190 = .ok (.iload_n 2, 1) := by decide +kernel
theorem dX8_findTrees_191 : decode cX8_findTrees 191 = .ok (.iadd, 1) := by decide +kernel
theorem dX8_findTrees_192 : decode cX8_findTrees 192 = .ok (.iastore, 1) := by decide +kernel
theorem dX8_findTrees_193 : decode cX8_findTrees 193 = .ok (.iinc 1 1, 3) := by decide +kernel
theorem dX8_findTrees_196 : decode cX8_findTrees 196 = .ok (.goto (-194), 3) := by decide +kernel
theorem dX8_findTrees_199 : decode cX8_findTrees 199 = .ok (.return_, 1) := by decide +kernel
theorem dX8_tree_0 : decode cX8_tree 0 = .ok (.iload_n 1, 1) := by decide +kernel
theorem dX8_tree_1 : decode cX8_tree 1 = .ok (.i2l, 1) := by decide +kernel
theorem dX8_tree_2 : decode cX8_tree 2 = .ok (.lconst 1, 1) := by decide +kernel
theorem dX8_tree_3 : decode cX8_tree 3 = .ok (.iconst 1, 1) := by decide +kernel
theorem dX8_tree_4 : decode cX8_tree 4 = .ok (.aload_n 0, 1) := by decide +kernel
theorem dX8_tree_5 : decode cX8_tree 5 = .ok (.getfield 95, 3) := by decide +kernel
theorem dX8_tree_8 : decode cX8_tree 8 = .ok (.ishl, 1) := by decide +kernel
theorem dX8_tree_9 : decode cX8_tree 9 = .ok (.iconst 1, 1) := by decide +kernel
theorem dX8_tree_10 : decode cX8_tree 10 = .ok (.isub, 1) := by decide +kernel
theorem dX8_tree_11 : decode cX8_tree 11 = .ok (.i2l, 1) := by decide +kernel
theorem dX8_tree_12 : decode cX8_tree 12 = .ok (.invokestatic 100, 3) := by decide +kernel
theorem dX8_tree_15 : decode cX8_tree 15 = .ok (.ifCond .eq 15, 3) := by decide +kernel
theorem dX8_tree_18 : decode cX8_tree 18 = .ok (.iload_n 2, 1) := by decide +kernel
theorem dX8_tree_19 : decode cX8_tree 19 = .ok (.i2l, 1) := by decide +kernel
theorem dX8_tree_20 : decode cX8_tree 20 = .ok (.lconst 0, 1) := by decide +kernel
theorem dX8_tree_21 : decode cX8_tree 21 = .ok (.ldc2_w 157, 3) := by decide +kernel
theorem dX8_tree_24 : decode cX8_tree 24 = .ok (.invokestatic 100, 3) := by decide +kernel
theorem dX8_tree_27 : decode cX8_tree 27 = .ok (.ifCond .ne 7, 3) := by decide +kernel
theorem dX8_tree_30 : decode cX8_tree 30 = .ok (.sipush (-1002), 3) := by decide +kernel
theorem dX8_tree_33 : decode cX8_tree 33 = .ok (.ireturn, 1) := by decide +kernel
theorem dX8_tree_34 : decode cX8_tree 34 = .ok (.aload_n 0, 1) := by decide +kernel
theorem dX8_tree_35 : decode cX8_tree 35 = .ok (.invokevirtual 280, 3) := by decide +kernel
theorem dX8_tree_38 : decode cX8_tree 38 = .ok (.iload_n 2, 1) := by decide +kernel
theorem dX8_tree_39 : decode cX8_tree 39 = .ok (.ifCond .ne 12, 3) := by decide +kernel
theorem dX8_tree_42 : decode cX8_tree 42 = .ok (.aload_n 0, 1) := by decide +kernel
theorem dX8_tree_43 : decode cX8_tree 43 = .ok (.getfield 79, 3) := by decide +kernel
theorem dX8_tree_46 : decode cX8_tree 46 = .ok (.iload_n 1, 1) := by decide +kernel
theorem dX8_tree_47 : decode cX8_tree 47 = .ok (.iaload, 1) := by decide +kernel
theorem dX8_tree_48 : decode cX8_tree 48 = .ok (.goto 23, 3) := by decide +kernel
theorem dX8_tree_51 : decode cX8_tree 51 = .ok (.iload_n 2, 1) := by decide +kernel
theorem dX8_tree_52 : decode cX8_tree 52 = .ok (.iconst 1, 1) := by decide +kernel
theorem dX8_tree_53 : decode cX8_tree 53 = .ok (.if_icmp .ne 12, 3) := by decide +kernel
theorem dX8_tree_56 : decode cX8_tree 56 = .ok (.aload_n 0, 1) := by decide +kernel
theorem dX8_tree_57 : decode cX8_tree 57 = .ok (.getfield 82, 3) := by decide +kernel
theorem dX8_tree_60 : decode cX8_tree 60 = .ok (.iload_n 1, 1) := by decide +kernel
theorem dX8_tree_61 : decode cX8_tree 61 = .ok (.iaload, 1) := by decide +kernel
theorem dX8_tree_62 : decode cX8_tree 62 = .ok (.goto 9, 3) := by decide +kernel
theorem dX8_tree_65 : decode cX8_tree 65 = .ok (.aload_n 0, 1) := by decide +kernel
theorem dX8_tree_66 : decode cX8_tree 66 = .ok (.getfield 85, 3) := by decide +kernel
theorem dX8_tree_69 : decode cX8_tree 69 = .ok (.iload_n 1, 1) := by decide +kernel
theorem dX8_tree_70 : decode cX8_tree 70 = .ok (.iaload, 1) := by decide +kernel
theorem dX8_tree_71 : decode cX8_tree 71 = .ok (.ireturn, 1) := by decide +kernel
theorem dX8_side_0 : decode cX8_side 0 = .ok (.aload_n 0, 1) := by decide +kernel
theorem dX8_side_1 : decode cX8_side 1 = .ok (.getfield 82, 3) := by decide +kernel
theorem dX8_side_4 : decode cX8_side 4 = .ok (.iload_n 1, 1) := by decide +kernel
theorem dX8_side_5 : decode cX8_side 5 = .ok (.iaload, 1) := by decide +kernel
theorem dX8_side_6 : decode cX8_side 6 = .ok (.istore 4, 2) := by decide +kernel
theorem dX8_side_8 : decode cX8_side 8 = .ok (.aload_n 0, 1) := by decide +kernel
theorem dX8_side_9 : decode cX8_side 9 = .ok (.getfield 76, 3) := by decide +kernel
theorem dX8_side_12 : decode cX8_side 12 = .ok (.iload 4, 2) := by decide +kernel
theorem dX8_side_14 : decode cX8_side 14 = .ok (.iaload, 1) := by decide +kernel
theorem dX8_side_15 : decode cX8_side 15 = .ok (.iload_n 2, 1) := by decide +kernel
theorem dX8_side_16 : decode cX8_side 16 = .ok (.ishr, 1) := by decide +kernel
theorem dX8_side_17 : decode cX8_side 17 = .ok (.iconst 1, 1) := by decide +kernel
theorem dX8_side_18 : decode cX8_side 18 = .ok (.iand, 1) := by decide +kernel
theorem dX8_side_19 : decode cX8_side 19 = .ok (.iconst 1, 1) := by decide +kernel
theorem dX8_side_20 : decode cX8_side 20 = .ok (.if_icmp .ne 7, 3) := by decide +kernel
theorem dX8_side_23 : decode cX8_side 23 = .ok (.iconst 1, 1) := by decide +kernel
theorem dX8_side_24 : decode cX8_side 24 = .ok (.goto 4, 3) := by decide +kernel
theorem dX8_side_27 : decode cX8_side 27 = .ok (.iconst 0, 1) := by decide +kernel
theorem dX8_side_28 : decode cX8_side 28 = .ok (.istore 5, 2) := by decide +kernel
theorem dX8_side_30 : decode cX8_side 30 = .ok (.iload 5, 2) := by decide +kernel
theorem dX8_side_32 : decode cX8_side 32 = .ok (.iload_n 3, 1) := by decide +kernel
theorem dX8_side_33 : decode cX8_side 33 = .ok (.if_icmp .eq 15, 3) := by decide +kernel
theorem dX8_side_36 : decode cX8_side 36 = .ok (.iload_n 1, 1) := by decide +kernel
theorem dX8_side_37 : decode cX8_side 37 = .ok (.aload_n 0, 1) := by decide +kernel
theorem dX8_side_38 : decode cX8_side 38 = .ok (.getfield 76, 3) := by decide +kernel
theorem dX8_side_41 : decode cX8_side 41 = .ok (.iload 4, 2) := by decide +kernel
theorem dX8_side_43 : decode cX8_side 43 = .ok (.iaload, 1) := by decide +kernel
theorem dX8_side_44 : decode cX8_side 44 = .ok (.iand, 1) := by decide +kernel
theorem dX8_side_45 : decode cX8_side 45 = .ok (.goto 14, 3) := by decide +kernel
theorem dX8_side_48 : decode cX8_side 48 = .ok (.iload_n 1, 1) := by decide +kernel
theorem dX8_side_49 : decode cX8_side 49 = .ok (.aload_n 0, 1) := by decide +kernel
theorem dX8_side_50 : decode cX8_side 50 = .ok (.getfield 76, 3) := by decide +kernel
theorem dX8_side_53 : decode cX8_side 53 = .ok (.iload 4, 2) := by decide +kernel
theorem dX8_side_55 : decode cX8_side 55 = .ok (.iaload, 1) := by decide +kernel
theorem dX8_side_56 : decode cX8_side 56 = .ok (.iconst (-1), 1) := by decide +kernel
theorem dX8_side_57 : decode cX8_side 57 = .ok (.ixor, 1) := by decide +kernel
theorem dX8_side_58 : decode cX8_side 58 = .ok (.iand, 1) := by decide +kernel
theorem dX8_side_59 : decode cX8_side 59 = .ok (.ireturn, 1) := by decide +kernel
theorem dX8_wrong_0 : decode cX8_wrong 0 = .ok (.iload_n 1, 1) := by decide +kernel
theorem dX8_wrong_1 : decode cX8_wrong 1 = .ok (.i2l, 1) := by decide +kernel
theorem dX8_wrong_2 : decode cX8_wrong 2 = .ok (.lconst 0, 1) := by decide +kernel
theorem dX8_wrong_3 : decode cX8_wrong 3 = .ok (.aload_n 0, 1) := by decide +kernel
theorem dX8_wrong_4 : decode cX8_wrong 4 = .ok (.getfield 95, 3) := by decide +kernel
theorem dX8_wrong_7 : decode cX8_wrong 7 = .ok (.iconst 1, 1) := by decide +kernel
theorem dX8_wrong_8 : decode cX8_wrong 8 = .ok (.isub, 1) := by decide +kernel
theorem dX8_wrong_9 : decode cX8_wrong 9 = .ok (.i2l, 1) := by decide +kernel
theorem dX8_wrong_10 : decode cX8_wrong 10 = .ok (.invokestatic 100, 3) := by decide +kernel
theorem dX8_wrong_13 : decode cX8_wrong 13 = .ok (.ifCond .ne 7, 3) := by decide +kernel
theorem dX8_wrong_16 : decode cX8_wrong 16 = .ok (.sipush (-1002), 3) := by decide +kernel
theorem dX8_wrong_19 : decode cX8_wrong 19 = .ok (.ireturn, 1) := by decide +kernel
theorem dX8_wrong_20 : decode cX8_wrong 20 = .ok (.aload_n 0, 1) := by decide +kernel
theorem dX8_wrong_21 : decode cX8_wrong 21 = .ok (.invokevirtual 280, 3) := by decide +kernel
theorem dX8_wrong_24 : decode cX8_wrong 24 = .ok (.iconst 1, 1) := by decide +kernel
theorem dX8_wrong_25 : decode cX8_wrong 25 = .ok (.aload_n 0, 1) := by decide +kernel
theorem dX8_wrong_26 : decode cX8_wrong 26 = .ok (.getfield 95, 3) := by decide +kernel
theorem dX8_wrong_29 : decode cX8_wrong 29 = .ok (.ishl, 1) := by decide +kernel
theorem dX8_wrong_30 : decode cX8_wrong 30 = .ok (.iconst 1, 1) := by decide +kernel
theorem dX8_wrong_31 : decode cX8_wrong 31 = .ok (.isub, 1) := by decide +kernel
theorem dX8_wrong_32 : decode cX8_wrong 32 = .ok (.istore_n 2, 1) := by decide +kernel
theorem dX8_wrong_33 : decode cX8_wrong 33 = .ok (.aload_n 0, 1) := by decide +kernel
theorem dX8_wrong_34 : decode cX8_wrong 34 = .ok (.getfield 82, 3) := by decide +kernel
theorem dX8_wrong_37 : decode cX8_wrong 37 = .ok (.iload_n 2, 1) := by decide +kernel
theorem dX8_wrong_38 : decode cX8_wrong 38 = .ok (.iaload, 1) := by decide +kernel
theorem dX8_wrong_39 : decode cX8_wrong 39 = .ok (.ifCond .ge 5, 3) := by decide +kernel
theorem dX8_wrong_42 : decode cX8_wrong 42 = .ok (.iconst 0, 1) := by decide +kernel
theorem dX8_wrong_43 : decode cX8_wrong 43 = .ok (.ireturn, 1) := by decide +kernel
theorem dX8_wrong_44 : decode cX8_wrong 44 = .ok (.aload_n 0, 1) := by decide +kernel
theorem dX8_wrong_45 : decode cX8_wrong 45 = .ok (.iload_n 2, 1) := by decide +kernel
theorem dX8_wrong_46 : decode cX8_wrong 46 = .ok (.iload_n 1, 1) := by decide +kernel
theorem dX8_wrong_47 : decode cX8_wrong 47 = .ok (.iconst 1, 1) := by decide +kernel
theorem dX8_wrong_48 : decode cX8_wrong 48 = .ok (.invokevirtual 283, 3) := by decide +kernel
theorem dX8_wrong_51 : decode cX8_wrong 51 = .ok (.istore_n 2, 1) := by decide +kernel
theorem dX8_wrong_52 : decode cX8_wrong 52 = .ok (.aload_n 0, 1) := by decide +kernel
theorem dX8_wrong_53 : decode cX8_wrong 53 = .ok (.getfield 82, 3) := by decide +kernel
theorem dX8_wrong_56 : decode cX8_wrong 56 = .ok (.iload_n 2, 1) := by decide +kernel
theorem dX8_wrong_57 : decode cX8_wrong 57 = .ok (.iaload, 1) := by decide +kernel
theorem dX8_wrong_58 : decode cX8_wrong 58 = .ok (.ifCond .lt 14, 3) := by decide +kernel
theorem dX8_wrong_61 : decode cX8_wrong 61 = .ok (.aload_n 0, 1) := by decide +kernel
theorem dX8_wrong_62 : decode cX8_wrong 62 = .ok (.iload_n 2, 1) := by decide +kernel
theorem dX8_wrong_63 : decode cX8_wrong 63 = .ok (.iload_n 1, 1) := by decide +kernel
theorem dX8_wrong_64 : decode cX8_wrong 64 = .ok (.iconst 0, 1) := by decide +kernel
theorem dX8_wrong_65 : decode cX8_wrong 65 = .ok (.invokevirtual 283, 3) := by decide +kernel
theorem dX8_wrong_68 : decode cX8_wrong 68 = .ok (.istore_n 2, 1) := by decide +kernel
theorem dX8_wrong_69 : decode cX8_wrong 69 = .ok (.goto (-17), 3) := by decide +kernel
theorem dX8_wrong_72 : decode cX8_wrong 72 = .ok (.iload_n 2, 1) := by decide +kernel
theorem dX8_wrong_73 : decode cX8_wrong 73 = .ok (.ireturn, 1) := by decide +kernel
theorem dJ9_max_7cf53_0 : decode cJ9_max_7cf53 0 = .ok (.iload_n 0, 1) := by decide +kernel
theorem dJ9_max_7cf53_1 : decode cJ9_max_7cf53 1 = .ok (.iload_n 1, 1) := by decide +kernel
theorem dJ9_max_7cf53_2 : decode cJ9_max_7cf53 2 = .ok (.if_icmp .lt 7, 3) := by decide +kernel
theorem dJ9_max_7cf53_5 : decode cJ9_max_7cf53 5 = .ok (.iload_n 0, 1) := by decide +kernel
theorem dJ9_max_7cf53_6 : decode cJ9_max_7cf53 6 = .ok (.goto 4, 3) := by decide +kernel
theorem dJ9_max_7cf53_9 : decode cJ9_max_7cf53 9 = .ok (.iload_n 1, 1) := by decide +kernel
theorem dJ9_max_7cf53_10 : decode cJ9_max_7cf53 10 = .ok (.ireturn, 1) := by decide +kernel
theorem dJ0_length_8abf5_0 : decode cJ0_length_8abf5 0 = .ok (.aload_n 0, 1) := by decide +kernel
theorem dJ0_length_8abf5_1 : decode cJ0_length_8abf5 1 = .ok (.getfield 9, 3) := by decide +kernel
theorem dJ0_length_8abf5_4 : decode cJ0_length_8abf5 4 = .ok (.arraylength, 1) := by decide +kernel
theorem dJ0_length_8abf5_5 : decode cJ0_length_8abf5 5 = .ok (.aload_n 0, 1) := by decide +kernel
theorem dJ0_length_8abf5_6 : decode cJ0_length_8abf5 6 = .ok (.invokevirtual 335, 3) := by decide +kernel
theorem dJ0_length_8abf5_9 : decode cJ0_length_8abf5 9 = .ok (.ishr, 1) := by decide +kernel
theorem dJ0_length_8abf5_10 : decode cJ0_length_8abf5 10 = .ok (.ireturn, 1) := by decide +kernel
theorem dJ0_charAt_5068e_0 : decode cJ0_charAt_5068e 0 = .ok (.aload_n 0, 1) := by decide +kernel
theorem dJ0_charAt_5068e_1 : decode cJ0_charAt_5068e 1 = .ok (.invokevirtual 492, 3) := by decide +kernel
theorem dJ0_charAt_5068e_4 : decode cJ0_charAt_5068e 4 = .ok (.ifCond .eq 12, 3) := by decide +kernel
theorem dJ0_charAt_5068e_7 : decode cJ0_charAt_5068e 7 = .ok (.aload_n 0, 1) := by decide +kernel
theorem dJ0_charAt_5068e_8 : decode cJ0_charAt_5068e 8 = .ok (.getfield 9, 3) := by decide +kernel
theorem dJ0_charAt_5068e_11 : decode cJ0_charAt_5068e 11 = .ok (.iload_n 1, 1) := by decide +kernel
theorem dJ0_charAt_5068e_12 : decode cJ0_charAt_5068e 12 = .ok (.invokestatic 495, 3) := by decide +kernel
theorem dJ0_charAt_5068e_15 : decode cJ0_charAt_5068e 15 = .ok (.ireturn, 1) := by decide +kernel
theorem dJ0_charAt_5068e_16 : decode cJ0_charAt_5068e 16 = .ok (.aload_n 0, 1) := by decide +kernel
theorem dJ0_charAt_5068e_17 : decode cJ0_charAt_5068e 17 = .ok (.getfield 9, 3) := by decide +kernel
theorem dJ0_charAt_5068e_20 : decode cJ0_charAt_5068e 20 = .ok (.iload_n 1, 1) := by decide +kernel
theorem dJ0_charAt_5068e_21 : decode cJ0_charAt_5068e 21 = .ok (.invokestatic 498, 3) := by decide +kernel
theorem dJ0_charAt_5068e_24 : decode cJ0_charAt_5068e 24 = .ok (.ireturn, 1) := by decide +kernel
theorem dJ0_coder_7d493_0 : decode cJ0_coder_7d493 0 = .ok (.getstatic 38, 3) := by decide +kernel
theorem dJ0_coder_7d493_3 : decode cJ0_coder_7d493 3 = .ok (.ifCond .eq 10, 3) := by decide +kernel
