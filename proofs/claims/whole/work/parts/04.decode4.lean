theorem dX8_takeNumber_93 : decode cX8_takeNumber 93 = .ok (.goto 21, 3) := by decide +kernel
theorem dX8_takeNumber_96 : decode cX8_takeNumber 96 = .ok (.bipush 10, 2) := by decide +kernel
theorem dX8_takeNumber_98 : decode cX8_takeNumber 98 = .ok (.iload 4, 2) := by decide +kernel
theorem dX8_takeNumber_100 : decode cX8_takeNumber 100 = .ok (.imul, 1) := by decide +kernel
theorem dX8_takeNumber_101 : decode cX8_takeNumber 101 = .ok (.aload_n 0, 1) := by decide +kernel
theorem dX8_takeNumber_102 : decode cX8_takeNumber 102 = .ok (.getfield 16, 3) := by decide +kernel
theorem dX8_takeNumber_105 : decode cX8_takeNumber 105 = .ok (.aload_n 0, 1) := by decide +kernel
theorem dX8_takeNumber_106 : decode cX8_takeNumber 106 = .ok (.getfield 109, 3) := by decide +kernel
theorem dX8_takeNumber_109 : decode cX8_takeNumber 109 = .ok (.iaload, 1) := by decide +kernel
theorem dX8_takeNumber_110 : decode cX8_takeNumber 110 = .ok (.iadd, 1) := by decide +kernel
theorem dX8_takeNumber_111 : decode cX8_takeNumber 111 = .ok (.bipush 48, 2) := by decide +kernel
theorem dX8_takeNumber_113 : decode cX8_takeNumber 113 = .ok (.isub, 1) := by decide +kernel
theorem dX8_takeNumber_114 : decode cX8_takeNumber 114 = .ok (.istore 4, 2) := by decide +kernel
theorem dX8_takeNumber_116 : decode cX8_takeNumber 116 = .ok (.aload_n 0, 1) := by decide +kernel
theorem dX8_takeNumber_117 : decode cX8_takeNumber 117 = .ok (.dup, 1) := by decide +kernel
theorem dX8_takeNumber_118 : decode cX8_takeNumber 118 = .ok (.getfield 109, 3) := by decide +kernel
theorem dX8_takeNumber_121 : decode cX8_takeNumber 121 = .ok (.iconst 1, 1) := by decide +kernel
theorem dX8_takeNumber_122 : decode cX8_takeNumber 122 = .ok (.iadd, 1) := by decide +kernel
theorem dX8_takeNumber_123 : decode cX8_takeNumber 123 = .ok (.putfield 109, 3) := by decide +kernel
theorem dX8_takeNumber_126 : decode cX8_takeNumber 126 = .ok (.goto (-76), 3) := by decide +kernel
theorem dX8_takeNumber_129 : decode cX8_takeNumber 129 = .ok (.aload_n 0, 1) := by decide +kernel
theorem dX8_takeNumber_130 : decode cX8_takeNumber 130 = .ok (.aload_n 0, 1) := by decide +kernel
theorem dX8_takeNumber_131 : decode cX8_takeNumber 131 = .ok (.getfield 109, 3) := by decide +kernel
theorem dX8_takeNumber_134 : decode cX8_takeNumber 134 = .ok (.aload_n 0, 1) := by decide +kernel
theorem dX8_takeNumber_135 : decode cX8_takeNumber 135 = .ok (.getfield 118, 3) := by decide +kernel
theorem dX8_takeNumber_138 : decode cX8_takeNumber 138 = .ok (.isub, 1) := by decide +kernel
theorem dX8_takeNumber_139 : decode cX8_takeNumber 139 = .ok (.iconst 4, 1) := by decide +kernel
theorem dX8_takeNumber_140 : decode cX8_takeNumber 140 = .ok (.if_icmp .ge 20, 3) := by decide +kernel
theorem dX8_takeNumber_143 : decode cX8_takeNumber 143 = .ok (.iload 4, 2) := by decide +kernel
theorem dX8_takeNumber_145 : decode cX8_takeNumber 145 = .ok (.i2l, 1) := by decide +kernel
theorem dX8_takeNumber_146 : decode cX8_takeNumber 146 = .ok (.iload_n 1, 1) := by decide +kernel
theorem dX8_takeNumber_147 : decode cX8_takeNumber 147 = .ok (.i2l, 1) := by decide +kernel
theorem dX8_takeNumber_148 : decode cX8_takeNumber 148 = .ok (.iload_n 2, 1) := by decide +kernel
theorem dX8_takeNumber_149 : decode cX8_takeNumber 149 = .ok (.i2l, 1) := by decide +kernel
theorem dX8_takeNumber_150 : decode cX8_takeNumber 150 = .ok (.invokestatic 100, 3) := by decide +kernel
theorem dX8_takeNumber_153 : decode cX8_takeNumber 153 = .ok (.ifCond .eq 7, 3) := by decide +kernel
theorem dX8_takeNumber_156 : decode cX8_takeNumber 156 = .ok (.iconst 1, 1) := by decide +kernel
theorem dX8_takeNumber_157 : decode cX8_takeNumber 157 = .ok (.goto 4, 3) := by decide +kernel
theorem dX8_takeNumber_160 : decode cX8_takeNumber 160 = .ok (.iconst 0, 1) := by decide +kernel
theorem dX8_takeNumber_161 : decode cX8_takeNumber 161 = .ok (.iconst 2, 1) := by decide +kernel
theorem dX8_takeNumber_162 : decode cX8_takeNumber 162 = .ok (.aload_n 0, 1) := by decide +kernel
theorem dX8_takeNumber_163 : decode cX8_takeNumber 163 = .ok (.getfield 118, 3) := by decide +kernel
theorem dX8_takeNumber_166 : decode cX8_takeNumber 166 = .ok (.invokevirtual 133, 3) := by decide +kernel
theorem dX8_takeNumber_169 : decode cX8_takeNumber 169 = .ok (.istore 5, 2) := by decide +kernel
theorem dX8_takeNumber_171 : decode cX8_takeNumber 171 = .ok (.iload 4, 2) := by decide +kernel
theorem dX8_takeNumber_173 : decode cX8_takeNumber 173 = .ok (.ireturn, 1) := by decide +kernel
theorem dX8_read_0 : decode cX8_read 0 = .ok (.aload_n 0, 1) := by decide +kernel
theorem dX8_read_1 : decode cX8_read 1 = .ok (.iconst 0, 1) := by decide +kernel
theorem dX8_read_2 : decode cX8_read 2 = .ok (.putfield 109, 3) := by decide +kernel
theorem dX8_read_5 : decode cX8_read 5 = .ok (.aload_n 0, 1) := by decide +kernel
theorem dX8_read_6 : decode cX8_read 6 = .ok (.iconst 0, 1) := by decide +kernel
theorem dX8_read_7 : decode cX8_read 7 = .ok (.putfield 112, 3) := by decide +kernel
theorem dX8_read_10 : decode cX8_read 10 = .ok (.aload_n 0, 1) := by decide +kernel
theorem dX8_read_11 : decode cX8_read 11 = .ok (.iconst (-1), 1) := by decide +kernel
theorem dX8_read_12 : decode cX8_read 12 = .ok (.putfield 19, 3) := by decide +kernel
theorem dX8_read_15 : decode cX8_read 15 = .ok (.iconst 0, 1) := by decide +kernel
theorem dX8_read_16 : decode cX8_read 16 = .ok (.istore_n 1, 1) := by decide +kernel
theorem dX8_read_17 : decode cX8_read 17 = .ok (.iconst 0, 1) := by decide +kernel
theorem dX8_read_18 : decode cX8_read 18 = .ok (.istore_n 2, 1) := by decide +kernel
theorem dX8_read_19 : decode cX8_read 19 = .ok (.iload_n 2, 1) := by decide +kernel
theorem dX8_read_20 : decode cX8_read 20 = .ok (.bipush 8, 2) := by decide +kernel
theorem dX8_read_22 : decode cX8_read 22 = .ok (.if_icmp .ge 19, 3) := by decide +kernel
theorem dX8_read_25 : decode cX8_read 25 = .ok (.aload_n 0, 1) := by decide +kernel
theorem dX8_read_26 : decode cX8_read 26 = .ok (.getfield 13, 3) := by decide +kernel
theorem dX8_read_29 : decode cX8_read 29 = .ok (.iload_n 2, 1) := by decide +kernel
theorem dX8_read_30 : decode cX8_read 30 = .ok (.iload_n 2, 1) := by decide +kernel
theorem dX8_read_31 : decode cX8_read 31 = .ok (.invokestatic 88, 3) := by decide +kernel
theorem dX8_read_34 : decode cX8_read 34 = .ok (.iastore, 1) := by decide +kernel
theorem dX8_read_35 : decode cX8_read 35 = .ok (.iinc 2 1, 3) := by decide +kernel
theorem dX8_read_38 : decode cX8_read 38 = .ok (.goto (-19), 3) := by decide +kernel
theorem dX8_read_41 : decode cX8_read 41 = .ok (.iconst 0, 1) := by decide +kernel
theorem dX8_read_42 : decode cX8_read 42 = .ok (.istore_n 2, 1) := by decide +kernel
theorem dX8_read_43 : decode cX8_read 43 = .ok (.aload_n 0, 1) := by decide +kernel
theorem dX8_read_44 : decode cX8_read 44 = .ok (.getfield 112, 3) := by decide +kernel
theorem dX8_read_47 : decode cX8_read 47 = .ok (.ifCond .ne 276, 3) := by decide +kernel
theorem dX8_read_50 : decode cX8_read 50 = .ok (.aload_n 0, 1) := by decide +kernel
theorem dX8_read_51 : decode cX8_read 51 = .ok (.invokevirtual 125, 3) := by decide +kernel
theorem dX8_read_54 : decode cX8_read 54 = .ok (.ifCond .lt 269, 3) := by decide +kernel
theorem dX8_read_57 : decode cX8_read 57 = .ok (.aload_n 0, 1) := by decide +kernel
theorem dX8_read_58 : decode cX8_read 58 = .ok (.aload_n 0, 1) := by decide +kernel
theorem dX8_read_59 : decode cX8_read 59 = .ok (.getfield 109, 3) := by decide +kernel
theorem dX8_read_62 : decode cX8_read 62 = .ok (.putfield 118, 3) := by decide +kernel
theorem dX8_read_65 : decode cX8_read 65 = .ok (.aload_n 0, 1) := by decide +kernel
theorem dX8_read_66 : decode cX8_read 66 = .ok (.getfield 109, 3) := by decide +kernel
theorem dX8_read_69 : decode cX8_read 69 = .ok (.aload_n 0, 1) := by decide +kernel
theorem dX8_read_70 : decode cX8_read 70 = .ok (.getfield 104, 3) := by decide +kernel
theorem dX8_read_73 : decode cX8_read 73 = .ok (.if_icmp .ge 38, 3) := by decide +kernel
theorem dX8_read_76 : decode cX8_read 76 = .ok (.aload_n 0, 1) := by decide +kernel
theorem dX8_read_77 : decode cX8_read 77 = .ok (.getfield 16, 3) := by decide +kernel
theorem dX8_read_80 : decode cX8_read 80 = .ok (.aload_n 0, 1) := by decide +kernel
theorem dX8_read_81 : decode cX8_read 81 = .ok (.getfield 109, 3) := by decide +kernel
theorem dX8_read_84 : decode cX8_read 84 = .ok (.iaload, 1) := by decide +kernel
theorem dX8_read_85 : decode cX8_read 85 = .ok (.i2l, 1) := by decide +kernel
theorem dX8_read_86 : decode cX8_read 86 = .ok (.ldc2_w 137, 3) := by decide +kernel
theorem dX8_read_89 : decode cX8_read 89 = .ok (.ldc2_w 139, 3) := by decide +kernel
theorem dX8_read_92 : decode cX8_read 92 = .ok (.invokestatic 100, 3) := by decide +kernel
theorem dX8_read_95 : decode cX8_read 95 = .ok (.ifCond .eq 16, 3) := by decide +kernel
theorem dX8_read_98 : decode cX8_read 98 = .ok (.aload_n 0, 1) := by decide +kernel
theorem dX8_read_99 : decode cX8_read 99 = .ok (.dup, 1) := by decide +kernel
theorem dX8_read_100 : decode cX8_read 100 = .ok (.getfield 109, 3) := by decide +kernel
theorem dX8_read_103 : decode cX8_read 103 = .ok (.iconst 1, 1) := by decide +kernel
theorem dX8_read_104 : decode cX8_read 104 = .ok (.iadd, 1) := by decide +kernel
theorem dX8_read_105 : decode cX8_read 105 = .ok (.putfield 109, 3) := by decide +kernel
theorem dX8_read_108 : decode cX8_read 108 = .ok (.goto (-43), 3) := by decide +kernel
theorem dX8_read_111 : decode cX8_read 111 = .ok (.aload_n 0, 1) := by decide +kernel
theorem dX8_read_112 : decode cX8_read 112 = .ok (.aload_n 0, 1) := by decide +kernel
theorem dX8_read_113 : decode cX8_read 113 = .ok (.getfield 109, 3) := by decide +kernel
theorem dX8_read_116 : decode cX8_read 116 = .ok (.aload_n 0, 1) := by decide +kernel
theorem dX8_read_117 : decode cX8_read 117 = .ok (.getfield 118, 3) := by decide +kernel
theorem dX8_read_120 : decode cX8_read 120 = .ok (.isub, 1) := by decide +kernel
theorem dX8_read_121 : decode cX8_read 121 = .ok (.putfield 115, 3) := by decide +kernel
theorem dX8_read_124 : decode cX8_read 124 = .ok (.aload_n 0, 1) := by decide +kernel
theorem dX8_read_125 : decode cX8_read 125 = .ok (.getfield 118, 3) := by decide +kernel
theorem dX8_read_128 : decode cX8_read 128 = .ok (.istore_n 3, 1) := by decide +kernel
theorem dX8_read_129 : decode cX8_read 129 = .ok (.aload_n 0, 1) := by decide +kernel
theorem dX8_read_130 : decode cX8_read 130 = .ok (.invokevirtual 141, 3) := by decide +kernel
theorem dX8_read_133 : decode cX8_read 133 = .ok (.istore 4, 2) := by decide +kernel
theorem dX8_read_135 : decode cX8_read 135 = .ok (.aload_n 0, 1) := by decide +kernel
theorem dX8_read_136 : decode cX8_read 136 = .ok (.iload 4, 2) := by decide +kernel
theorem dX8_read_138 : decode cX8_read 138 = .ok (.ifCond .lt 7, 3) := by decide +kernel
theorem dX8_read_141 : decode cX8_read 141 = .ok (.iconst 1, 1) := by decide +kernel
theorem dX8_read_142 : decode cX8_read 142 = .ok (.goto 4, 3) := by decide +kernel
theorem dX8_read_145 : decode cX8_read 145 = .ok (.iconst 0, 1) := by decide +kernel
theorem dX8_read_146 : decode cX8_read 146 = .ok (.iconst 1, 1) := by decide +kernel
theorem dX8_read_147 : decode cX8_read 147 = .ok (.iload_n 3, 1) := by decide +kernel
theorem dX8_read_148 : decode cX8_read 148 = .ok (.invokevirtual 133, 3) := by decide +kernel
theorem dX8_read_151 : decode cX8_read 151 = .ok (.ifCond .eq 120, 3) := by decide +kernel
theorem dX8_read_154 : decode cX8_read 154 = .ok (.aload_n 0, 1) := by decide +kernel
theorem dX8_read_155 : decode cX8_read 155 = .ok (.iload_n 1, 1) := by decide +kernel
theorem dX8_read_156 : decode cX8_read 156 = .ok (.iload 4, 2) := by decide +kernel
theorem dX8_read_158 : decode cX8_read 158 = .ok (.ishr, 1) := by decide +kernel
theorem dX8_read_159 : decode cX8_read 159 = .ok (.iconst 1, 1) := by decide +kernel
theorem dX8_read_160 : decode cX8_read 160 = .ok (.iand, 1) := by decide +kernel
theorem dX8_read_161 : decode cX8_read 161 = .ok (.ifCond .ne 7, 3) := by decide +kernel
theorem dX8_read_164 : decode cX8_read 164 = .ok (.iconst 1, 1) := by decide +kernel
theorem dX8_read_165 : decode cX8_read 165 = .ok (.goto 4, 3) := by decide +kernel
theorem dX8_read_168 : decode cX8_read 168 = .ok (.iconst 0, 1) := by decide +kernel
theorem dX8_read_169 : decode cX8_read 169 = .ok (.iconst 3, 1) := by decide +kernel
theorem dX8_read_170 : decode cX8_read 170 = .ok (.iload_n 3, 1) := by decide +kernel
theorem dX8_read_171 : decode cX8_read 171 = .ok (.invokevirtual 133, 3) := by decide +kernel
theorem dX8_read_174 : decode cX8_read 174 = .ok (.ifCond .eq 97, 3) := by decide +kernel
theorem dX8_read_177 : decode cX8_read 177 = .ok (.iload_n 1, 1) := by decide +kernel
theorem dX8_read_178 : decode cX8_read 178 = .ok (.iconst 1, 1) := by decide +kernel
theorem dX8_read_179 : decode cX8_read 179 = .ok (.iload 4, 2) := by decide +kernel
theorem dX8_read_181 : decode cX8_read 181 = .ok (.ishl, 1) := by decide +kernel
theorem dX8_read_182 : decode cX8_read 182 = .ok (.ior, 1) := by decide +kernel
theorem dX8_read_183 : decode cX8_read 183 = .ok (.istore_n 1, 1) := by decide +kernel
theorem dX8_read_184 : decode cX8_read 184 = .ok (.iload 4, 2) := by decide +kernel
theorem dX8_read_186 : decode cX8_read 186 = .ok (.iconst 4, 1) := by decide +kernel
theorem dX8_read_187 : decode cX8_read 187 = .ok (.if_icmp .eq 10, 3) := by decide +kernel
theorem dX8_read_190 : decode cX8_read 190 = .ok (.iload 4, 2) := by decide +kernel
theorem dX8_read_192 : decode cX8_read 192 = .ok (.bipush 7, 2) := by decide +kernel
theorem dX8_read_194 : decode cX8_read 194 = .ok (.if_icmp .ne 8, 3) := by decide +kernel
theorem dX8_read_197 : decode cX8_read 197 = .ok (.bipush 34, 2) := by decide +kernel
theorem dX8_read_199 : decode cX8_read 199 = .ok (.goto 21, 3) := by decide +kernel
theorem dX8_read_202 : decode cX8_read 202 = .ok (.iload 4, 2) := by decide +kernel
theorem dX8_read_204 : decode cX8_read 204 = .ok (.iconst 5, 1) := by decide +kernel
theorem dX8_read_205 : decode cX8_read 205 = .ok (.if_icmp .eq 10, 3) := by decide +kernel
theorem dX8_read_208 : decode cX8_read 208 = .ok (.iload 4, 2) := by decide +kernel
theorem dX8_read_210 : decode cX8_read 210 = .ok (.bipush 6, 2) := by decide +kernel
theorem dX8_read_212 : decode cX8_read 212 = .ok (.if_icmp .ne 7, 3) := by decide +kernel
theorem dX8_read_215 : decode cX8_read 215 = .ok (.iconst 1, 1) := by decide +kernel
theorem dX8_read_216 : decode cX8_read 216 = .ok (.goto 4, 3) := by decide +kernel
theorem dX8_read_219 : decode cX8_read 219 = .ok (.iconst 0, 1) := by decide +kernel
theorem dX8_read_220 : decode cX8_read 220 = .ok (.istore 5, 2) := by decide +kernel
theorem dX8_read_222 : decode cX8_read 222 = .ok (.aload_n 0, 1) := by decide +kernel
theorem dX8_read_223 : decode cX8_read 223 = .ok (.getfield 13, 3) := by decide +kernel
theorem dX8_read_226 : decode cX8_read 226 = .ok (.iload 4, 2) := by decide +kernel
theorem dX8_read_228 : decode cX8_read 228 = .ok (.aload_n 0, 1) := by decide +kernel
theorem dX8_read_229 : decode cX8_read 229 = .ok (.iload 5, 2) := by decide +kernel
theorem dX8_read_231 : decode cX8_read 231 = .ok (.iload 4, 2) := by decide +kernel
theorem dX8_read_233 : decode cX8_read 233 = .ok (.iconst 3, 1) := by decide +kernel
theorem dX8_read_234 : decode cX8_read 234 = .ok (.if_icmp .ge 8, 3) := by decide +kernel
theorem dX8_read_237 : decode cX8_read 237 = .ok (.bipush 100, 2) := by decide +kernel
theorem dX8_read_239 : decode cX8_read 239 = .ok (.goto 28, 3) := by decide +kernel
theorem dX8_read_242 : decode cX8_read 242 = .ok (.iload 4, 2) := by decide +kernel
theorem dX8_read_244 : decode cX8_read 244 = .ok (.iconst 5, 1) := by decide +kernel
theorem dX8_read_245 : decode cX8_read 245 = .ok (.if_icmp .ne 8, 3) := by decide +kernel
theorem dX8_read_248 : decode cX8_read 248 = .ok (.bipush 8, 2) := by decide +kernel
theorem dX8_read_250 : decode cX8_read 250 = .ok (.goto 17, 3) := by decide +kernel
theorem dX8_read_253 : decode cX8_read 253 = .ok (.iload 4, 2) := by decide +kernel
theorem dX8_read_255 : decode cX8_read 255 = .ok (.bipush 6, 2) := by decide +kernel
theorem dX8_read_257 : decode cX8_read 257 = .ok (.if_icmp .ne 8, 3) := by decide +kernel
theorem dX8_read_260 : decode cX8_read 260 = .ok (.bipush 9, 2) := by decide +kernel
theorem dX8_read_262 : decode cX8_read 262 = .ok (.goto 5, 3) := by decide +kernel
theorem dX8_read_265 : decode cX8_read 265 = .ok (.bipush 99, 2) := by decide +kernel
theorem dX8_read_267 : decode cX8_read 267 = .ok (.invokevirtual 144, 3) := by decide +kernel
theorem dX8_read_270 : decode cX8_read 270 = .ok (.iastore, 1) := by decide +kernel
theorem dX8_read_271 : decode cX8_read 271 = .ok (.aload_n 0, 1) := by decide +kernel
theorem dX8_read_272 : decode cX8_read 272 = .ok (.getfield 112, 3) := by decide +kernel
theorem dX8_read_275 : decode cX8_read 275 = .ok (.ifCond .ne 42, 3) := by decide +kernel
theorem dX8_read_278 : decode cX8_read 278 = .ok (.aload_n 0, 1) := by decide +kernel
theorem dX8_read_279 : decode cX8_read 279 = .ok (.invokevirtual 125, 3) := by decide +kernel
theorem dX8_read_282 : decode cX8_read 282 = .ok (.istore 5, 2) := by decide +kernel
theorem dX8_read_284 : decode cX8_read 284 = .ok (.aload_n 0, 1) := by decide +kernel
theorem dX8_read_285 : decode cX8_read 285 = .ok (.dup, 1) := by decide +kernel
theorem dX8_read_286 : decode cX8_read 286 = .ok (.getfield 109, 3) := by decide +kernel
theorem dX8_read_289 : decode cX8_read 289 = .ok (.aload_n 0, 1) := by decide +kernel
theorem dX8_read_290 : decode cX8_read 290 = .ok (.iload 5, 2) := by decide +kernel
theorem dX8_read_292 : decode cX8_read 292 = .ok (.bipush 59, 2) := by decide +kernel
theorem dX8_read_294 : decode cX8_read 294 = .ok (.if_icmp .ne 7, 3) := by decide +kernel
theorem dX8_read_297 : decode cX8_read 297 = .ok (.iconst 1, 1) := by decide +kernel
theorem dX8_read_298 : decode cX8_read 298 = .ok (.goto 4, 3) := by decide +kernel
theorem dX8_read_301 : decode cX8_read 301 = .ok (.iconst 0, 1) := by decide +kernel
theorem dX8_read_302 : decode cX8_read 302 = .ok (.iconst 1, 1) := by decide +kernel
theorem dX8_read_303 : decode cX8_read 303 = .ok (.aload_n 0, 1) := by decide +kernel
theorem dX8_read_304 : decode cX8_read 304 = .ok (.getfield 109, 3) := by decide +kernel
theorem dX8_read_307 : decode cX8_read 307 = .ok (.invokevirtual 133, 3) := by decide +kernel
theorem dX8_read_310 : decode cX8_read 310 = .ok (.invokestatic 148, 3) := by decide +kernel
theorem dX8_read_313 : decode cX8_read 313 = .ok (.iadd, 1) := by decide +kernel
theorem dX8_read_314 : decode cX8_read 314 = .ok (.putfield 109, 3) := by decide +kernel
theorem dX8_read_317 : decode cX8_read 317 = .ok (.iinc 2 1, 3) := by decide +kernel
theorem dX8_read_320 : decode cX8_read 320 = .ok (.goto (-277), 3) := by decide +kernel
theorem dX8_read_323 : decode cX8_read 323 = .ok (.aload_n 0, 1) := by decide +kernel
theorem dX8_read_324 : decode cX8_read 324 = .ok (.iconst 0, 1) := by decide +kernel
theorem dX8_read_325 : decode cX8_read 325 = .ok (.putfield 104, 3) := by decide +kernel
theorem dX8_read_328 : decode cX8_read 328 = .ok (.aload_n 0, 1) := by decide +kernel
theorem dX8_read_329 : decode cX8_read 329 = .ok (.getfield 112, 3) := by decide +kernel
theorem dX8_read_332 : decode cX8_read 332 = .ok (.ifCond .le 11, 3) := by decide +kernel
theorem dX8_read_335 : decode cX8_read 335 = .ok (.bipush (-10), 2) := by decide +kernel
theorem dX8_read_337 : decode cX8_read 337 = .ok (.aload_n 0, 1) := by decide +kernel
theorem dX8_read_338 : decode cX8_read 338 = .ok (.getfield 112, 3) := by decide +kernel
theorem dX8_read_341 : decode cX8_read 341 = .ok (.isub, 1) := by decide +kernel
theorem dX8_read_342 : decode cX8_read 342 = .ok (.ireturn, 1) := by decide +kernel
theorem dX8_read_343 : decode cX8_read 343 = .ok (.iconst 0, 1) := by decide +kernel
theorem dX8_read_344 : decode cX8_read 344 = .ok (.istore_n 3, 1) := by decide +kernel
theorem dX8_read_345 : decode cX8_read 345 = .ok (.iload_n 3, 1) := by decide +kernel
theorem dX8_read_346 : decode cX8_read 346 = .ok (.bipush 8, 2) := by decide +kernel
theorem dX8_read_348 : decode cX8_read 348 = .ok (.if_icmp .ge 21, 3) := by decide +kernel
theorem dX8_read_351 : decode cX8_read 351 = .ok (.aload_n 0, 1) := by decide +kernel
theorem dX8_read_352 : decode cX8_read 352 = .ok (.getfield 7, 3) := by decide +kernel
theorem dX8_read_355 : decode cX8_read 355 = .ok (.iload_n 3, 1) := by decide +kernel
theorem dX8_read_356 : decode cX8_read 356 = .ok (.aload_n 0, 1) := by decide +kernel
theorem dX8_read_357 : decode cX8_read 357 = .ok (.getfield 13, 3) := by decide +kernel
theorem dX8_read_360 : decode cX8_read 360 = .ok (.iload_n 3, 1) := by decide +kernel
theorem dX8_read_361 : decode cX8_read 361 = .ok (.iaload, 1) := by decide +kernel
theorem dX8_read_362 : decode cX8_read 362 = .ok (.iastore, 1) := by decide +kernel
theorem dX8_read_363 : decode cX8_read 363 = .ok (.iinc 3 1, 3) := by decide +kernel
theorem dX8_read_366 : decode cX8_read 366 = .ok (.goto (-21), 3) := by decide +kernel
theorem dX8_read_369 : decode cX8_read 369 = .ok (.iload_n 2, 1) := by decide +kernel
theorem dX8_read_370 : decode cX8_read 370 = .ok (.ireturn, 1) := by decide +kernel
theorem dX8_fault_0 : decode cX8_fault 0 = .ok (.aload_n 0, 1) := by decide +kernel
theorem dX8_fault_1 : decode cX8_fault 1 = .ok (.getfield 19, 3) := by decide +kernel
theorem dX8_fault_4 : decode cX8_fault 4 = .ok (.ireturn, 1) := by decide +kernel
theorem dX8_law_0 : decode cX8_law 0 = .ok (.iload_n 1, 1) := by decide +kernel
theorem dX8_law_1 : decode cX8_law 1 = .ok (.i2l, 1) := by decide +kernel
theorem dX8_law_2 : decode cX8_law 2 = .ok (.lconst 0, 1) := by decide +kernel
theorem dX8_law_3 : decode cX8_law 3 = .ok (.ldc2_w 152, 3) := by decide +kernel
theorem dX8_law_6 : decode cX8_law 6 = .ok (.invokestatic 100, 3) := by decide +kernel
theorem dX8_law_9 : decode cX8_law 9 = .ok (.ifCond .eq 12, 3) := by decide +kernel
theorem dX8_law_12 : decode cX8_law 12 = .ok (.aload_n 0, 1) := by decide +kernel
theorem dX8_law_13 : decode cX8_law 13 = .ok (.getfield 7, 3) := by decide +kernel
theorem dX8_law_16 : decode cX8_law 16 = .ok (.iload_n 1, 1) := by decide +kernel
theorem dX8_law_17 : decode cX8_law 17 = .ok (.iaload, 1) := by decide +kernel
theorem dX8_law_18 : decode cX8_law 18 = .ok (.goto 6, 3) := by decide +kernel
theorem dX8_law_21 : decode cX8_law 21 = .ok (.sipush (-1002), 3) := by decide +kernel
theorem dX8_law_24 : decode cX8_law 24 = .ok (.ireturn, 1) := by decide +kernel
theorem dX8_add_0 : decode cX8_add 0 = .ok (.aload_n 0, 1) := by decide +kernel
theorem dX8_add_1 : decode cX8_add 1 = .ok (.getfield 154, 3) := by decide +kernel
theorem dX8_add_4 : decode cX8_add 4 = .ok (.bipush 24, 2) := by decide +kernel
theorem dX8_add_6 : decode cX8_add 6 = .ok (.if_icmp .ne 7, 3) := by decide +kernel
theorem dX8_add_9 : decode cX8_add 9 = .ok (.sipush (-1004), 3) := by decide +kernel
theorem dX8_add_12 : decode cX8_add 12 = .ok (.ireturn, 1) := by decide +kernel
theorem dX8_add_13 : decode cX8_add 13 = .ok (.aload_n 0, 1) := by decide +kernel
theorem dX8_add_14 : decode cX8_add 14 = .ok (.getfield 23, 3) := by decide +kernel
theorem dX8_add_17 : decode cX8_add 17 = .ok (.aload_n 0, 1) := by decide +kernel
theorem dX8_add_18 : decode cX8_add 18 = .ok (.getfield 154, 3) := by decide +kernel
theorem dX8_add_21 : decode cX8_add 21 = .ok (.iload_n 1, 1) := by decide +kernel
theorem dX8_add_22 : decode cX8_add 22 = .ok (.iastore, 1) := by decide +kernel
theorem dX8_add_23 : decode cX8_add 23 = .ok (.aload_n 0, 1) := by decide +kernel
theorem dX8_add_24 : decode cX8_add 24 = .ok (.getfield 26, 3) := by decide +kernel
theorem dX8_add_27 : decode cX8_add 27 = .ok (.aload_n 0, 1) := by decide +kernel
theorem dX8_add_28 : decode cX8_add 28 = .ok (.getfield 154, 3) := by decide +kernel
theorem dX8_add_31 : decode cX8_add 31 = .ok (.iload_n 2, 1) := by decide +kernel
theorem dX8_add_32 : decode cX8_add 32 = .ok (.iastore, 1) := by decide +kernel
theorem dX8_add_33 : decode cX8_add 33 = .ok (.aload_n 0, 1) := by decide +kernel
theorem dX8_add_34 : decode cX8_add 34 = .ok (.getfield 29, 3) := by decide +kernel
theorem dX8_add_37 : decode cX8_add 37 = .ok (.aload_n 0, 1) := by decide +kernel
theorem dX8_add_38 : decode cX8_add 38 = .ok (.getfield 154, 3) := by decide +kernel
theorem dX8_add_41 : decode cX8_add 41 = .ok (.iload_n 3, 1) := by decide +kernel
theorem dX8_add_42 : decode cX8_add 42 = .ok (.iastore, 1) := by decide +kernel
theorem dX8_add_43 : decode cX8_add 43 = .ok (.aload_n 0, 1) := by decide +kernel
theorem dX8_add_44 : decode cX8_add 44 = .ok (.getfield 32, 3) := by decide +kernel
theorem dX8_add_47 : decode cX8_add 47 = .ok (.aload_n 0, 1) := by decide +kernel
theorem dX8_add_48 : decode cX8_add 48 = .ok (.getfield 154, 3) := by decide +kernel
theorem dX8_add_51 : decode cX8_add 51 = .ok (.iload 4, 2) := by decide +kernel
theorem dX8_add_53 : decode cX8_add 53 = .ok (.bastore, 1) := by decide +kernel
theorem dX8_add_54 : decode cX8_add 54 = .ok (.aload_n 0, 1) := by decide +kernel
theorem dX8_add_55 : decode cX8_add 55 = .ok (.getfield 36, 3) := by decide +kernel
theorem dX8_add_58 : decode cX8_add 58 = .ok (.aload_n 0, 1) := by decide +kernel
theorem dX8_add_59 : decode cX8_add 59 = .ok (.getfield 154, 3) := by decide +kernel
theorem dX8_add_62 : decode cX8_add 62 = .ok (.iload 5, 2) := by decide +kernel
theorem dX8_add_64 : decode cX8_add 64 = .ok (.iastore, 1) := by decide +kernel
theorem dX8_add_65 : decode cX8_add 65 = .ok (.aload_n 0, 1) := by decide +kernel
theorem dX8_add_66 : decode cX8_add 66 = .ok (.dup, 1) := by decide +kernel
theorem dX8_add_67 : decode cX8_add 67 = .ok (.getfield 154, 3) := by decide +kernel
theorem dX8_add_70 : decode cX8_add 70 = .ok (.iconst 1, 1) := by decide +kernel
theorem dX8_add_71 : decode cX8_add 71 = .ok (.iadd, 1) := by decide +kernel
theorem dX8_add_72 : decode cX8_add 72 = .ok (.putfield 154, 3) := by decide +kernel
theorem dX8_add_75 : decode cX8_add 75 = .ok (.aload_n 0, 1) := by decide +kernel
theorem dX8_add_76 : decode cX8_add 76 = .ok (.getfield 154, 3) := by decide +kernel
theorem dX8_add_79 : decode cX8_add 79 = .ok (.iconst 1, 1) := by decide +kernel
theorem dX8_add_80 : decode cX8_add 80 = .ok (.isub, 1) := by decide +kernel
theorem dX8_add_81 : decode cX8_add 81 = .ok (.ireturn, 1) := by decide +kernel
theorem dX8_picture_0 : decode cX8_picture 0 = .ok (.iload_n 1, 1) := by decide +kernel
theorem dX8_picture_1 : decode cX8_picture 1 = .ok (.i2l, 1) := by decide +kernel
theorem dX8_picture_2 : decode cX8_picture 2 = .ok (.lconst 0, 1) := by decide +kernel
theorem dX8_picture_3 : decode cX8_picture 3 = .ok (.ldc2_w 157, 3) := by decide +kernel
theorem dX8_picture_6 : decode cX8_picture 6 = .ok (.invokestatic 100, 3) := by decide +kernel
theorem dX8_picture_9 : decode cX8_picture 9 = .ok (.ifCond .eq 25, 3) := by decide +kernel
theorem dX8_picture_12 : decode cX8_picture 12 = .ok (.iload_n 2, 1) := by decide +kernel
theorem dX8_picture_13 : decode cX8_picture 13 = .ok (.i2l, 1) := by decide +kernel
theorem dX8_picture_14 : decode cX8_picture 14 = .ok (.lconst 0, 1) := by decide +kernel
theorem dX8_picture_15 : decode cX8_picture 15 = .ok (.lconst 1, 1) := by decide +kernel
theorem dX8_picture_16 : decode cX8_picture 16 = .ok (.invokestatic 100, 3) := by decide +kernel
theorem dX8_picture_19 : decode cX8_picture 19 = .ok (.ifCond .eq 15, 3) := by decide +kernel
theorem dX8_picture_22 : decode cX8_picture 22 = .ok (.iload_n 3, 1) := by decide +kernel
theorem dX8_picture_23 : decode cX8_picture 23 = .ok (.i2l, 1) := by decide +kernel
theorem dX8_picture_24 : decode cX8_picture 24 = .ok (.lconst 0, 1) := by decide +kernel
theorem dX8_picture_25 : decode cX8_picture 25 = .ok (.ldc2_w 159, 3) := by decide +kernel
theorem dX8_picture_28 : decode cX8_picture 28 = .ok (.invokestatic 100, 3) := by decide +kernel
theorem dX8_picture_31 : decode cX8_picture 31 = .ok (.ifCond .ne 7, 3) := by decide +kernel
theorem dX8_picture_34 : decode cX8_picture 34 = .ok (.sipush (-1002), 3) := by decide +kernel
theorem dX8_picture_37 : decode cX8_picture 37 = .ok (.ireturn, 1) := by decide +kernel
theorem dX8_picture_38 : decode cX8_picture 38 = .ok (.aload_n 0, 1) := by decide +kernel
theorem dX8_picture_39 : decode cX8_picture 39 = .ok (.iload_n 1, 1) := by decide +kernel
theorem dX8_picture_40 : decode cX8_picture 40 = .ok (.iload_n 2, 1) := by decide +kernel
theorem dX8_picture_41 : decode cX8_picture 41 = .ok (.iload_n 3, 1) := by decide +kernel
theorem dX8_picture_42 : decode cX8_picture 42 = .ok (.iload 4, 2) := by decide +kernel
theorem dX8_picture_44 : decode cX8_picture 44 = .ok (.iconst (-1), 1) := by decide +kernel
theorem dX8_picture_45 : decode cX8_picture 45 = .ok (.invokevirtual 161, 3) := by decide +kernel
theorem dX8_picture_48 : decode cX8_picture 48 = .ok (.ireturn, 1) := by decide +kernel
theorem dX8_noPicture_0 : decode cX8_noPicture 0 = .ok (.iload_n 1, 1) := by decide +kernel
theorem dX8_noPicture_1 : decode cX8_noPicture 1 = .ok (.i2l, 1) := by decide +kernel
theorem dX8_noPicture_2 : decode cX8_noPicture 2 = .ok (.lconst 0, 1) := by decide +kernel
theorem dX8_noPicture_3 : decode cX8_noPicture 3 = .ok (.aload_n 0, 1) := by decide +kernel
theorem dX8_noPicture_4 : decode cX8_noPicture 4 = .ok (.getfield 154, 3) := by decide +kernel
theorem dX8_noPicture_7 : decode cX8_noPicture 7 = .ok (.iconst 1, 1) := by decide +kernel
theorem dX8_noPicture_8 : decode cX8_noPicture 8 = .ok (.isub, 1) := by decide +kernel
theorem dX8_noPicture_9 : decode cX8_noPicture 9 = .ok (.i2l, 1) := by decide +kernel
theorem dX8_noPicture_10 : decode cX8_noPicture 10 = .ok (.invokestatic 100, 3) := by decide +kernel
theorem dX8_noPicture_13 : decode cX8_noPicture 13 = .ok (.ifCond .ne 7, 3) := by decide +kernel
theorem dX8_noPicture_16 : decode cX8_noPicture 16 = .ok (.iconst 1, 1) := by decide +kernel
theorem dX8_noPicture_17 : decode cX8_noPicture 17 = .ok (.goto 4, 3) := by decide +kernel
theorem dX8_noPicture_20 : decode cX8_noPicture 20 = .ok (.iconst 0, 1) := by decide +kernel
theorem dX8_noPicture_21 : decode cX8_noPicture 21 = .ok (.ireturn, 1) := by decide +kernel
theorem dX8_noLooker_0 : decode cX8_noLooker 0 = .ok (.iload_n 1, 1) := by decide +kernel
theorem dX8_noLooker_1 : decode cX8_noLooker 1 = .ok (.i2l, 1) := by decide +kernel
theorem dX8_noLooker_2 : decode cX8_noLooker 2 = .ok (.lconst 0, 1) := by decide +kernel
theorem dX8_noLooker_3 : decode cX8_noLooker 3 = .ok (.aload_n 0, 1) := by decide +kernel
theorem dX8_noLooker_4 : decode cX8_noLooker 4 = .ok (.getfield 165, 3) := by decide +kernel
theorem dX8_noLooker_7 : decode cX8_noLooker 7 = .ok (.iconst 1, 1) := by decide +kernel
theorem dX8_noLooker_8 : decode cX8_noLooker 8 = .ok (.isub, 1) := by decide +kernel
theorem dX8_noLooker_9 : decode cX8_noLooker 9 = .ok (.i2l, 1) := by decide +kernel
theorem dX8_noLooker_10 : decode cX8_noLooker 10 = .ok (.invokestatic 100, 3) := by decide +kernel
theorem dX8_noLooker_13 : decode cX8_noLooker 13 = .ok (.ifCond .ne 7, 3) := by decide +kernel
theorem dX8_noLooker_16 : decode cX8_noLooker 16 = .ok (.iconst 1, 1) := by decide +kernel
theorem dX8_noLooker_17 : decode cX8_noLooker 17 = .ok (.goto 4, 3) := by decide +kernel
theorem dX8_noLooker_20 : decode cX8_noLooker 20 = .ok (.iconst 0, 1) := by decide +kernel
theorem dX8_noLooker_21 : decode cX8_noLooker 21 = .ok (.ireturn, 1) := by decide +kernel
theorem dX8_mirror_0 : decode cX8_mirror 0 = .ok (.aload_n 0, 1) := by decide +kernel
theorem dX8_mirror_1 : decode cX8_mirror 1 = .ok (.iload_n 1, 1) := by decide +kernel
theorem dX8_mirror_2 : decode cX8_mirror 2 = .ok (.invokevirtual 168, 3) := by decide +kernel
theorem dX8_mirror_5 : decode cX8_mirror 5 = .ok (.ifCond .eq 7, 3) := by decide +kernel
theorem dX8_mirror_8 : decode cX8_mirror 8 = .ok (.sipush (-1001), 3) := by decide +kernel
theorem dX8_mirror_11 : decode cX8_mirror 11 = .ok (.ireturn, 1) := by decide +kernel
theorem dX8_mirror_12 : decode cX8_mirror 12 = .ok (.aload_n 0, 1) := by decide +kernel
theorem dX8_mirror_13 : decode cX8_mirror 13 = .ok (.getfield 36, 3) := by decide +kernel
theorem dX8_mirror_16 : decode cX8_mirror 16 = .ok (.iload_n 1, 1) := by decide +kernel
theorem dX8_mirror_17 : decode cX8_mirror 17 = .ok (.iaload, 1) := by decide +kernel
theorem dX8_mirror_18 : decode cX8_mirror 18 = .ok (.ifCond .lt 7, 3) := by decide +kernel
theorem dX8_mirror_21 : decode cX8_mirror 21 = .ok (.sipush (-1003), 3) := by decide +kernel
theorem dX8_mirror_24 : decode cX8_mirror 24 = .ok (.ireturn, 1) := by decide +kernel
theorem dX8_mirror_25 : decode cX8_mirror 25 = .ok (.aload_n 0, 1) := by decide +kernel
theorem dX8_mirror_26 : decode cX8_mirror 26 = .ok (.aload_n 0, 1) := by decide +kernel
theorem dX8_mirror_27 : decode cX8_mirror 27 = .ok (.getfield 23, 3) := by decide +kernel
theorem dX8_mirror_30 : decode cX8_mirror 30 = .ok (.iload_n 1, 1) := by decide +kernel
theorem dX8_mirror_31 : decode cX8_mirror 31 = .ok (.iaload, 1) := by decide +kernel
theorem dX8_mirror_32 : decode cX8_mirror 32 = .ok (.ifCond .ne 7, 3) := by decide +kernel
theorem dX8_mirror_35 : decode cX8_mirror 35 = .ok (.iconst 0, 1) := by decide +kernel
theorem dX8_mirror_36 : decode cX8_mirror 36 = .ok (.goto 11, 3) := by decide +kernel
theorem dX8_mirror_39 : decode cX8_mirror 39 = .ok (.iconst 3, 1) := by decide +kernel
theorem dX8_mirror_40 : decode cX8_mirror 40 = .ok (.aload_n 0, 1) := by decide +kernel
theorem dX8_mirror_41 : decode cX8_mirror 41 = .ok (.getfield 23, 3) := by decide +kernel
theorem dX8_mirror_44 : decode cX8_mirror 44 = .ok (.iload_n 1, 1) := by decide +kernel
theorem dX8_mirror_45 : decode cX8_mirror 45 = .ok (.iaload, 1) := by decide +kernel
theorem dX8_mirror_46 : decode cX8_mirror 46 = .ok (.isub, 1) := by decide +kernel
theorem dX8_mirror_47 : decode cX8_mirror 47 = .ok (.aload_n 0, 1) := by decide +kernel
theorem dX8_mirror_48 : decode cX8_mirror 48 = .ok (.getfield 26, 3) := by decide +kernel
theorem dX8_mirror_51 : decode cX8_mirror 51 = .ok (.iload_n 1, 1) := by decide +kernel
theorem dX8_mirror_52 : decode cX8_mirror 52 = .ok (.iaload, 1) := by decide +kernel
theorem dX8_mirror_53 : decode cX8_mirror 53 = .ok (.aload_n 0, 1) := by decide +kernel
theorem dX8_mirror_54 : decode cX8_mirror 54 = .ok (.getfield 29, 3) := by decide +kernel
theorem dX8_mirror_57 : decode cX8_mirror 57 = .ok (.iload_n 1, 1) := by decide +kernel
theorem dX8_mirror_58 : decode cX8_mirror 58 = .ok (.iaload, 1) := by decide +kernel
theorem dX8_mirror_59 : decode cX8_mirror 59 = .ok (.iconst 0, 1) := by decide +kernel
theorem dX8_mirror_60 : decode cX8_mirror 60 = .ok (.iload_n 1, 1) := by decide +kernel
theorem dX8_mirror_61 : decode cX8_mirror 61 = .ok (.invokevirtual 161, 3) := by decide +kernel
theorem dX8_mirror_64 : decode cX8_mirror 64 = .ok (.ireturn, 1) := by decide +kernel
theorem dX8_looker_0 : decode cX8_looker 0 = .ok (.iload_n 1, 1) := by decide +kernel
theorem dX8_looker_1 : decode cX8_looker 1 = .ok (.i2l, 1) := by decide +kernel
theorem dX8_looker_2 : decode cX8_looker 2 = .ok (.lconst 0, 1) := by decide +kernel
theorem dX8_looker_3 : decode cX8_looker 3 = .ok (.ldc2_w 172, 3) := by decide +kernel
theorem dX8_looker_6 : decode cX8_looker 6 = .ok (.invokestatic 100, 3) := by decide +kernel
theorem dX8_looker_9 : decode cX8_looker 9 = .ok (.ifCond .ne 7, 3) := by decide +kernel
theorem dX8_looker_12 : decode cX8_looker 12 = .ok (.sipush (-1002), 3) := by decide +kernel
theorem dX8_looker_15 : decode cX8_looker 15 = .ok (.ireturn, 1) := by decide +kernel
theorem dX8_looker_16 : decode cX8_looker 16 = .ok (.aload_n 0, 1) := by decide +kernel
theorem dX8_looker_17 : decode cX8_looker 17 = .ok (.getfield 165, 3) := by decide +kernel
theorem dX8_looker_20 : decode cX8_looker 20 = .ok (.bipush 8, 2) := by decide +kernel
theorem dX8_looker_22 : decode cX8_looker 22 = .ok (.if_icmp .ne 7, 3) := by decide +kernel
theorem dX8_looker_25 : decode cX8_looker 25 = .ok (.sipush (-1004), 3) := by decide +kernel
theorem dX8_looker_28 : decode cX8_looker 28 = .ok (.ireturn, 1) := by decide +kernel
theorem dX8_looker_29 : decode cX8_looker 29 = .ok (.aload_n 0, 1) := by decide +kernel
theorem dX8_looker_30 : decode cX8_looker 30 = .ok (.getfield 39, 3) := by decide +kernel
theorem dX8_looker_33 : decode cX8_looker 33 = .ok (.aload_n 0, 1) := by decide +kernel
theorem dX8_looker_34 : decode cX8_looker 34 = .ok (.getfield 165, 3) := by decide +kernel
theorem dX8_looker_37 : decode cX8_looker 37 = .ok (.iload_n 1, 1) := by decide +kernel
theorem dX8_looker_38 : decode cX8_looker 38 = .ok (.iastore, 1) := by decide +kernel
theorem dX8_looker_39 : decode cX8_looker 39 = .ok (.aload_n 0, 1) := by decide +kernel
theorem dX8_looker_40 : decode cX8_looker 40 = .ok (.dup, 1) := by decide +kernel
theorem dX8_looker_41 : decode cX8_looker 41 = .ok (.getfield 165, 3) := by decide +kernel
theorem dX8_looker_44 : decode cX8_looker 44 = .ok (.iconst 1, 1) := by decide +kernel
theorem dX8_looker_45 : decode cX8_looker 45 = .ok (.iadd, 1) := by decide +kernel
theorem dX8_looker_46 : decode cX8_looker 46 = .ok (.putfield 165, 3) := by decide +kernel
theorem dX8_looker_49 : decode cX8_looker 49 = .ok (.aload_n 0, 1) := by decide +kernel
theorem dX8_looker_50 : decode cX8_looker 50 = .ok (.getfield 165, 3) := by decide +kernel
theorem dX8_looker_53 : decode cX8_looker 53 = .ok (.iconst 1, 1) := by decide +kernel
theorem dX8_looker_54 : decode cX8_looker 54 = .ok (.isub, 1) := by decide +kernel
theorem dX8_looker_55 : decode cX8_looker 55 = .ok (.ireturn, 1) := by decide +kernel
theorem dX8_looksAt_0 : decode cX8_looksAt 0 = .ok (.iconst 0, 1) := by decide +kernel
theorem dX8_looksAt_1 : decode cX8_looksAt 1 = .ok (.istore_n 2, 1) := by decide +kernel
theorem dX8_looksAt_2 : decode cX8_looksAt 2 = .ok (.iconst 0, 1) := by decide +kernel
theorem dX8_looksAt_3 : decode cX8_looksAt 3 = .ok (.istore_n 3, 1) := by decide +kernel
theorem dX8_looksAt_4 : decode cX8_looksAt 4 = .ok (.iload_n 3, 1) := by decide +kernel
theorem dX8_looksAt_5 : decode cX8_looksAt 5 = .ok (.aload_n 0, 1) := by decide +kernel
theorem dX8_looksAt_6 : decode cX8_looksAt 6 = .ok (.getfield 174, 3) := by decide +kernel
theorem dX8_looksAt_9 : decode cX8_looksAt 9 = .ok (.if_icmp .ge 30, 3) := by decide +kernel
theorem dX8_looksAt_12 : decode cX8_looksAt 12 = .ok (.iload_n 2, 1) := by decide +kernel
theorem dX8_looksAt_13 : decode cX8_looksAt 13 = .ok (.aload_n 0, 1) := by decide +kernel
theorem dX8_looksAt_14 : decode cX8_looksAt 14 = .ok (.getfield 45, 3) := by decide +kernel
theorem dX8_looksAt_17 : decode cX8_looksAt 17 = .ok (.iload_n 3, 1) := by decide +kernel
theorem dX8_looksAt_18 : decode cX8_looksAt 18 = .ok (.iaload, 1) := by decide +kernel
theorem dX8_looksAt_19 : decode cX8_looksAt 19 = .ok (.iload_n 1, 1) := by decide +kernel
theorem dX8_looksAt_20 : decode cX8_looksAt 20 = .ok (.if_icmp .ne 7, 3) := by decide +kernel
theorem dX8_looksAt_23 : decode cX8_looksAt 23 = .ok (.iconst 1, 1) := by decide +kernel
theorem dX8_looksAt_24 : decode cX8_looksAt 24 = .ok (.goto 4, 3) := by decide +kernel
theorem dX8_looksAt_27 : decode cX8_looksAt 27 = .ok (.iconst 0, 1) := by decide +kernel
theorem dX8_looksAt_28 : decode cX8_looksAt 28 = .ok (.invokestatic 148, 3) := by decide +kernel
theorem dX8_looksAt_31 : decode cX8_looksAt 31 = .ok (.iadd, 1) := by decide +kernel
theorem dX8_looksAt_32 : decode cX8_looksAt 32 = .ok (.istore_n 2, 1) := by decide +kernel
theorem dX8_looksAt_33 : decode cX8_looksAt 33 = .ok (.iinc 3 1, 3) := by decide +kernel
theorem dX8_looksAt_36 : decode cX8_looksAt 36 = .ok (.goto (-32), 3) := by decide +kernel
theorem dX8_looksAt_39 : decode cX8_looksAt 39 = .ok (.iload_n 2, 1) := by decide +kernel
theorem dX8_looksAt_40 : decode cX8_looksAt 40 = .ok (.ireturn, 1) := by decide +kernel
theorem dX8_greens_0 : decode cX8_greens 0 = .ok (.iconst 0, 1) := by decide +kernel
theorem dX8_greens_1 : decode cX8_greens 1 = .ok (.istore_n 2, 1) := by decide +kernel
theorem dX8_greens_2 : decode cX8_greens 2 = .ok (.iconst 0, 1) := by decide +kernel
theorem dX8_greens_3 : decode cX8_greens 3 = .ok (.istore_n 3, 1) := by decide +kernel
theorem dX8_greens_4 : decode cX8_greens 4 = .ok (.iload_n 3, 1) := by decide +kernel
theorem dX8_greens_5 : decode cX8_greens 5 = .ok (.aload_n 0, 1) := by decide +kernel
theorem dX8_greens_6 : decode cX8_greens 6 = .ok (.getfield 174, 3) := by decide +kernel
theorem dX8_greens_9 : decode cX8_greens 9 = .ok (.if_icmp .ge 40, 3) := by decide +kernel
theorem dX8_greens_12 : decode cX8_greens 12 = .ok (.iload_n 2, 1) := by decide +kernel
theorem dX8_greens_13 : decode cX8_greens 13 = .ok (.aload_n 0, 1) := by decide +kernel
theorem dX8_greens_14 : decode cX8_greens 14 = .ok (.getfield 45, 3) := by decide +kernel
theorem dX8_greens_17 : decode cX8_greens 17 = .ok (.iload_n 3, 1) := by decide +kernel
theorem dX8_greens_18 : decode cX8_greens 18 = .ok (.iaload, 1) := by decide +kernel
theorem dX8_greens_19 : decode cX8_greens 19 = .ok (.iload_n 1, 1) := by decide +kernel
theorem dX8_greens_20 : decode cX8_greens 20 = .ok (.if_icmp .ne 17, 3) := by decide +kernel
theorem dX8_greens_23 : decode cX8_greens 23 = .ok (.aload_n 0, 1) := by decide +kernel
theorem dX8_greens_24 : decode cX8_greens 24 = .ok (.getfield 48, 3) := by decide +kernel
theorem dX8_greens_27 : decode cX8_greens 27 = .ok (.iload_n 3, 1) := by decide +kernel
theorem dX8_greens_28 : decode cX8_greens 28 = .ok (.iaload, 1) := by decide +kernel
theorem dX8_greens_29 : decode cX8_greens 29 = .ok (.iconst 3, 1) := by decide +kernel
theorem dX8_greens_30 : decode cX8_greens 30 = .ok (.if_icmp .ne 7, 3) := by decide +kernel
theorem dX8_greens_33 : decode cX8_greens 33 = .ok (.iconst 1, 1) := by decide +kernel
theorem dX8_greens_34 : decode cX8_greens 34 = .ok (.goto 4, 3) := by decide +kernel
theorem dX8_greens_37 : decode cX8_greens 37 = .ok (.iconst 0, 1) := by decide +kernel
theorem dX8_greens_38 : decode cX8_greens 38 = .ok (.invokestatic 148, 3) := by decide +kernel
theorem dX8_greens_41 : decode cX8_greens 41 = .ok (.iadd, 1) := by decide +kernel
theorem dX8_greens_42 : decode cX8_greens 42 = .ok (.istore_n 2, 1) := by decide +kernel
theorem dX8_greens_43 : decode cX8_greens 43 = .ok (.iinc 3 1, 3) := by decide +kernel
theorem dX8_greens_46 : decode cX8_greens 46 = .ok (.goto (-42), 3) := by decide +kernel
theorem dX8_greens_49 : decode cX8_greens 49 = .ok (.iload_n 2, 1) := by decide +kernel
theorem dX8_greens_50 : decode cX8_greens 50 = .ok (.ireturn, 1) := by decide +kernel
theorem dX8_greatestOdds_0 : decode cX8_greatestOdds 0 = .ok (.aload_n 0, 1) := by decide +kernel
theorem dX8_greatestOdds_1 : decode cX8_greatestOdds 1 = .ok (.getfield 51, 3) := by decide +kernel
theorem dX8_greatestOdds_4 : decode cX8_greatestOdds 4 = .ok (.iconst 3, 1) := by decide +kernel
theorem dX8_greatestOdds_5 : decode cX8_greatestOdds 5 = .ok (.iload_n 1, 1) := by decide +kernel
theorem dX8_greatestOdds_6 : decode cX8_greatestOdds 6 = .ok (.imul, 1) := by decide +kernel
theorem dX8_greatestOdds_7 : decode cX8_greatestOdds 7 = .ok (.iaload, 1) := by decide +kernel
theorem dX8_greatestOdds_8 : decode cX8_greatestOdds 8 = .ok (.istore_n 2, 1) := by decide +kernel
theorem dX8_greatestOdds_9 : decode cX8_greatestOdds 9 = .ok (.iconst 1, 1) := by decide +kernel
theorem dX8_greatestOdds_10 : decode cX8_greatestOdds 10 = .ok (.istore_n 3, 1) := by decide +kernel
theorem dX8_greatestOdds_11 : decode cX8_greatestOdds 11 = .ok (.iload_n 3, 1) := by decide +kernel
theorem dX8_greatestOdds_12 : decode cX8_greatestOdds 12 = .ok (.iconst 3, 1) := by decide +kernel
theorem dX8_greatestOdds_13 : decode cX8_greatestOdds 13 = .ok (.if_icmp .ge 38, 3) := by decide +kernel
theorem dX8_greatestOdds_16 : decode cX8_greatestOdds 16 = .ok (.aload_n 0, 1) := by decide +kernel
theorem dX8_greatestOdds_17 : decode cX8_greatestOdds 17 = .ok (.getfield 51, 3) := by decide +kernel
theorem dX8_greatestOdds_20 : decode cX8_greatestOdds 20 = .ok (.iconst 3, 1) := by decide +kernel
theorem dX8_greatestOdds_21 : decode cX8_greatestOdds 21 = .ok (.iload_n 1, 1) := by decide +kernel
theorem dX8_greatestOdds_22 : decode cX8_greatestOdds 22 = .ok (.imul, 1) := by decide +kernel
theorem dX8_greatestOdds_23 : decode cX8_greatestOdds 23 = .ok (.iload_n 3, 1) := by decide +kernel
theorem dX8_greatestOdds_24 : decode cX8_greatestOdds 24 = .ok (.iadd, 1) := by decide +kernel
theorem dX8_greatestOdds_25 : decode cX8_greatestOdds 25 = .ok (.iaload, 1) := by decide +kernel
theorem dX8_greatestOdds_26 : decode cX8_greatestOdds 26 = .ok (.iload_n 2, 1) := by decide +kernel
theorem dX8_greatestOdds_27 : decode cX8_greatestOdds 27 = .ok (.if_icmp .le 16, 3) := by decide +kernel
theorem dX8_greatestOdds_30 : decode cX8_greatestOdds 30 = .ok (.aload_n 0, 1) := by decide +kernel
theorem dX8_greatestOdds_31 : decode cX8_greatestOdds 31 = .ok (.getfield 51, 3) := by decide +kernel
theorem dX8_greatestOdds_34 : decode cX8_greatestOdds 34 = .ok (.iconst 3, 1) := by decide +kernel
theorem dX8_greatestOdds_35 : decode cX8_greatestOdds 35 = .ok (.iload_n 1, 1) := by decide +kernel
theorem dX8_greatestOdds_36 : decode cX8_greatestOdds 36 = .ok (.imul, 1) := by decide +kernel
theorem dX8_greatestOdds_37 : decode cX8_greatestOdds 37 = .ok (.iload_n 3, 1) := by decide +kernel
theorem dX8_greatestOdds_38 : decode cX8_greatestOdds 38 = .ok (.iadd, 1) := by decide +kernel
theorem dX8_greatestOdds_39 : decode cX8_greatestOdds 39 = .ok (.iaload, 1) := by decide +kernel
theorem dX8_greatestOdds_40 : decode cX8_greatestOdds 40 = .ok (.goto 4, 3) := by decide +kernel
theorem dX8_greatestOdds_43 : decode cX8_greatestOdds 43 = .ok (.iload_n 2, 1) := by decide +kernel
theorem dX8_greatestOdds_44 : decode cX8_greatestOdds 44 = .ok (.istore_n 2, 1) := by decide +kernel
theorem dX8_greatestOdds_45 : decode cX8_greatestOdds 45 = .ok (.iinc 3 1, 3) := by decide +kernel
theorem dX8_greatestOdds_48 : decode cX8_greatestOdds 48 = .ok (.goto (-37), 3) := by decide +kernel
theorem dX8_greatestOdds_51 : decode cX8_greatestOdds 51 = .ok (.iload_n 2, 1) := by decide +kernel
theorem dX8_greatestOdds_52 : decode cX8_greatestOdds 52 = .ok (.ireturn, 1) := by decide +kernel
theorem dX8_isDone_0 : decode cX8_isDone 0 = .ok (.aload_n 0, 1) := by decide +kernel
theorem dX8_isDone_1 : decode cX8_isDone 1 = .ok (.iload_n 1, 1) := by decide +kernel
theorem dX8_isDone_2 : decode cX8_isDone 2 = .ok (.invokevirtual 177, 3) := by decide +kernel
theorem dX8_isDone_5 : decode cX8_isDone 5 = .ok (.bipush 10, 2) := by decide +kernel
theorem dX8_isDone_7 : decode cX8_isDone 7 = .ok (.aload_n 0, 1) := by decide +kernel
theorem dX8_isDone_8 : decode cX8_isDone 8 = .ok (.getfield 7, 3) := by decide +kernel
theorem dX8_isDone_11 : decode cX8_isDone 11 = .ok (.iconst 4, 1) := by decide +kernel
theorem dX8_isDone_12 : decode cX8_isDone 12 = .ok (.iaload, 1) := by decide +kernel
theorem dX8_isDone_13 : decode cX8_isDone 13 = .ok (.imul, 1) := by decide +kernel
theorem dX8_isDone_14 : decode cX8_isDone 14 = .ok (.if_icmp .ge 17, 3) := by decide +kernel
theorem dX8_isDone_17 : decode cX8_isDone 17 = .ok (.aload_n 0, 1) := by decide +kernel
theorem dX8_isDone_18 : decode cX8_isDone 18 = .ok (.iload_n 1, 1) := by decide +kernel
theorem dX8_isDone_19 : decode cX8_isDone 19 = .ok (.invokevirtual 180, 3) := by decide +kernel
theorem dX8_isDone_22 : decode cX8_isDone 22 = .ok (.aload_n 0, 1) := by decide +kernel
theorem dX8_isDone_23 : decode cX8_isDone 23 = .ok (.getfield 7, 3) := by decide +kernel
theorem dX8_isDone_26 : decode cX8_isDone 26 = .ok (.iconst 5, 1) := by decide +kernel
theorem dX8_isDone_27 : decode cX8_isDone 27 = .ok (.iaload, 1) := by decide +kernel
theorem dX8_isDone_28 : decode cX8_isDone 28 = .ok (.if_icmp .lt 7, 3) := by decide +kernel
theorem dX8_isDone_31 : decode cX8_isDone 31 = .ok (.iconst 1, 1) := by decide +kernel
theorem dX8_isDone_32 : decode cX8_isDone 32 = .ok (.goto 4, 3) := by decide +kernel
theorem dX8_isDone_35 : decode cX8_isDone 35 = .ok (.iconst 0, 1) := by decide +kernel
theorem dX8_isDone_36 : decode cX8_isDone 36 = .ok (.ireturn, 1) := by decide +kernel
theorem dX8_told_0 : decode cX8_told 0 = .ok (.aload_n 0, 1) := by decide +kernel
theorem dX8_told_1 : decode cX8_told 1 = .ok (.iload_n 1, 1) := by decide +kernel
theorem dX8_told_2 : decode cX8_told 2 = .ok (.invokevirtual 168, 3) := by decide +kernel
theorem dX8_told_5 : decode cX8_told 5 = .ok (.ifCond .eq 7, 3) := by decide +kernel
theorem dX8_told_8 : decode cX8_told 8 = .ok (.sipush (-1001), 3) := by decide +kernel
theorem dX8_told_11 : decode cX8_told 11 = .ok (.ireturn, 1) := by decide +kernel
theorem dX8_told_12 : decode cX8_told 12 = .ok (.iload_n 2, 1) := by decide +kernel
theorem dX8_told_13 : decode cX8_told 13 = .ok (.tableswitch 106 0 7 #[47, 54, 61, 68, 78, 85, 91, 97], 47) := by decide +kernel
theorem dX8_told_60 : decode cX8_told 60 = .ok (.aload_n 0, 1) := by decide +kernel
theorem dX8_told_61 : decode cX8_told 61 = .ok (.getfield 23, 3) := by decide +kernel
theorem dX8_told_64 : decode cX8_told 64 = .ok (.iload_n 1, 1) := by decide +kernel
theorem dX8_told_65 : decode cX8_told 65 = .ok (.iaload, 1) := by decide +kernel
theorem dX8_told_66 : decode cX8_told 66 = .ok (.ireturn, 1) := by decide +kernel
theorem dX8_told_67 : decode cX8_told 67 = .ok (.aload_n 0, 1) := by decide +kernel
theorem dX8_told_68 : decode cX8_told 68 = .ok (.getfield 26, 3) := by decide +kernel
theorem dX8_told_71 : decode cX8_told 71 = .ok (.iload_n 1, 1) := by decide +kernel
theorem dX8_told_72 : decode cX8_told 72 = .ok (.iaload, 1) := by decide +kernel
theorem dX8_told_73 : decode cX8_told 73 = .ok (.ireturn, 1) := by decide +kernel
theorem dX8_told_74 : decode cX8_told 74 = .ok (.aload_n 0, 1) := by decide +kernel
theorem dX8_told_75 : decode cX8_told 75 = .ok (.getfield 29, 3) := by decide +kernel
theorem dX8_told_78 : decode cX8_told 78 = .ok (.iload_n 1, 1) := by decide +kernel
theorem dX8_told_79 : decode cX8_told 79 = .ok (.iaload, 1) := by decide +kernel
theorem dX8_told_80 : decode cX8_told 80 = .ok (.ireturn, 1) := by decide +kernel
theorem dX8_told_81 : decode cX8_told 81 = .ok (.aload_n 0, 1) := by decide +kernel
theorem dX8_told_82 : decode cX8_told 82 = .ok (.getfield 32, 3) := by decide +kernel
theorem dX8_told_85 : decode cX8_told 85 = .ok (.iload_n 1, 1) := by decide +kernel
theorem dX8_told_86 : decode cX8_told 86 = .ok (.baload, 1) := by decide +kernel
theorem dX8_told_87 : decode cX8_told 87 = .ok (.invokestatic 148, 3) := by decide +kernel
theorem dX8_told_90 : decode cX8_told 90 = .ok (.ireturn, 1) := by decide +kernel
theorem dX8_told_91 : decode cX8_told 91 = .ok (.aload_n 0, 1) := by decide +kernel
theorem dX8_told_92 : decode cX8_told 92 = .ok (.getfield 36, 3) := by decide +kernel
theorem dX8_told_95 : decode cX8_told 95 = .ok (.iload_n 1, 1) := by decide +kernel
theorem dX8_told_96 : decode cX8_told 96 = .ok (.iaload, 1) := by decide +kernel
theorem dX8_told_97 : decode cX8_told 97 = .ok (.ireturn, 1) := by decide +kernel
theorem dX8_told_98 : decode cX8_told 98 = .ok (.aload_n 0, 1) := by decide +kernel
theorem dX8_told_99 : decode cX8_told 99 = .ok (.iload_n 1, 1) := by decide +kernel
theorem dX8_told_100 : decode cX8_told 100 = .ok (.invokevirtual 180, 3) := by decide +kernel
theorem dX8_told_103 : decode cX8_told 103 = .ok (.ireturn, 1) := by decide +kernel
theorem dX8_told_104 : decode cX8_told 104 = .ok (.aload_n 0, 1) := by decide +kernel
theorem dX8_told_105 : decode cX8_told 105 = .ok (.iload_n 1, 1) := by decide +kernel
theorem dX8_told_106 : decode cX8_told 106 = .ok (.invokevirtual 183, 3) := by decide +kernel
theorem dX8_told_109 : decode cX8_told 109 = .ok (.ireturn, 1) := by decide +kernel
theorem dX8_told_110 : decode cX8_told 110 = .ok (.aload_n 0, 1) := by decide +kernel
theorem dX8_told_111 : decode cX8_told 111 = .ok (.iload_n 1, 1) := by decide +kernel
theorem dX8_told_112 : decode cX8_told 112 = .ok (.invokevirtual 186, 3) := by decide +kernel
theorem dX8_told_115 : decode cX8_told 115 = .ok (.invokestatic 148, 3) := by decide +kernel
theorem dX8_told_118 : decode cX8_told 118 = .ok (.ireturn, 1) := by decide +kernel
theorem dX8_told_119 : decode cX8_told 119 = .ok (.sipush (-1002), 3) := by decide +kernel
theorem dX8_told_122 : decode cX8_told 122 = .ok (.ireturn, 1) := by decide +kernel
theorem dX8_knownMany_0 : decode cX8_knownMany 0 = .ok (.iconst 0, 1) := by decide +kernel
theorem dX8_knownMany_1 : decode cX8_knownMany 1 = .ok (.istore_n 1, 1) := by decide +kernel
theorem dX8_knownMany_2 : decode cX8_knownMany 2 = .ok (.iconst 0, 1) := by decide +kernel
theorem dX8_knownMany_3 : decode cX8_knownMany 3 = .ok (.istore_n 2, 1) := by decide +kernel
theorem dX8_knownMany_4 : decode cX8_knownMany 4 = .ok (.iload_n 2, 1) := by decide +kernel
theorem dX8_knownMany_5 : decode cX8_knownMany 5 = .ok (.aload_n 0, 1) := by decide +kernel
theorem dX8_knownMany_6 : decode cX8_knownMany 6 = .ok (.getfield 154, 3) := by decide +kernel
theorem dX8_knownMany_9 : decode cX8_knownMany 9 = .ok (.if_icmp .ge 21, 3) := by decide +kernel
theorem dX8_knownMany_12 : decode cX8_knownMany 12 = .ok (.iload_n 1, 1) := by decide +kernel
theorem dX8_knownMany_13 : decode cX8_knownMany 13 = .ok (.aload_n 0, 1) := by decide +kernel
theorem dX8_knownMany_14 : decode cX8_knownMany 14 = .ok (.getfield 32, 3) := by decide +kernel
theorem dX8_knownMany_17 : decode cX8_knownMany 17 = .ok (.iload_n 2, 1) := by decide +kernel
theorem dX8_knownMany_18 : decode cX8_knownMany 18 = .ok (.baload, 1) := by decide +kernel
theorem dX8_knownMany_19 : decode cX8_knownMany 19 = .ok (.invokestatic 148, 3) := by decide +kernel
theorem dX8_knownMany_22 : decode cX8_knownMany 22 = .ok (.iadd, 1) := by decide +kernel
theorem dX8_knownMany_23 : decode cX8_knownMany 23 = .ok (.istore_n 1, 1) := by decide +kernel
theorem dX8_knownMany_24 : decode cX8_knownMany 24 = .ok (.iinc 2 1, 3) := by decide +kernel
theorem dX8_knownMany_27 : decode cX8_knownMany 27 = .ok (.goto (-23), 3) := by decide +kernel
theorem dX8_knownMany_30 : decode cX8_knownMany 30 = .ok (.iload_n 1, 1) := by decide +kernel
theorem dX8_knownMany_31 : decode cX8_knownMany 31 = .ok (.ireturn, 1) := by decide +kernel
theorem dX8_mirrors_0 : decode cX8_mirrors 0 = .ok (.iconst 0, 1) := by decide +kernel
theorem dX8_mirrors_1 : decode cX8_mirrors 1 = .ok (.istore_n 1, 1) := by decide +kernel
theorem dX8_mirrors_2 : decode cX8_mirrors 2 = .ok (.iconst 0, 1) := by decide +kernel
theorem dX8_mirrors_3 : decode cX8_mirrors 3 = .ok (.istore_n 2, 1) := by decide +kernel
theorem dX8_mirrors_4 : decode cX8_mirrors 4 = .ok (.iload_n 2, 1) := by decide +kernel
theorem dX8_mirrors_5 : decode cX8_mirrors 5 = .ok (.aload_n 0, 1) := by decide +kernel
theorem dX8_mirrors_6 : decode cX8_mirrors 6 = .ok (.getfield 154, 3) := by decide +kernel
theorem dX8_mirrors_9 : decode cX8_mirrors 9 = .ok (.if_icmp .ge 29, 3) := by decide +kernel
theorem dX8_mirrors_12 : decode cX8_mirrors 12 = .ok (.iload_n 1, 1) := by decide +kernel
theorem dX8_mirrors_13 : decode cX8_mirrors 13 = .ok (.aload_n 0, 1) := by decide +kernel
theorem dX8_mirrors_14 : decode cX8_mirrors 14 = .ok (.getfield 36, 3) := by decide +kernel
theorem dX8_mirrors_17 : decode cX8_mirrors 17 = .ok (.iload_n 2, 1) := by decide +kernel
theorem dX8_mirrors_18 : decode cX8_mirrors 18 = .ok (.iaload, 1) := by decide +kernel
theorem dX8_mirrors_19 : decode cX8_mirrors 19 = .ok (.ifCond .lt 7, 3) := by decide +kernel
theorem dX8_mirrors_22 : decode cX8_mirrors 22 = .ok (.iconst 1, 1) := by decide +kernel
theorem dX8_mirrors_23 : decode cX8_mirrors 23 = .ok (.goto 4, 3) := by decide +kernel
theorem dX8_mirrors_26 : decode cX8_mirrors 26 = .ok (.iconst 0, 1) := by decide +kernel
theorem dX8_mirrors_27 : decode cX8_mirrors 27 = .ok (.invokestatic 148, 3) := by decide +kernel
theorem dX8_mirrors_30 : decode cX8_mirrors 30 = .ok (.iadd, 1) := by decide +kernel
theorem dX8_mirrors_31 : decode cX8_mirrors 31 = .ok (.istore_n 1, 1) := by decide +kernel
theorem dX8_mirrors_32 : decode cX8_mirrors 32 = .ok (.iinc 2 1, 3) := by decide +kernel
theorem dX8_mirrors_35 : decode cX8_mirrors 35 = .ok (.goto (-31), 3) := by decide +kernel
theorem dX8_mirrors_38 : decode cX8_mirrors 38 = .ok (.iload_n 1, 1) := by decide +kernel
theorem dX8_mirrors_39 : decode cX8_mirrors 39 = .ok (.ireturn, 1) := by decide +kernel
theorem dX8_doneMany_0 : decode cX8_doneMany 0 = .ok (.iconst 0, 1) := by decide +kernel
theorem dX8_doneMany_1 : decode cX8_doneMany 1 = .ok (.istore_n 1, 1) := by decide +kernel
theorem dX8_doneMany_2 : decode cX8_doneMany 2 = .ok (.iconst 0, 1) := by decide +kernel
theorem dX8_doneMany_3 : decode cX8_doneMany 3 = .ok (.istore_n 2, 1) := by decide +kernel
theorem dX8_doneMany_4 : decode cX8_doneMany 4 = .ok (.iload_n 2, 1) := by decide +kernel
theorem dX8_doneMany_5 : decode cX8_doneMany 5 = .ok (.aload_n 0, 1) := by decide +kernel
theorem dX8_doneMany_6 : decode cX8_doneMany 6 = .ok (.getfield 154, 3) := by decide +kernel
theorem dX8_doneMany_9 : decode cX8_doneMany 9 = .ok (.if_icmp .ge 20, 3) := by decide +kernel
theorem dX8_doneMany_12 : decode cX8_doneMany 12 = .ok (.iload_n 1, 1) := by decide +kernel
theorem dX8_doneMany_13 : decode cX8_doneMany 13 = .ok (.aload_n 0, 1) := by decide +kernel
theorem dX8_doneMany_14 : decode cX8_doneMany 14 = .ok (.iload_n 2, 1) := by decide +kernel
theorem dX8_doneMany_15 : decode cX8_doneMany 15 = .ok (.invokevirtual 186, 3) := by decide +kernel
theorem dX8_doneMany_18 : decode cX8_doneMany 18 = .ok (.invokestatic 148, 3) := by decide +kernel
theorem dX8_doneMany_21 : decode cX8_doneMany 21 = .ok (.iadd, 1) := by decide +kernel
theorem dX8_doneMany_22 : decode cX8_doneMany 22 = .ok (.istore_n 1, 1) := by decide +kernel
theorem dX8_doneMany_23 : decode cX8_doneMany 23 = .ok (.iinc 2 1, 3) := by decide +kernel
theorem dX8_doneMany_26 : decode cX8_doneMany 26 = .ok (.goto (-22), 3) := by decide +kernel
theorem dX8_doneMany_29 : decode cX8_doneMany 29 = .ok (.iload_n 1, 1) := by decide +kernel
theorem dX8_doneMany_30 : decode cX8_doneMany 30 = .ok (.ireturn, 1) := by decide +kernel
theorem dX8_staying_0 : decode cX8_staying 0 = .ok (.iconst 0, 1) := by decide +kernel
theorem dX8_staying_1 : decode cX8_staying 1 = .ok (.istore_n 1, 1) := by decide +kernel
theorem dX8_staying_2 : decode cX8_staying 2 = .ok (.iconst 0, 1) := by decide +kernel
theorem dX8_staying_3 : decode cX8_staying 3 = .ok (.istore_n 2, 1) := by decide +kernel
theorem dX8_staying_4 : decode cX8_staying 4 = .ok (.iload_n 2, 1) := by decide +kernel
theorem dX8_staying_5 : decode cX8_staying 5 = .ok (.aload_n 0, 1) := by decide +kernel
theorem dX8_staying_6 : decode cX8_staying 6 = .ok (.getfield 165, 3) := by decide +kernel
theorem dX8_staying_9 : decode cX8_staying 9 = .ok (.if_icmp .ge 20, 3) := by decide +kernel
theorem dX8_staying_12 : decode cX8_staying 12 = .ok (.iload_n 1, 1) := by decide +kernel
theorem dX8_staying_13 : decode cX8_staying 13 = .ok (.aload_n 0, 1) := by decide +kernel
theorem dX8_staying_14 : decode cX8_staying 14 = .ok (.iload_n 2, 1) := by decide +kernel
theorem dX8_staying_15 : decode cX8_staying 15 = .ok (.invokevirtual 189, 3) := by decide +kernel
theorem dX8_staying_18 : decode cX8_staying 18 = .ok (.invokestatic 148, 3) := by decide +kernel
theorem dX8_staying_21 : decode cX8_staying 21 = .ok (.iadd, 1) := by decide +kernel
theorem dX8_staying_22 : decode cX8_staying 22 = .ok (.istore_n 1, 1) := by decide +kernel
theorem dX8_staying_23 : decode cX8_staying 23 = .ok (.iinc 2 1, 3) := by decide +kernel
theorem dX8_staying_26 : decode cX8_staying 26 = .ok (.goto (-22), 3) := by decide +kernel
theorem dX8_staying_29 : decode cX8_staying 29 = .ok (.iload_n 1, 1) := by decide +kernel
theorem dX8_staying_30 : decode cX8_staying 30 = .ok (.ireturn, 1) := by decide +kernel
theorem dX8_count_0 : decode cX8_count 0 = .ok (.iload_n 1, 1) := by decide +kernel
theorem dX8_count_1 : decode cX8_count 1 = .ok (.tableswitch 96 0 8 #[51, 56, 61, 66, 71, 76, 81, 86, 91], 51) := by decide +kernel
theorem dX8_count_52 : decode cX8_count 52 = .ok (.aload_n 0, 1) := by decide +kernel
theorem dX8_count_53 : decode cX8_count 53 = .ok (.getfield 154, 3) := by decide +kernel
theorem dX8_count_56 : decode cX8_count 56 = .ok (.ireturn, 1) := by decide +kernel
theorem dX8_count_57 : decode cX8_count 57 = .ok (.aload_n 0, 1) := by decide +kernel
theorem dX8_count_58 : decode cX8_count 58 = .ok (.getfield 165, 3) := by decide +kernel
theorem dX8_count_61 : decode cX8_count 61 = .ok (.ireturn, 1) := by decide +kernel
theorem dX8_count_62 : decode cX8_count 62 = .ok (.aload_n 0, 1) := by decide +kernel
theorem dX8_count_63 : decode cX8_count 63 = .ok (.getfield 174, 3) := by decide +kernel
theorem dX8_count_66 : decode cX8_count 66 = .ok (.ireturn, 1) := by decide +kernel
theorem dX8_count_67 : decode cX8_count 67 = .ok (.aload_n 0, 1) := by decide +kernel
theorem dX8_count_68 : decode cX8_count 68 = .ok (.invokevirtual 192, 3) := by decide +kernel
theorem dX8_count_71 : decode cX8_count 71 = .ok (.ireturn, 1) := by decide +kernel
theorem dX8_count_72 : decode cX8_count 72 = .ok (.aload_n 0, 1) := by decide +kernel
theorem dX8_count_73 : decode cX8_count 73 = .ok (.invokevirtual 195, 3) := by decide +kernel
theorem dX8_count_76 : decode cX8_count 76 = .ok (.ireturn, 1) := by decide +kernel
theorem dX8_count_77 : decode cX8_count 77 = .ok (.aload_n 0, 1) := by decide +kernel
theorem dX8_count_78 : decode cX8_count 78 = .ok (.invokevirtual 198, 3) := by decide +kernel
theorem dX8_count_81 : decode cX8_count 81 = .ok (.ireturn, 1) := by decide +kernel
theorem dX8_count_82 : decode cX8_count 82 = .ok (.aload_n 0, 1) := by decide +kernel
theorem dX8_count_83 : decode cX8_count 83 = .ok (.getfield 104, 3) := by decide +kernel
theorem dX8_count_86 : decode cX8_count 86 = .ok (.ireturn, 1) := by decide +kernel
theorem dX8_count_87 : decode cX8_count 87 = .ok (.aload_n 0, 1) := by decide +kernel
theorem dX8_count_88 : decode cX8_count 88 = .ok (.invokevirtual 201, 3) := by decide +kernel
theorem dX8_count_91 : decode cX8_count 91 = .ok (.ireturn, 1) := by decide +kernel
theorem dX8_count_92 : decode cX8_count 92 = .ok (.aload_n 0, 1) := by decide +kernel
theorem dX8_count_93 : decode cX8_count 93 = .ok (.getfield 204, 3) := by decide +kernel
theorem dX8_count_96 : decode cX8_count 96 = .ok (.ireturn, 1) := by decide +kernel
theorem dX8_count_97 : decode cX8_count 97 = .ok (.sipush (-1002), 3) := by decide +kernel
theorem dX8_count_100 : decode cX8_count 100 = .ok (.ireturn, 1) := by decide +kernel
theorem dX8_seed_0 : decode cX8_seed 0 = .ok (.iload_n 1, 1) := by decide +kernel
theorem dX8_seed_1 : decode cX8_seed 1 = .ok (.ifCond .ge 7, 3) := by decide +kernel
theorem dX8_seed_4 : decode cX8_seed 4 = .ok (.sipush (-1002), 3) := by decide +kernel
theorem dX8_seed_7 : decode cX8_seed 7 = .ok (.ireturn, 1) := by decide +kernel
theorem dX8_seed_8 : decode cX8_seed 8 = .ok (.aload_n 0, 1) := by decide +kernel
theorem dX8_seed_9 : decode cX8_seed 9 = .ok (.getfield 207, 3) := by decide +kernel
theorem dX8_seed_12 : decode cX8_seed 12 = .ok (.istore_n 2, 1) := by decide +kernel
theorem dX8_seed_13 : decode cX8_seed 13 = .ok (.aload_n 0, 1) := by decide +kernel
theorem dX8_seed_14 : decode cX8_seed 14 = .ok (.iload_n 1, 1) := by decide +kernel
theorem dX8_seed_15 : decode cX8_seed 15 = .ok (.putfield 207, 3) := by decide +kernel
theorem dX8_seed_18 : decode cX8_seed 18 = .ok (.iload_n 2, 1) := by decide +kernel
theorem dX8_seed_19 : decode cX8_seed 19 = .ok (.ireturn, 1) := by decide +kernel
theorem dX8_draw_0 : decode cX8_draw 0 = .ok (.aload_n 0, 1) := by decide +kernel
theorem dX8_draw_1 : decode cX8_draw 1 = .ok (.aload_n 0, 1) := by decide +kernel
theorem dX8_draw_2 : decode cX8_draw 2 = .ok (.getfield 207, 3) := by decide +kernel
theorem dX8_draw_5 : decode cX8_draw 5 = .ok (.i2l, 1) := by decide +kernel
theorem dX8_draw_6 : decode cX8_draw 6 = .ok (.ldc2_w 210, 3) := by decide +kernel
theorem dX8_draw_9 : decode cX8_draw 9 = .ok (.lmul, 1) := by decide +kernel
theorem dX8_draw_10 : decode cX8_draw 10 = .ok (.ldc2_w 212, 3) := by decide +kernel
theorem dX8_draw_13 : decode cX8_draw 13 = .ok (.ladd, 1) := by decide +kernel
theorem dX8_draw_14 : decode cX8_draw 14 = .ok (.ldc2_w 214, 3) := by decide +kernel
theorem dX8_draw_17 : decode cX8_draw 17 = .ok (.lrem, 1) := by decide +kernel
theorem dX8_draw_18 : decode cX8_draw 18 = .ok (.l2i, 1) := by decide +kernel
theorem dX8_draw_19 : decode cX8_draw 19 = .ok (.putfield 207, 3) := by decide +kernel
theorem dX8_draw_22 : decode cX8_draw 22 = .ok (.aload_n 0, 1) := by decide +kernel
theorem dX8_draw_23 : decode cX8_draw 23 = .ok (.getfield 207, 3) := by decide +kernel
theorem dX8_draw_26 : decode cX8_draw 26 = .ok (.ldc 216, 2) := by decide +kernel
theorem dX8_draw_28 : decode cX8_draw 28 = .ok (.idiv, 1) := by decide +kernel
theorem dX8_draw_29 : decode cX8_draw 29 = .ok (.bipush 100, 2) := by decide +kernel
theorem dX8_draw_31 : decode cX8_draw 31 = .ok (.irem, 1) := by decide +kernel
theorem dX8_draw_32 : decode cX8_draw 32 = .ok (.ireturn, 1) := by decide +kernel
theorem dX8_lookOf_0 : decode cX8_lookOf 0 = .ok (.iconst 0, 1) := by decide +kernel
theorem dX8_lookOf_1 : decode cX8_lookOf 1 = .ok (.istore_n 3, 1) := by decide +kernel
theorem dX8_lookOf_2 : decode cX8_lookOf 2 = .ok (.iload_n 3, 1) := by decide +kernel
theorem dX8_lookOf_3 : decode cX8_lookOf 3 = .ok (.aload_n 0, 1) := by decide +kernel
theorem dX8_lookOf_4 : decode cX8_lookOf 4 = .ok (.getfield 174, 3) := by decide +kernel
theorem dX8_lookOf_7 : decode cX8_lookOf 7 = .ok (.if_icmp .ge 31, 3) := by decide +kernel
theorem dX8_lookOf_10 : decode cX8_lookOf 10 = .ok (.aload_n 0, 1) := by decide +kernel
theorem dX8_lookOf_11 : decode cX8_lookOf 11 = .ok (.getfield 42, 3) := by decide +kernel
theorem dX8_lookOf_14 : decode cX8_lookOf 14 = .ok (.iload_n 3, 1) := by decide +kernel
theorem dX8_lookOf_15 : decode cX8_lookOf 15 = .ok (.iaload, 1) := by decide +kernel
theorem dX8_lookOf_16 : decode cX8_lookOf 16 = .ok (.iload_n 1, 1) := by decide +kernel
theorem dX8_lookOf_17 : decode cX8_lookOf 17 = .ok (.if_icmp .ne 15, 3) := by decide +kernel
theorem dX8_lookOf_20 : decode cX8_lookOf 20 = .ok (.aload_n 0, 1) := by decide +kernel
theorem dX8_lookOf_21 : decode cX8_lookOf 21 = .ok (.getfield 45, 3) := by decide +kernel
theorem dX8_lookOf_24 : decode cX8_lookOf 24 = .ok (.iload_n 3, 1) := by decide +kernel
theorem dX8_lookOf_25 : decode cX8_lookOf 25 = .ok (.iaload, 1) := by decide +kernel
theorem dX8_lookOf_26 : decode cX8_lookOf 26 = .ok (.iload_n 2, 1) := by decide +kernel
theorem dX8_lookOf_27 : decode cX8_lookOf 27 = .ok (.if_icmp .ne 5, 3) := by decide +kernel
theorem dX8_lookOf_30 : decode cX8_lookOf 30 = .ok (.iload_n 3, 1) := by decide +kernel
theorem dX8_lookOf_31 : decode cX8_lookOf 31 = .ok (.ireturn, 1) := by decide +kernel
theorem dX8_lookOf_32 : decode cX8_lookOf 32 = .ok (.iinc 3 1, 3) := by decide +kernel
theorem dX8_lookOf_35 : decode cX8_lookOf 35 = .ok (.goto (-33), 3) := by decide +kernel
theorem dX8_lookOf_38 : decode cX8_lookOf 38 = .ok (.iconst (-1), 1) := by decide +kernel
theorem dX8_lookOf_39 : decode cX8_lookOf 39 = .ok (.ireturn, 1) := by decide +kernel
theorem dX8_addLook_0 : decode cX8_addLook 0 = .ok (.aload_n 0, 1) := by decide +kernel
theorem dX8_addLook_1 : decode cX8_addLook 1 = .ok (.getfield 42, 3) := by decide +kernel
theorem dX8_addLook_4 : decode cX8_addLook 4 = .ok (.aload_n 0, 1) := by decide +kernel
theorem dX8_addLook_5 : decode cX8_addLook 5 = .ok (.getfield 174, 3) := by decide +kernel
theorem dX8_addLook_8 : decode cX8_addLook 8 = .ok (.iload_n 1, 1) := by decide +kernel
theorem dX8_addLook_9 : decode cX8_addLook 9 = .ok (.iastore, 1) := by decide +kernel
theorem dX8_addLook_10 : decode cX8_addLook 10 = .ok (.aload_n 0, 1) := by decide +kernel
theorem dX8_addLook_11 : decode cX8_addLook 11 = .ok (.getfield 45, 3) := by decide +kernel
theorem dX8_addLook_14 : decode cX8_addLook 14 = .ok (.aload_n 0, 1) := by decide +kernel
theorem dX8_addLook_15 : decode cX8_addLook 15 = .ok (.getfield 174, 3) := by decide +kernel
theorem dX8_addLook_18 : decode cX8_addLook 18 = .ok (.iload_n 2, 1) := by decide +kernel
theorem dX8_addLook_19 : decode cX8_addLook 19 = .ok (.iastore, 1) := by decide +kernel
theorem dX8_addLook_20 : decode cX8_addLook 20 = .ok (.aload_n 0, 1) := by decide +kernel
theorem dX8_addLook_21 : decode cX8_addLook 21 = .ok (.getfield 48, 3) := by decide +kernel
theorem dX8_addLook_24 : decode cX8_addLook 24 = .ok (.aload_n 0, 1) := by decide +kernel
theorem dX8_addLook_25 : decode cX8_addLook 25 = .ok (.getfield 174, 3) := by decide +kernel
theorem dX8_addLook_28 : decode cX8_addLook 28 = .ok (.iload_n 3, 1) := by decide +kernel
theorem dX8_addLook_29 : decode cX8_addLook 29 = .ok (.iastore, 1) := by decide +kernel
theorem dX8_addLook_30 : decode cX8_addLook 30 = .ok (.aload_n 0, 1) := by decide +kernel
theorem dX8_addLook_31 : decode cX8_addLook 31 = .ok (.dup, 1) := by decide +kernel
theorem dX8_addLook_32 : decode cX8_addLook 32 = .ok (.getfield 174, 3) := by decide +kernel
theorem dX8_addLook_35 : decode cX8_addLook 35 = .ok (.iconst 1, 1) := by decide +kernel
theorem dX8_addLook_36 : decode cX8_addLook 36 = .ok (.iadd, 1) := by decide +kernel
theorem dX8_addLook_37 : decode cX8_addLook 37 = .ok (.putfield 174, 3) := by decide +kernel
theorem dX8_addLook_40 : decode cX8_addLook 40 = .ok (.aload_n 0, 1) := by decide +kernel
theorem dX8_addLook_41 : decode cX8_addLook 41 = .ok (.getfield 174, 3) := by decide +kernel
theorem dX8_addLook_44 : decode cX8_addLook 44 = .ok (.iconst 1, 1) := by decide +kernel
theorem dX8_addLook_45 : decode cX8_addLook 45 = .ok (.isub, 1) := by decide +kernel
theorem dX8_addLook_46 : decode cX8_addLook 46 = .ok (.ireturn, 1) := by decide +kernel
theorem dX8_look_0 : decode cX8_look 0 = .ok (.aload_n 0, 1) := by decide +kernel
theorem dX8_look_1 : decode cX8_look 1 = .ok (.iload_n 1, 1) := by decide +kernel
theorem dX8_look_2 : decode cX8_look 2 = .ok (.invokevirtual 217, 3) := by decide +kernel
theorem dX8_look_5 : decode cX8_look 5 = .ok (.ifCond .ne 11, 3) := by decide +kernel
theorem dX8_look_8 : decode cX8_look 8 = .ok (.aload_n 0, 1) := by decide +kernel
theorem dX8_look_9 : decode cX8_look 9 = .ok (.iload_n 2, 1) := by decide +kernel
theorem dX8_look_10 : decode cX8_look 10 = .ok (.invokevirtual 168, 3) := by decide +kernel
theorem dX8_look_13 : decode cX8_look 13 = .ok (.ifCond .eq 7, 3) := by decide +kernel
theorem dX8_look_16 : decode cX8_look 16 = .ok (.sipush (-1001), 3) := by decide +kernel
theorem dX8_look_19 : decode cX8_look 19 = .ok (.ireturn, 1) := by decide +kernel
theorem dX8_look_20 : decode cX8_look 20 = .ok (.iload_n 3, 1) := by decide +kernel
theorem dX8_look_21 : decode cX8_look 21 = .ok (.i2l, 1) := by decide +kernel
theorem dX8_look_22 : decode cX8_look 22 = .ok (.lconst 0, 1) := by decide +kernel
theorem dX8_look_23 : decode cX8_look 23 = .ok (.ldc2_w 220, 3) := by decide +kernel
theorem dX8_look_26 : decode cX8_look 26 = .ok (.invokestatic 100, 3) := by decide +kernel
theorem dX8_look_29 : decode cX8_look 29 = .ok (.ifCond .ne 7, 3) := by decide +kernel
theorem dX8_look_32 : decode cX8_look 32 = .ok (.sipush (-1002), 3) := by decide +kernel
theorem dX8_look_35 : decode cX8_look 35 = .ok (.ireturn, 1) := by decide +kernel
theorem dX8_look_36 : decode cX8_look 36 = .ok (.aload_n 0, 1) := by decide +kernel
theorem dX8_look_37 : decode cX8_look 37 = .ok (.iload_n 1, 1) := by decide +kernel
theorem dX8_look_38 : decode cX8_look 38 = .ok (.iload_n 2, 1) := by decide +kernel
theorem dX8_look_39 : decode cX8_look 39 = .ok (.invokevirtual 222, 3) := by decide +kernel
theorem dX8_look_42 : decode cX8_look 42 = .ok (.ifCond .lt 7, 3) := by decide +kernel
theorem dX8_look_45 : decode cX8_look 45 = .ok (.sipush (-1003), 3) := by decide +kernel
theorem dX8_look_48 : decode cX8_look 48 = .ok (.ireturn, 1) := by decide +kernel
theorem dX8_look_49 : decode cX8_look 49 = .ok (.aload_n 0, 1) := by decide +kernel
theorem dX8_look_50 : decode cX8_look 50 = .ok (.getfield 174, 3) := by decide +kernel
theorem dX8_look_53 : decode cX8_look 53 = .ok (.sipush 200, 3) := by decide +kernel
theorem dX8_look_56 : decode cX8_look 56 = .ok (.if_icmp .ne 9, 3) := by decide +kernel
theorem dX8_look_59 : decode cX8_look 59 = .ok (.sipush (-1004), 3) := by decide +kernel
theorem dX8_look_62 : decode cX8_look 62 = .ok (.goto 10, 3) := by decide +kernel
theorem dX8_look_65 : decode cX8_look 65 = .ok (.aload_n 0, 1) := by decide +kernel
theorem dX8_look_66 : decode cX8_look 66 = .ok (.iload_n 1, 1) := by decide +kernel
theorem dX8_look_67 : decode cX8_look 67 = .ok (.iload_n 2, 1) := by decide +kernel
theorem dX8_look_68 : decode cX8_look 68 = .ok (.iload_n 3, 1) := by decide +kernel
theorem dX8_look_69 : decode cX8_look 69 = .ok (.invokevirtual 225, 3) := by decide +kernel
theorem dX8_look_72 : decode cX8_look 72 = .ok (.ireturn, 1) := by decide +kernel
theorem dX8_looksBy_0 : decode cX8_looksBy 0 = .ok (.iconst 0, 1) := by decide +kernel
theorem dX8_looksBy_1 : decode cX8_looksBy 1 = .ok (.istore_n 2, 1) := by decide +kernel
theorem dX8_looksBy_2 : decode cX8_looksBy 2 = .ok (.iconst 0, 1) := by decide +kernel
theorem dX8_looksBy_3 : decode cX8_looksBy 3 = .ok (.istore_n 3, 1) := by decide +kernel
theorem dX8_looksBy_4 : decode cX8_looksBy 4 = .ok (.iload_n 3, 1) := by decide +kernel
theorem dX8_looksBy_5 : decode cX8_looksBy 5 = .ok (.aload_n 0, 1) := by decide +kernel
theorem dX8_looksBy_6 : decode cX8_looksBy 6 = .ok (.getfield 174, 3) := by decide +kernel
theorem dX8_looksBy_9 : decode cX8_looksBy 9 = .ok (.if_icmp .ge 30, 3) := by decide +kernel
theorem dX8_looksBy_12 : decode cX8_looksBy 12 = .ok (.iload_n 2, 1) := by decide +kernel
theorem dX8_looksBy_13 : decode cX8_looksBy 13 = .ok (.aload_n 0, 1) := by decide +kernel
theorem dX8_looksBy_14 : decode cX8_looksBy 14 = .ok (.getfield 42, 3) := by decide +kernel
theorem dX8_looksBy_17 : decode cX8_looksBy 17 = .ok (.iload_n 3, 1) := by decide +kernel
theorem dX8_looksBy_18 : decode cX8_looksBy 18 = .ok (.iaload, 1) := by decide +kernel
theorem dX8_looksBy_19 : decode cX8_looksBy 19 = .ok (.iload_n 1, 1) := by decide +kernel
theorem dX8_looksBy_20 : decode cX8_looksBy 20 = .ok (.if_icmp .ne 7, 3) := by decide +kernel
theorem dX8_looksBy_23 : decode cX8_looksBy 23 = .ok (.iconst 1, 1) := by decide +kernel
theorem dX8_looksBy_24 : decode cX8_looksBy 24 = .ok (.goto 4, 3) := by decide +kernel
theorem dX8_looksBy_27 : decode cX8_looksBy 27 = .ok (.iconst 0, 1) := by decide +kernel
theorem dX8_looksBy_28 : decode cX8_looksBy 28 = .ok (.invokestatic 148, 3) := by decide +kernel
theorem dX8_looksBy_31 : decode cX8_looksBy 31 = .ok (.iadd, 1) := by decide +kernel
theorem dX8_looksBy_32 : decode cX8_looksBy 32 = .ok (.istore_n 2, 1) := by decide +kernel
theorem dX8_looksBy_33 : decode cX8_looksBy 33 = .ok (.iinc 3 1, 3) := by decide +kernel
theorem dX8_looksBy_36 : decode cX8_looksBy 36 = .ok (.goto (-32), 3) := by decide +kernel
theorem dX8_looksBy_39 : decode cX8_looksBy 39 = .ok (.iload_n 2, 1) := by decide +kernel
theorem dX8_looksBy_40 : decode cX8_looksBy 40 = .ok (.ireturn, 1) := by decide +kernel
theorem dX8_eyeOf_0 : decode cX8_eyeOf 0 = .ok (.aload_n 0, 1) := by decide +kernel
theorem dX8_eyeOf_1 : decode cX8_eyeOf 1 = .ok (.getfield 39, 3) := by decide +kernel
theorem dX8_eyeOf_4 : decode cX8_eyeOf 4 = .ok (.iload_n 1, 1) := by decide +kernel
theorem dX8_eyeOf_5 : decode cX8_eyeOf 5 = .ok (.iaload, 1) := by decide +kernel
theorem dX8_eyeOf_6 : decode cX8_eyeOf 6 = .ok (.iconst 4, 1) := by decide +kernel
theorem dX8_eyeOf_7 : decode cX8_eyeOf 7 = .ok (.if_icmp .ne 21, 3) := by decide +kernel
theorem dX8_eyeOf_10 : decode cX8_eyeOf 10 = .ok (.aload_n 0, 1) := by decide +kernel
theorem dX8_eyeOf_11 : decode cX8_eyeOf 11 = .ok (.getfield 29, 3) := by decide +kernel
theorem dX8_eyeOf_14 : decode cX8_eyeOf 14 = .ok (.iload_n 2, 1) := by decide +kernel
theorem dX8_eyeOf_15 : decode cX8_eyeOf 15 = .ok (.iaload, 1) := by decide +kernel
theorem dX8_eyeOf_16 : decode cX8_eyeOf 16 = .ok (.iconst 4, 1) := by decide +kernel
theorem dX8_eyeOf_17 : decode cX8_eyeOf 17 = .ok (.if_icmp .gt 8, 3) := by decide +kernel
theorem dX8_eyeOf_20 : decode cX8_eyeOf 20 = .ok (.bipush 100, 2) := by decide +kernel
theorem dX8_eyeOf_22 : decode cX8_eyeOf 22 = .ok (.goto 5, 3) := by decide +kernel
theorem dX8_eyeOf_25 : decode cX8_eyeOf 25 = .ok (.bipush 34, 2) := by decide +kernel
theorem dX8_eyeOf_27 : decode cX8_eyeOf 27 = .ok (.ireturn, 1) := by decide +kernel
theorem dX8_eyeOf_28 : decode cX8_eyeOf 28 = .ok (.aload_n 0, 1) := by decide +kernel
theorem dX8_eyeOf_29 : decode cX8_eyeOf 29 = .ok (.getfield 26, 3) := by decide +kernel
theorem dX8_eyeOf_32 : decode cX8_eyeOf 32 = .ok (.iload_n 2, 1) := by decide +kernel
theorem dX8_eyeOf_33 : decode cX8_eyeOf 33 = .ok (.iaload, 1) := by decide +kernel
theorem dX8_eyeOf_34 : decode cX8_eyeOf 34 = .ok (.iconst 1, 1) := by decide +kernel
theorem dX8_eyeOf_35 : decode cX8_eyeOf 35 = .ok (.if_icmp .ne 12, 3) := by decide +kernel
theorem dX8_eyeOf_38 : decode cX8_eyeOf 38 = .ok (.aload_n 0, 1) := by decide +kernel
theorem dX8_eyeOf_39 : decode cX8_eyeOf 39 = .ok (.getfield 7, 3) := by decide +kernel
theorem dX8_eyeOf_42 : decode cX8_eyeOf 42 = .ok (.iconst 1, 1) := by decide +kernel
theorem dX8_eyeOf_43 : decode cX8_eyeOf 43 = .ok (.iaload, 1) := by decide +kernel
theorem dX8_eyeOf_44 : decode cX8_eyeOf 44 = .ok (.goto 9, 3) := by decide +kernel
theorem dX8_eyeOf_47 : decode cX8_eyeOf 47 = .ok (.aload_n 0, 1) := by decide +kernel
theorem dX8_eyeOf_48 : decode cX8_eyeOf 48 = .ok (.getfield 7, 3) := by decide +kernel
theorem dX8_eyeOf_51 : decode cX8_eyeOf 51 = .ok (.iconst 0, 1) := by decide +kernel
theorem dX8_eyeOf_52 : decode cX8_eyeOf 52 = .ok (.iaload, 1) := by decide +kernel
theorem dX8_eyeOf_53 : decode cX8_eyeOf 53 = .ok (.istore_n 3, 1) := by decide +kernel
theorem dX8_eyeOf_54 : decode cX8_eyeOf 54 = .ok (.iload_n 3, 1) := by decide +kernel
theorem dX8_eyeOf_55 : decode cX8_eyeOf 55 = .ok (.aload_n 0, 1) := by decide +kernel
theorem dX8_eyeOf_56 : decode cX8_eyeOf 56 = .ok (.getfield 39, 3) := by decide +kernel
theorem dX8_eyeOf_59 : decode cX8_eyeOf 59 = .ok (.iload_n 1, 1) := by decide +kernel
theorem dX8_eyeOf_60 : decode cX8_eyeOf 60 = .ok (.iaload, 1) := by decide +kernel
theorem dX8_eyeOf_61 : decode cX8_eyeOf 61 = .ok (.iconst 2, 1) := by decide +kernel
theorem dX8_eyeOf_62 : decode cX8_eyeOf 62 = .ok (.if_icmp .ne 18, 3) := by decide +kernel
theorem dX8_eyeOf_65 : decode cX8_eyeOf 65 = .ok (.aload_n 0, 1) := by decide +kernel
theorem dX8_eyeOf_66 : decode cX8_eyeOf 66 = .ok (.getfield 7, 3) := by decide +kernel
theorem dX8_eyeOf_69 : decode cX8_eyeOf 69 = .ok (.iconst 3, 1) := by decide +kernel
theorem dX8_eyeOf_70 : decode cX8_eyeOf 70 = .ok (.iaload, 1) := by decide +kernel
theorem dX8_eyeOf_71 : decode cX8_eyeOf 71 = .ok (.aload_n 0, 1) := by decide +kernel
theorem dX8_eyeOf_72 : decode cX8_eyeOf 72 = .ok (.iload_n 1, 1) := by decide +kernel
theorem dX8_eyeOf_73 : decode cX8_eyeOf 73 = .ok (.invokevirtual 229, 3) := by decide +kernel
theorem dX8_eyeOf_76 : decode cX8_eyeOf 76 = .ok (.imul, 1) := by decide +kernel
theorem dX8_eyeOf_77 : decode cX8_eyeOf 77 = .ok (.goto 4, 3) := by decide +kernel
theorem dX8_eyeOf_80 : decode cX8_eyeOf 80 = .ok (.iconst 0, 1) := by decide +kernel
theorem dX8_eyeOf_81 : decode cX8_eyeOf 81 = .ok (.isub, 1) := by decide +kernel
theorem dX8_eyeOf_82 : decode cX8_eyeOf 82 = .ok (.istore_n 3, 1) := by decide +kernel
theorem dX8_eyeOf_83 : decode cX8_eyeOf 83 = .ok (.iload_n 3, 1) := by decide +kernel
theorem dX8_eyeOf_84 : decode cX8_eyeOf 84 = .ok (.ifCond .ge 7, 3) := by decide +kernel
theorem dX8_eyeOf_87 : decode cX8_eyeOf 87 = .ok (.iconst 0, 1) := by decide +kernel
theorem dX8_eyeOf_88 : decode cX8_eyeOf 88 = .ok (.goto 4, 3) := by decide +kernel
theorem dX8_eyeOf_91 : decode cX8_eyeOf 91 = .ok (.iload_n 3, 1) := by decide +kernel
theorem dX8_eyeOf_92 : decode cX8_eyeOf 92 = .ok (.ireturn, 1) := by decide +kernel
theorem dX8_saidOf_0 : decode cX8_saidOf 0 = .ok (.aload_n 0, 1) := by decide +kernel
theorem dX8_saidOf_1 : decode cX8_saidOf 1 = .ok (.getfield 39, 3) := by decide +kernel
theorem dX8_saidOf_4 : decode cX8_saidOf 4 = .ok (.iload_n 1, 1) := by decide +kernel
theorem dX8_saidOf_5 : decode cX8_saidOf 5 = .ok (.iaload, 1) := by decide +kernel
theorem dX8_saidOf_6 : decode cX8_saidOf 6 = .ok (.iconst 5, 1) := by decide +kernel
theorem dX8_saidOf_7 : decode cX8_saidOf 7 = .ok (.if_icmp .ne 16, 3) := by decide +kernel
theorem dX8_saidOf_10 : decode cX8_saidOf 10 = .ok (.aload_n 0, 1) := by decide +kernel
theorem dX8_saidOf_11 : decode cX8_saidOf 11 = .ok (.getfield 29, 3) := by decide +kernel
theorem dX8_saidOf_14 : decode cX8_saidOf 14 = .ok (.iload_n 2, 1) := by decide +kernel
theorem dX8_saidOf_15 : decode cX8_saidOf 15 = .ok (.iaload, 1) := by decide +kernel
theorem dX8_saidOf_16 : decode cX8_saidOf 16 = .ok (.bipush 8, 2) := by decide +kernel
theorem dX8_saidOf_18 : decode cX8_saidOf 18 = .ok (.if_icmp .lt 5, 3) := by decide +kernel
theorem dX8_saidOf_21 : decode cX8_saidOf 21 = .ok (.iconst 3, 1) := by decide +kernel
theorem dX8_saidOf_22 : decode cX8_saidOf 22 = .ok (.ireturn, 1) := by decide +kernel
theorem dX8_saidOf_23 : decode cX8_saidOf 23 = .ok (.aload_n 0, 1) := by decide +kernel
theorem dX8_saidOf_24 : decode cX8_saidOf 24 = .ok (.getfield 39, 3) := by decide +kernel
theorem dX8_saidOf_27 : decode cX8_saidOf 27 = .ok (.iload_n 1, 1) := by decide +kernel
theorem dX8_saidOf_28 : decode cX8_saidOf 28 = .ok (.iaload, 1) := by decide +kernel
theorem dX8_saidOf_29 : decode cX8_saidOf 29 = .ok (.iconst 3, 1) := by decide +kernel
theorem dX8_saidOf_30 : decode cX8_saidOf 30 = .ok (.if_icmp .ne 10, 3) := by decide +kernel
theorem dX8_saidOf_33 : decode cX8_saidOf 33 = .ok (.aload_n 0, 1) := by decide +kernel
theorem dX8_saidOf_34 : decode cX8_saidOf 34 = .ok (.invokevirtual 232, 3) := by decide +kernel
theorem dX8_saidOf_37 : decode cX8_saidOf 37 = .ok (.iconst 3, 1) := by decide +kernel
theorem dX8_saidOf_38 : decode cX8_saidOf 38 = .ok (.irem, 1) := by decide +kernel
theorem dX8_saidOf_39 : decode cX8_saidOf 39 = .ok (.ireturn, 1) := by decide +kernel
theorem dX8_saidOf_40 : decode cX8_saidOf 40 = .ok (.aload_n 0, 1) := by decide +kernel
theorem dX8_saidOf_41 : decode cX8_saidOf 41 = .ok (.iload_n 1, 1) := by decide +kernel
theorem dX8_saidOf_42 : decode cX8_saidOf 42 = .ok (.iload_n 2, 1) := by decide +kernel
theorem dX8_saidOf_43 : decode cX8_saidOf 43 = .ok (.invokevirtual 235, 3) := by decide +kernel
theorem dX8_saidOf_46 : decode cX8_saidOf 46 = .ok (.istore_n 3, 1) := by decide +kernel
theorem dX8_saidOf_47 : decode cX8_saidOf 47 = .ok (.aload_n 0, 1) := by decide +kernel
theorem dX8_saidOf_48 : decode cX8_saidOf 48 = .ok (.invokevirtual 232, 3) := by decide +kernel
theorem dX8_saidOf_51 : decode cX8_saidOf 51 = .ok (.iload_n 3, 1) := by decide +kernel
theorem dX8_saidOf_52 : decode cX8_saidOf 52 = .ok (.if_icmp .ge 12, 3) := by decide +kernel
theorem dX8_saidOf_55 : decode cX8_saidOf 55 = .ok (.aload_n 0, 1) := by decide +kernel
theorem dX8_saidOf_56 : decode cX8_saidOf 56 = .ok (.getfield 23, 3) := by decide +kernel
theorem dX8_saidOf_59 : decode cX8_saidOf 59 = .ok (.iload_n 2, 1) := by decide +kernel
theorem dX8_saidOf_60 : decode cX8_saidOf 60 = .ok (.iaload, 1) := by decide +kernel
theorem dX8_saidOf_61 : decode cX8_saidOf 61 = .ok (.goto 23, 3) := by decide +kernel
theorem dX8_saidOf_64 : decode cX8_saidOf 64 = .ok (.aload_n 0, 1) := by decide +kernel
theorem dX8_saidOf_65 : decode cX8_saidOf 65 = .ok (.getfield 26, 3) := by decide +kernel
theorem dX8_saidOf_68 : decode cX8_saidOf 68 = .ok (.iload_n 2, 1) := by decide +kernel
theorem dX8_saidOf_69 : decode cX8_saidOf 69 = .ok (.iaload, 1) := by decide +kernel
theorem dX8_saidOf_70 : decode cX8_saidOf 70 = .ok (.iconst 1, 1) := by decide +kernel
theorem dX8_saidOf_71 : decode cX8_saidOf 71 = .ok (.if_icmp .ne 7, 3) := by decide +kernel
theorem dX8_saidOf_74 : decode cX8_saidOf 74 = .ok (.iconst 0, 1) := by decide +kernel
theorem dX8_saidOf_75 : decode cX8_saidOf 75 = .ok (.goto 9, 3) := by decide +kernel
theorem dX8_saidOf_78 : decode cX8_saidOf 78 = .ok (.aload_n 0, 1) := by decide +kernel
theorem dX8_saidOf_79 : decode cX8_saidOf 79 = .ok (.invokevirtual 232, 3) := by decide +kernel
theorem dX8_saidOf_82 : decode cX8_saidOf 82 = .ok (.iconst 3, 1) := by decide +kernel
theorem dX8_saidOf_83 : decode cX8_saidOf 83 = .ok (.irem, 1) := by decide +kernel
theorem dX8_saidOf_84 : decode cX8_saidOf 84 = .ok (.istore 4, 2) := by decide +kernel
theorem dX8_saidOf_86 : decode cX8_saidOf 86 = .ok (.aload_n 0, 1) := by decide +kernel
theorem dX8_saidOf_87 : decode cX8_saidOf 87 = .ok (.getfield 39, 3) := by decide +kernel
theorem dX8_saidOf_90 : decode cX8_saidOf 90 = .ok (.iload_n 1, 1) := by decide +kernel
theorem dX8_saidOf_91 : decode cX8_saidOf 91 = .ok (.iaload, 1) := by decide +kernel
theorem dX8_saidOf_92 : decode cX8_saidOf 92 = .ok (.iconst 1, 1) := by decide +kernel
theorem dX8_saidOf_93 : decode cX8_saidOf 93 = .ok (.if_icmp .ne 29, 3) := by decide +kernel
theorem dX8_saidOf_96 : decode cX8_saidOf 96 = .ok (.iload 4, 2) := by decide +kernel
theorem dX8_saidOf_98 : decode cX8_saidOf 98 = .ok (.iconst 2, 1) := by decide +kernel
theorem dX8_saidOf_99 : decode cX8_saidOf 99 = .ok (.if_icmp .ne 23, 3) := by decide +kernel
theorem dX8_saidOf_102 : decode cX8_saidOf 102 = .ok (.aload_n 0, 1) := by decide +kernel
theorem dX8_saidOf_103 : decode cX8_saidOf 103 = .ok (.invokevirtual 232, 3) := by decide +kernel
theorem dX8_saidOf_106 : decode cX8_saidOf 106 = .ok (.aload_n 0, 1) := by decide +kernel
theorem dX8_saidOf_107 : decode cX8_saidOf 107 = .ok (.getfield 7, 3) := by decide +kernel
theorem dX8_saidOf_110 : decode cX8_saidOf 110 = .ok (.iconst 2, 1) := by decide +kernel
theorem dX8_saidOf_111 : decode cX8_saidOf 111 = .ok (.iaload, 1) := by decide +kernel
theorem dX8_saidOf_112 : decode cX8_saidOf 112 = .ok (.if_icmp .ge 7, 3) := by decide +kernel
theorem dX8_saidOf_115 : decode cX8_saidOf 115 = .ok (.iconst 1, 1) := by decide +kernel
theorem dX8_saidOf_116 : decode cX8_saidOf 116 = .ok (.goto 4, 3) := by decide +kernel
theorem dX8_saidOf_119 : decode cX8_saidOf 119 = .ok (.iconst 2, 1) := by decide +kernel
theorem dX8_saidOf_120 : decode cX8_saidOf 120 = .ok (.istore 4, 2) := by decide +kernel
theorem dX8_saidOf_122 : decode cX8_saidOf 122 = .ok (.iload 4, 2) := by decide +kernel
theorem dX8_saidOf_124 : decode cX8_saidOf 124 = .ok (.ireturn, 1) := by decide +kernel
theorem dX8_says_0 : decode cX8_says 0 = .ok (.aload_n 0, 1) := by decide +kernel
theorem dX8_says_1 : decode cX8_says 1 = .ok (.iload_n 1, 1) := by decide +kernel
theorem dX8_says_2 : decode cX8_says 2 = .ok (.invokevirtual 217, 3) := by decide +kernel
theorem dX8_says_5 : decode cX8_says 5 = .ok (.ifCond .ne 11, 3) := by decide +kernel
theorem dX8_says_8 : decode cX8_says 8 = .ok (.aload_n 0, 1) := by decide +kernel
theorem dX8_says_9 : decode cX8_says 9 = .ok (.iload_n 2, 1) := by decide +kernel
theorem dX8_says_10 : decode cX8_says 10 = .ok (.invokevirtual 168, 3) := by decide +kernel
theorem dX8_says_13 : decode cX8_says 13 = .ok (.ifCond .eq 7, 3) := by decide +kernel
theorem dX8_says_16 : decode cX8_says 16 = .ok (.sipush (-1001), 3) := by decide +kernel
theorem dX8_says_19 : decode cX8_says 19 = .ok (.ireturn, 1) := by decide +kernel
theorem dX8_says_20 : decode cX8_says 20 = .ok (.aload_n 0, 1) := by decide +kernel
theorem dX8_says_21 : decode cX8_says 21 = .ok (.iload_n 1, 1) := by decide +kernel
theorem dX8_says_22 : decode cX8_says 22 = .ok (.iload_n 2, 1) := by decide +kernel
theorem dX8_says_23 : decode cX8_says 23 = .ok (.invokevirtual 222, 3) := by decide +kernel
theorem dX8_says_26 : decode cX8_says 26 = .ok (.ifCond .lt 7, 3) := by decide +kernel
theorem dX8_says_29 : decode cX8_says 29 = .ok (.sipush (-1003), 3) := by decide +kernel
theorem dX8_says_32 : decode cX8_says 32 = .ok (.ireturn, 1) := by decide +kernel
theorem dX8_says_33 : decode cX8_says 33 = .ok (.aload_n 0, 1) := by decide +kernel
theorem dX8_says_34 : decode cX8_says 34 = .ok (.getfield 174, 3) := by decide +kernel
theorem dX8_says_37 : decode cX8_says 37 = .ok (.sipush 200, 3) := by decide +kernel
theorem dX8_says_40 : decode cX8_says 40 = .ok (.if_icmp .ne 7, 3) := by decide +kernel
theorem dX8_says_43 : decode cX8_says 43 = .ok (.sipush (-1004), 3) := by decide +kernel
theorem dX8_says_46 : decode cX8_says 46 = .ok (.ireturn, 1) := by decide +kernel
theorem dX8_says_47 : decode cX8_says 47 = .ok (.aload_n 0, 1) := by decide +kernel
theorem dX8_says_48 : decode cX8_says 48 = .ok (.iload_n 1, 1) := by decide +kernel
theorem dX8_says_49 : decode cX8_says 49 = .ok (.iload_n 2, 1) := by decide +kernel
theorem dX8_says_50 : decode cX8_says 50 = .ok (.invokevirtual 238, 3) := by decide +kernel
theorem dX8_says_53 : decode cX8_says 53 = .ok (.istore_n 3, 1) := by decide +kernel
theorem dX8_says_54 : decode cX8_says 54 = .ok (.aload_n 0, 1) := by decide +kernel
theorem dX8_says_55 : decode cX8_says 55 = .ok (.iload_n 1, 1) := by decide +kernel
theorem dX8_says_56 : decode cX8_says 56 = .ok (.iload_n 2, 1) := by decide +kernel
theorem dX8_says_57 : decode cX8_says 57 = .ok (.iload_n 3, 1) := by decide +kernel
theorem dX8_says_58 : decode cX8_says 58 = .ok (.invokevirtual 225, 3) := by decide +kernel
theorem dX8_says_61 : decode cX8_says 61 = .ok (.istore 4, 2) := by decide +kernel
theorem dX8_says_63 : decode cX8_says 63 = .ok (.iload_n 3, 1) := by decide +kernel
theorem dX8_says_64 : decode cX8_says 64 = .ok (.ireturn, 1) := by decide +kernel
theorem dX8_counts_0 : decode cX8_counts 0 = .ok (.iconst 0, 1) := by decide +kernel
theorem dX8_counts_1 : decode cX8_counts 1 = .ok (.istore_n 2, 1) := by decide +kernel
theorem dX8_counts_2 : decode cX8_counts 2 = .ok (.iconst 0, 1) := by decide +kernel
theorem dX8_counts_3 : decode cX8_counts 3 = .ok (.istore_n 3, 1) := by decide +kernel
theorem dX8_counts_4 : decode cX8_counts 4 = .ok (.iload_n 3, 1) := by decide +kernel
theorem dX8_counts_5 : decode cX8_counts 5 = .ok (.iload_n 1, 1) := by decide +kernel
theorem dX8_counts_6 : decode cX8_counts 6 = .ok (.if_icmp .ge 35, 3) := by decide +kernel
theorem dX8_counts_9 : decode cX8_counts 9 = .ok (.iload_n 2, 1) := by decide +kernel
theorem dX8_counts_10 : decode cX8_counts 10 = .ok (.aload_n 0, 1) := by decide +kernel
theorem dX8_counts_11 : decode cX8_counts 11 = .ok (.getfield 45, 3) := by decide +kernel
theorem dX8_counts_14 : decode cX8_counts 14 = .ok (.iload_n 3, 1) := by decide +kernel
theorem dX8_counts_15 : decode cX8_counts 15 = .ok (.iaload, 1) := by decide +kernel
theorem dX8_counts_16 : decode cX8_counts 16 = .ok (.aload_n 0, 1) := by decide +kernel
theorem dX8_counts_17 : decode cX8_counts 17 = .ok (.getfield 45, 3) := by decide +kernel
theorem dX8_counts_20 : decode cX8_counts 20 = .ok (.iload_n 1, 1) := by decide +kernel
theorem dX8_counts_21 : decode cX8_counts 21 = .ok (.iaload, 1) := by decide +kernel
theorem dX8_counts_22 : decode cX8_counts 22 = .ok (.if_icmp .ne 7, 3) := by decide +kernel
theorem dX8_counts_25 : decode cX8_counts 25 = .ok (.iconst 1, 1) := by decide +kernel
theorem dX8_counts_26 : decode cX8_counts 26 = .ok (.goto 4, 3) := by decide +kernel
theorem dX8_counts_29 : decode cX8_counts 29 = .ok (.iconst 0, 1) := by decide +kernel
theorem dX8_counts_30 : decode cX8_counts 30 = .ok (.invokestatic 148, 3) := by decide +kernel
theorem dX8_counts_33 : decode cX8_counts 33 = .ok (.iadd, 1) := by decide +kernel
theorem dX8_counts_34 : decode cX8_counts 34 = .ok (.istore_n 2, 1) := by decide +kernel
theorem dX8_counts_35 : decode cX8_counts 35 = .ok (.iinc 3 1, 3) := by decide +kernel
theorem dX8_counts_38 : decode cX8_counts 38 = .ok (.goto (-34), 3) := by decide +kernel
theorem dX8_counts_41 : decode cX8_counts 41 = .ok (.iload_n 2, 1) := by decide +kernel
theorem dX8_counts_42 : decode cX8_counts 42 = .ok (.bipush 6, 2) := by decide +kernel
theorem dX8_counts_44 : decode cX8_counts 44 = .ok (.if_icmp .ge 7, 3) := by decide +kernel
theorem dX8_counts_47 : decode cX8_counts 47 = .ok (.iconst 1, 1) := by decide +kernel
theorem dX8_counts_48 : decode cX8_counts 48 = .ok (.goto 4, 3) := by decide +kernel
theorem dX8_counts_51 : decode cX8_counts 51 = .ok (.iconst 0, 1) := by decide +kernel
theorem dX8_counts_52 : decode cX8_counts 52 = .ok (.ireturn, 1) := by decide +kernel
theorem dX8_about_0 : decode cX8_about 0 = .ok (.iload_n 1, 1) := by decide +kernel
theorem dX8_about_1 : decode cX8_about 1 = .ok (.i2l, 1) := by decide +kernel
theorem dX8_about_2 : decode cX8_about 2 = .ok (.lconst 0, 1) := by decide +kernel
theorem dX8_about_3 : decode cX8_about 3 = .ok (.aload_n 0, 1) := by decide +kernel
theorem dX8_about_4 : decode cX8_about 4 = .ok (.getfield 174, 3) := by decide +kernel
theorem dX8_about_7 : decode cX8_about 7 = .ok (.iconst 1, 1) := by decide +kernel
theorem dX8_about_8 : decode cX8_about 8 = .ok (.isub, 1) := by decide +kernel
theorem dX8_about_9 : decode cX8_about 9 = .ok (.i2l, 1) := by decide +kernel
theorem dX8_about_10 : decode cX8_about 10 = .ok (.invokestatic 100, 3) := by decide +kernel
theorem dX8_about_13 : decode cX8_about 13 = .ok (.ifCond .ne 7, 3) := by decide +kernel
theorem dX8_about_16 : decode cX8_about 16 = .ok (.sipush (-1001), 3) := by decide +kernel
theorem dX8_about_19 : decode cX8_about 19 = .ok (.ireturn, 1) := by decide +kernel
theorem dX8_about_20 : decode cX8_about 20 = .ok (.iload_n 2, 1) := by decide +kernel
theorem dX8_about_21 : decode cX8_about 21 = .ok (.tableswitch 61 0 3 #[31, 38, 45, 52], 31) := by decide +kernel
theorem dX8_about_52 : decode cX8_about 52 = .ok (.aload_n 0, 1) := by decide +kernel
theorem dX8_about_53 : decode cX8_about 53 = .ok (.getfield 42, 3) := by decide +kernel
theorem dX8_about_56 : decode cX8_about 56 = .ok (.iload_n 1, 1) := by decide +kernel
theorem dX8_about_57 : decode cX8_about 57 = .ok (.iaload, 1) := by decide +kernel
theorem dX8_about_58 : decode cX8_about 58 = .ok (.ireturn, 1) := by decide +kernel
theorem dX8_about_59 : decode cX8_about 59 = .ok (.aload_n 0, 1) := by decide +kernel
theorem dX8_about_60 : decode cX8_about 60 = .ok (.getfield 45, 3) := by decide +kernel
theorem dX8_about_63 : decode cX8_about 63 = .ok (.iload_n 1, 1) := by decide +kernel
theorem dX8_about_64 : decode cX8_about 64 = .ok (.iaload, 1) := by decide +kernel
theorem dX8_about_65 : decode cX8_about 65 = .ok (.ireturn, 1) := by decide +kernel
theorem dX8_about_66 : decode cX8_about 66 = .ok (.aload_n 0, 1) := by decide +kernel
theorem dX8_about_67 : decode cX8_about 67 = .ok (.getfield 48, 3) := by decide +kernel
theorem dX8_about_70 : decode cX8_about 70 = .ok (.iload_n 1, 1) := by decide +kernel
theorem dX8_about_71 : decode cX8_about 71 = .ok (.iaload, 1) := by decide +kernel
theorem dX8_about_72 : decode cX8_about 72 = .ok (.ireturn, 1) := by decide +kernel
theorem dX8_about_73 : decode cX8_about 73 = .ok (.aload_n 0, 1) := by decide +kernel
theorem dX8_about_74 : decode cX8_about 74 = .ok (.iload_n 1, 1) := by decide +kernel
theorem dX8_about_75 : decode cX8_about 75 = .ok (.invokevirtual 241, 3) := by decide +kernel
theorem dX8_about_78 : decode cX8_about 78 = .ok (.invokestatic 148, 3) := by decide +kernel
theorem dX8_about_81 : decode cX8_about 81 = .ok (.ireturn, 1) := by decide +kernel
theorem dX8_about_82 : decode cX8_about 82 = .ok (.sipush (-1002), 3) := by decide +kernel
theorem dX8_about_85 : decode cX8_about 85 = .ok (.ireturn, 1) := by decide +kernel
theorem dX8_nextOf_0 : decode cX8_nextOf 0 = .ok (.iconst (-1), 1) := by decide +kernel
theorem dX8_nextOf_1 : decode cX8_nextOf 1 = .ok (.istore_n 3, 1) := by decide +kernel
theorem dX8_nextOf_2 : decode cX8_nextOf 2 = .ok (.iconst 0, 1) := by decide +kernel
theorem dX8_nextOf_3 : decode cX8_nextOf 3 = .ok (.istore 4, 2) := by decide +kernel
theorem dX8_nextOf_5 : decode cX8_nextOf 5 = .ok (.iload 4, 2) := by decide +kernel
theorem dX8_nextOf_7 : decode cX8_nextOf 7 = .ok (.aload_n 0, 1) := by decide +kernel
theorem dX8_nextOf_8 : decode cX8_nextOf 8 = .ok (.getfield 154, 3) := by decide +kernel
theorem dX8_nextOf_11 : decode cX8_nextOf 11 = .ok (.if_icmp .ge 112, 3) := by decide +kernel
theorem dX8_nextOf_14 : decode cX8_nextOf 14 = .ok (.aload_n 0, 1) := by decide +kernel
theorem dX8_nextOf_15 : decode cX8_nextOf 15 = .ok (.iload 4, 2) := by decide +kernel
theorem dX8_nextOf_17 : decode cX8_nextOf 17 = .ok (.invokevirtual 186, 3) := by decide +kernel
theorem dX8_nextOf_20 : decode cX8_nextOf 20 = .ok (.ifCond .ne 97, 3) := by decide +kernel
theorem dX8_nextOf_23 : decode cX8_nextOf 23 = .ok (.aload_n 0, 1) := by decide +kernel
theorem dX8_nextOf_24 : decode cX8_nextOf 24 = .ok (.iload_n 1, 1) := by decide +kernel
theorem dX8_nextOf_25 : decode cX8_nextOf 25 = .ok (.iload 4, 2) := by decide +kernel
theorem dX8_nextOf_27 : decode cX8_nextOf 27 = .ok (.invokevirtual 222, 3) := by decide +kernel
theorem dX8_nextOf_30 : decode cX8_nextOf 30 = .ok (.ifCond .ge 87, 3) := by decide +kernel
theorem dX8_nextOf_33 : decode cX8_nextOf 33 = .ok (.iload_n 3, 1) := by decide +kernel
theorem dX8_nextOf_34 : decode cX8_nextOf 34 = .ok (.ifCond .ge 7, 3) := by decide +kernel
theorem dX8_nextOf_37 : decode cX8_nextOf 37 = .ok (.iconst (-1), 1) := by decide +kernel
theorem dX8_nextOf_38 : decode cX8_nextOf 38 = .ok (.goto 15, 3) := by decide +kernel
theorem dX8_nextOf_41 : decode cX8_nextOf 41 = .ok (.aload_n 0, 1) := by decide +kernel
theorem dX8_nextOf_42 : decode cX8_nextOf 42 = .ok (.iload 4, 2) := by decide +kernel
theorem dX8_nextOf_44 : decode cX8_nextOf 44 = .ok (.invokevirtual 180, 3) := by decide +kernel
theorem dX8_nextOf_47 : decode cX8_nextOf 47 = .ok (.aload_n 0, 1) := by decide +kernel
theorem dX8_nextOf_48 : decode cX8_nextOf 48 = .ok (.iload_n 3, 1) := by decide +kernel
theorem dX8_nextOf_49 : decode cX8_nextOf 49 = .ok (.invokevirtual 180, 3) := by decide +kernel
theorem dX8_nextOf_52 : decode cX8_nextOf 52 = .ok (.isub, 1) := by decide +kernel
theorem dX8_nextOf_53 : decode cX8_nextOf 53 = .ok (.istore 5, 2) := by decide +kernel
theorem dX8_nextOf_55 : decode cX8_nextOf 55 = .ok (.iload 5, 2) := by decide +kernel
theorem dX8_nextOf_57 : decode cX8_nextOf 57 = .ok (.ifCond .ne 22, 3) := by decide +kernel
theorem dX8_nextOf_60 : decode cX8_nextOf 60 = .ok (.iload_n 2, 1) := by decide +kernel
theorem dX8_nextOf_61 : decode cX8_nextOf 61 = .ok (.iconst 1, 1) := by decide +kernel
theorem dX8_nextOf_62 : decode cX8_nextOf 62 = .ok (.if_icmp .ne 17, 3) := by decide +kernel
theorem dX8_nextOf_65 : decode cX8_nextOf 65 = .ok (.aload_n 0, 1) := by decide +kernel
theorem dX8_nextOf_66 : decode cX8_nextOf 66 = .ok (.iload 4, 2) := by decide +kernel
theorem dX8_nextOf_68 : decode cX8_nextOf 68 = .ok (.invokevirtual 177, 3) := by decide +kernel
theorem dX8_nextOf_71 : decode cX8_nextOf 71 = .ok (.aload_n 0, 1) := by decide +kernel
theorem dX8_nextOf_72 : decode cX8_nextOf 72 = .ok (.iload_n 3, 1) := by decide +kernel
theorem dX8_nextOf_73 : decode cX8_nextOf 73 = .ok (.invokevirtual 177, 3) := by decide +kernel
theorem dX8_nextOf_76 : decode cX8_nextOf 76 = .ok (.isub, 1) := by decide +kernel
theorem dX8_nextOf_77 : decode cX8_nextOf 77 = .ok (.istore 5, 2) := by decide +kernel
theorem dX8_nextOf_79 : decode cX8_nextOf 79 = .ok (.iload 5, 2) := by decide +kernel
theorem dX8_nextOf_81 : decode cX8_nextOf 81 = .ok (.ifCond .ne 24, 3) := by decide +kernel
theorem dX8_nextOf_84 : decode cX8_nextOf 84 = .ok (.iload_n 2, 1) := by decide +kernel
theorem dX8_nextOf_85 : decode cX8_nextOf 85 = .ok (.iconst 2, 1) := by decide +kernel
theorem dX8_nextOf_86 : decode cX8_nextOf 86 = .ok (.if_icmp .ne 19, 3) := by decide +kernel
theorem dX8_nextOf_89 : decode cX8_nextOf 89 = .ok (.aload_n 0, 1) := by decide +kernel
theorem dX8_nextOf_90 : decode cX8_nextOf 90 = .ok (.getfield 29, 3) := by decide +kernel
theorem dX8_nextOf_93 : decode cX8_nextOf 93 = .ok (.iload_n 3, 1) := by decide +kernel
theorem dX8_nextOf_94 : decode cX8_nextOf 94 = .ok (.iaload, 1) := by decide +kernel
theorem dX8_nextOf_95 : decode cX8_nextOf 95 = .ok (.aload_n 0, 1) := by decide +kernel
theorem dX8_nextOf_96 : decode cX8_nextOf 96 = .ok (.getfield 29, 3) := by decide +kernel
theorem dX8_nextOf_99 : decode cX8_nextOf 99 = .ok (.iload 4, 2) := by decide +kernel
theorem dX8_nextOf_101 : decode cX8_nextOf 101 = .ok (.iaload, 1) := by decide +kernel
theorem dX8_nextOf_102 : decode cX8_nextOf 102 = .ok (.isub, 1) := by decide +kernel
theorem dX8_nextOf_103 : decode cX8_nextOf 103 = .ok (.istore 5, 2) := by decide +kernel
theorem dX8_nextOf_105 : decode cX8_nextOf 105 = .ok (.iload 5, 2) := by decide +kernel
theorem dX8_nextOf_107 : decode cX8_nextOf 107 = .ok (.ifCond .ge 8, 3) := by decide +kernel
theorem dX8_nextOf_110 : decode cX8_nextOf 110 = .ok (.iload 4, 2) := by decide +kernel
theorem dX8_nextOf_112 : decode cX8_nextOf 112 = .ok (.goto 4, 3) := by decide +kernel
theorem dX8_nextOf_115 : decode cX8_nextOf 115 = .ok (.iload_n 3, 1) := by decide +kernel
theorem dX8_nextOf_116 : decode cX8_nextOf 116 = .ok (.istore_n 3, 1) := by decide +kernel
theorem dX8_nextOf_117 : decode cX8_nextOf 117 = .ok (.iinc 4 1, 3) := by decide +kernel
theorem dX8_nextOf_120 : decode cX8_nextOf 120 = .ok (.goto (-115), 3) := by decide +kernel
theorem dX8_nextOf_123 : decode cX8_nextOf 123 = .ok (.iload_n 3, 1) := by decide +kernel
theorem dX8_nextOf_124 : decode cX8_nextOf 124 = .ok (.ireturn, 1) := by decide +kernel
theorem dX8_next_0 : decode cX8_next 0 = .ok (.aload_n 0, 1) := by decide +kernel
theorem dX8_next_1 : decode cX8_next 1 = .ok (.iload_n 1, 1) := by decide +kernel
theorem dX8_next_2 : decode cX8_next 2 = .ok (.invokevirtual 217, 3) := by decide +kernel
theorem dX8_next_5 : decode cX8_next 5 = .ok (.ifCond .eq 7, 3) := by decide +kernel
theorem dX8_next_8 : decode cX8_next 8 = .ok (.sipush (-1001), 3) := by decide +kernel
theorem dX8_next_11 : decode cX8_next 11 = .ok (.ireturn, 1) := by decide +kernel
theorem dX8_next_12 : decode cX8_next 12 = .ok (.iload_n 2, 1) := by decide +kernel
theorem dX8_next_13 : decode cX8_next 13 = .ok (.i2l, 1) := by decide +kernel
theorem dX8_next_14 : decode cX8_next 14 = .ok (.lconst 0, 1) := by decide +kernel
theorem dX8_next_15 : decode cX8_next 15 = .ok (.ldc2_w 157, 3) := by decide +kernel
theorem dX8_next_18 : decode cX8_next 18 = .ok (.invokestatic 100, 3) := by decide +kernel
theorem dX8_next_21 : decode cX8_next 21 = .ok (.ifCond .eq 12, 3) := by decide +kernel
theorem dX8_next_24 : decode cX8_next 24 = .ok (.aload_n 0, 1) := by decide +kernel
theorem dX8_next_25 : decode cX8_next 25 = .ok (.iload_n 1, 1) := by decide +kernel
theorem dX8_next_26 : decode cX8_next 26 = .ok (.iload_n 2, 1) := by decide +kernel
theorem dX8_next_27 : decode cX8_next 27 = .ok (.invokevirtual 244, 3) := by decide +kernel
theorem dX8_next_30 : decode cX8_next 30 = .ok (.goto 6, 3) := by decide +kernel
theorem dX8_next_33 : decode cX8_next 33 = .ok (.sipush (-1002), 3) := by decide +kernel
theorem dX8_next_36 : decode cX8_next 36 = .ok (.ireturn, 1) := by decide +kernel
theorem dX8_isStaying_0 : decode cX8_isStaying 0 = .ok (.iconst 0, 1) := by decide +kernel
theorem dX8_isStaying_1 : decode cX8_isStaying 1 = .ok (.istore_n 2, 1) := by decide +kernel
theorem dX8_isStaying_2 : decode cX8_isStaying 2 = .ok (.iconst 0, 1) := by decide +kernel
theorem dX8_isStaying_3 : decode cX8_isStaying 3 = .ok (.istore_n 3, 1) := by decide +kernel
theorem dX8_isStaying_4 : decode cX8_isStaying 4 = .ok (.aload_n 0, 1) := by decide +kernel
theorem dX8_isStaying_5 : decode cX8_isStaying 5 = .ok (.getfield 174, 3) := by decide +kernel
theorem dX8_isStaying_8 : decode cX8_isStaying 8 = .ok (.iconst 1, 1) := by decide +kernel
theorem dX8_isStaying_9 : decode cX8_isStaying 9 = .ok (.isub, 1) := by decide +kernel
theorem dX8_isStaying_10 : decode cX8_isStaying 10 = .ok (.istore 4, 2) := by decide +kernel
theorem dX8_isStaying_12 : decode cX8_isStaying 12 = .ok (.iload 4, 2) := by decide +kernel
theorem dX8_isStaying_14 : decode cX8_isStaying 14 = .ok (.ifCond .lt 59, 3) := by decide +kernel
theorem dX8_isStaying_17 : decode cX8_isStaying 17 = .ok (.iload_n 2, 1) := by decide +kernel
theorem dX8_isStaying_18 : decode cX8_isStaying 18 = .ok (.aload_n 0, 1) := by decide +kernel
theorem dX8_isStaying_19 : decode cX8_isStaying 19 = .ok (.getfield 7, 3) := by decide +kernel
theorem dX8_isStaying_22 : decode cX8_isStaying 22 = .ok (.bipush 6, 2) := by decide +kernel
theorem dX8_isStaying_24 : decode cX8_isStaying 24 = .ok (.iaload, 1) := by decide +kernel
theorem dX8_isStaying_25 : decode cX8_isStaying 25 = .ok (.if_icmp .ge 48, 3) := by decide +kernel
theorem dX8_isStaying_28 : decode cX8_isStaying 28 = .ok (.aload_n 0, 1) := by decide +kernel
theorem dX8_isStaying_29 : decode cX8_isStaying 29 = .ok (.getfield 42, 3) := by decide +kernel
theorem dX8_isStaying_32 : decode cX8_isStaying 32 = .ok (.iload 4, 2) := by decide +kernel
theorem dX8_isStaying_34 : decode cX8_isStaying 34 = .ok (.iaload, 1) := by decide +kernel
theorem dX8_isStaying_35 : decode cX8_isStaying 35 = .ok (.iload_n 1, 1) := by decide +kernel
theorem dX8_isStaying_36 : decode cX8_isStaying 36 = .ok (.if_icmp .ne 31, 3) := by decide +kernel
theorem dX8_isStaying_39 : decode cX8_isStaying 39 = .ok (.iinc 2 1, 3) := by decide +kernel
theorem dX8_isStaying_42 : decode cX8_isStaying 42 = .ok (.iload_n 3, 1) := by decide +kernel
theorem dX8_isStaying_43 : decode cX8_isStaying 43 = .ok (.ifCond .ne 18, 3) := by decide +kernel
theorem dX8_isStaying_46 : decode cX8_isStaying 46 = .ok (.aload_n 0, 1) := by decide +kernel
theorem dX8_isStaying_47 : decode cX8_isStaying 47 = .ok (.getfield 26, 3) := by decide +kernel
theorem dX8_isStaying_50 : decode cX8_isStaying 50 = .ok (.aload_n 0, 1) := by decide +kernel
theorem dX8_isStaying_51 : decode cX8_isStaying 51 = .ok (.getfield 45, 3) := by decide +kernel
theorem dX8_isStaying_54 : decode cX8_isStaying 54 = .ok (.iload 4, 2) := by decide +kernel
theorem dX8_isStaying_56 : decode cX8_isStaying 56 = .ok (.iaload, 1) := by decide +kernel
theorem dX8_isStaying_57 : decode cX8_isStaying 57 = .ok (.iaload, 1) := by decide +kernel
theorem dX8_isStaying_58 : decode cX8_isStaying 58 = .ok (.ifCond .ne 7, 3) := by decide +kernel
theorem dX8_isStaying_61 : decode cX8_isStaying 61 = .ok (.iconst 1, 1) := by decide +kernel
theorem dX8_isStaying_62 : decode cX8_isStaying 62 = .ok (.goto 4, 3) := by decide +kernel
theorem dX8_isStaying_65 : decode cX8_isStaying 65 = .ok (.iconst 0, 1) := by decide +kernel
theorem dX8_isStaying_66 : decode cX8_isStaying 66 = .ok (.istore_n 3, 1) := by decide +kernel
theorem dX8_isStaying_67 : decode cX8_isStaying 67 = .ok (.iinc 4 (-1), 3) := by decide +kernel
theorem dX8_isStaying_70 : decode cX8_isStaying 70 = .ok (.goto (-58), 3) := by decide +kernel
theorem dX8_isStaying_73 : decode cX8_isStaying 73 = .ok (.iload_n 2, 1) := by decide +kernel
theorem dX8_isStaying_74 : decode cX8_isStaying 74 = .ok (.aload_n 0, 1) := by decide +kernel
theorem dX8_isStaying_75 : decode cX8_isStaying 75 = .ok (.getfield 7, 3) := by decide +kernel
theorem dX8_isStaying_78 : decode cX8_isStaying 78 = .ok (.bipush 6, 2) := by decide +kernel
theorem dX8_isStaying_80 : decode cX8_isStaying 80 = .ok (.iaload, 1) := by decide +kernel
theorem dX8_isStaying_81 : decode cX8_isStaying 81 = .ok (.if_icmp .lt 7, 3) := by decide +kernel
theorem dX8_isStaying_84 : decode cX8_isStaying 84 = .ok (.iload_n 3, 1) := by decide +kernel
theorem dX8_isStaying_85 : decode cX8_isStaying 85 = .ok (.ifCond .eq 7, 3) := by decide +kernel
theorem dX8_isStaying_88 : decode cX8_isStaying 88 = .ok (.iconst 1, 1) := by decide +kernel
theorem dX8_isStaying_89 : decode cX8_isStaying 89 = .ok (.goto 4, 3) := by decide +kernel
theorem dX8_isStaying_92 : decode cX8_isStaying 92 = .ok (.iconst 0, 1) := by decide +kernel
theorem dX8_isStaying_93 : decode cX8_isStaying 93 = .ok (.ireturn, 1) := by decide +kernel
theorem dX8_stays_0 : decode cX8_stays 0 = .ok (.aload_n 0, 1) := by decide +kernel
theorem dX8_stays_1 : decode cX8_stays 1 = .ok (.iload_n 1, 1) := by decide +kernel
theorem dX8_stays_2 : decode cX8_stays 2 = .ok (.invokevirtual 217, 3) := by decide +kernel
theorem dX8_stays_5 : decode cX8_stays 5 = .ok (.ifCond .eq 9, 3) := by decide +kernel
theorem dX8_stays_8 : decode cX8_stays 8 = .ok (.sipush (-1001), 3) := by decide +kernel
theorem dX8_stays_11 : decode cX8_stays 11 = .ok (.goto 11, 3) := by decide +kernel
theorem dX8_stays_14 : decode cX8_stays 14 = .ok (.aload_n 0, 1) := by decide +kernel
theorem dX8_stays_15 : decode cX8_stays 15 = .ok (.iload_n 1, 1) := by decide +kernel
theorem dX8_stays_16 : decode cX8_stays 16 = .ok (.invokevirtual 189, 3) := by decide +kernel
theorem dX8_stays_19 : decode cX8_stays 19 = .ok (.invokestatic 148, 3) := by decide +kernel
theorem dX8_stays_22 : decode cX8_stays 22 = .ok (.ireturn, 1) := by decide +kernel
theorem dX8_evening_0 : decode cX8_evening 0 = .ok (.iload_n 1, 1) := by decide +kernel
theorem dX8_evening_1 : decode cX8_evening 1 = .ok (.i2l, 1) := by decide +kernel
theorem dX8_evening_2 : decode cX8_evening 2 = .ok (.lconst 0, 1) := by decide +kernel
theorem dX8_evening_3 : decode cX8_evening 3 = .ok (.iconst 1, 1) := by decide +kernel
theorem dX8_evening_4 : decode cX8_evening 4 = .ok (.aload_n 0, 1) := by decide +kernel
theorem dX8_evening_5 : decode cX8_evening 5 = .ok (.getfield 165, 3) := by decide +kernel
theorem dX8_evening_8 : decode cX8_evening 8 = .ok (.ishl, 1) := by decide +kernel
theorem dX8_evening_9 : decode cX8_evening 9 = .ok (.iconst 1, 1) := by decide +kernel
theorem dX8_evening_10 : decode cX8_evening 10 = .ok (.isub, 1) := by decide +kernel
theorem dX8_evening_11 : decode cX8_evening 11 = .ok (.i2l, 1) := by decide +kernel
theorem dX8_evening_12 : decode cX8_evening 12 = .ok (.invokestatic 100, 3) := by decide +kernel
theorem dX8_evening_15 : decode cX8_evening 15 = .ok (.ifCond .ne 7, 3) := by decide +kernel
theorem dX8_evening_18 : decode cX8_evening 18 = .ok (.sipush (-1001), 3) := by decide +kernel
theorem dX8_evening_21 : decode cX8_evening 21 = .ok (.ireturn, 1) := by decide +kernel
theorem dX8_evening_22 : decode cX8_evening 22 = .ok (.iload_n 2, 1) := by decide +kernel
theorem dX8_evening_23 : decode cX8_evening 23 = .ok (.i2l, 1) := by decide +kernel
theorem dX8_evening_24 : decode cX8_evening 24 = .ok (.lconst 1, 1) := by decide +kernel
theorem dX8_evening_25 : decode cX8_evening 25 = .ok (.ldc2_w 247, 3) := by decide +kernel
theorem dX8_evening_28 : decode cX8_evening 28 = .ok (.invokestatic 100, 3) := by decide +kernel
theorem dX8_evening_31 : decode cX8_evening 31 = .ok (.ifCond .eq 15, 3) := by decide +kernel
theorem dX8_evening_34 : decode cX8_evening 34 = .ok (.iload_n 3, 1) := by decide +kernel
theorem dX8_evening_35 : decode cX8_evening 35 = .ok (.i2l, 1) := by decide +kernel
theorem dX8_evening_36 : decode cX8_evening 36 = .ok (.lconst 0, 1) := by decide +kernel
theorem dX8_evening_37 : decode cX8_evening 37 = .ok (.ldc2_w 157, 3) := by decide +kernel
theorem dX8_evening_40 : decode cX8_evening 40 = .ok (.invokestatic 100, 3) := by decide +kernel
theorem dX8_evening_43 : decode cX8_evening 43 = .ok (.ifCond .ne 7, 3) := by decide +kernel
theorem dX8_evening_46 : decode cX8_evening 46 = .ok (.sipush (-1002), 3) := by decide +kernel
theorem dX8_evening_49 : decode cX8_evening 49 = .ok (.ireturn, 1) := by decide +kernel
theorem dX8_evening_50 : decode cX8_evening 50 = .ok (.aload_n 0, 1) := by decide +kernel
theorem dX8_evening_51 : decode cX8_evening 51 = .ok (.getfield 174, 3) := by decide +kernel
theorem dX8_evening_54 : decode cX8_evening 54 = .ok (.istore 4, 2) := by decide +kernel
theorem dX8_evening_56 : decode cX8_evening 56 = .ok (.iconst 0, 1) := by decide +kernel
theorem dX8_evening_57 : decode cX8_evening 57 = .ok (.istore 5, 2) := by decide +kernel
theorem dX8_evening_59 : decode cX8_evening 59 = .ok (.iload 5, 2) := by decide +kernel
theorem dX8_evening_61 : decode cX8_evening 61 = .ok (.iload_n 2, 1) := by decide +kernel
theorem dX8_evening_62 : decode cX8_evening 62 = .ok (.if_icmp .ge 88, 3) := by decide +kernel
theorem dX8_evening_65 : decode cX8_evening 65 = .ok (.iconst 0, 1) := by decide +kernel
theorem dX8_evening_66 : decode cX8_evening 66 = .ok (.istore 6, 2) := by decide +kernel
theorem dX8_evening_68 : decode cX8_evening 68 = .ok (.iload 6, 2) := by decide +kernel
theorem dX8_evening_70 : decode cX8_evening 70 = .ok (.aload_n 0, 1) := by decide +kernel
theorem dX8_evening_71 : decode cX8_evening 71 = .ok (.getfield 165, 3) := by decide +kernel
theorem dX8_evening_74 : decode cX8_evening 74 = .ok (.if_icmp .ge 70, 3) := by decide +kernel
theorem dX8_evening_77 : decode cX8_evening 77 = .ok (.aload_n 0, 1) := by decide +kernel
theorem dX8_evening_78 : decode cX8_evening 78 = .ok (.getfield 174, 3) := by decide +kernel
theorem dX8_evening_81 : decode cX8_evening 81 = .ok (.sipush 200, 3) := by decide +kernel
theorem dX8_evening_84 : decode cX8_evening 84 = .ok (.if_icmp .ge 60, 3) := by decide +kernel
theorem dX8_evening_87 : decode cX8_evening 87 = .ok (.iload_n 1, 1) := by decide +kernel
theorem dX8_evening_88 : decode cX8_evening 88 = .ok (.iload 6, 2) := by decide +kernel
theorem dX8_evening_90 : decode cX8_evening 90 = .ok (.ishr, 1) := by decide +kernel
theorem dX8_evening_91 : decode cX8_evening 91 = .ok (.iconst 1, 1) := by decide +kernel
theorem dX8_evening_92 : decode cX8_evening 92 = .ok (.iand, 1) := by decide +kernel
theorem dX8_evening_93 : decode cX8_evening 93 = .ok (.iconst 1, 1) := by decide +kernel
theorem dX8_evening_94 : decode cX8_evening 94 = .ok (.if_icmp .ne 44, 3) := by decide +kernel
theorem dX8_evening_97 : decode cX8_evening 97 = .ok (.aload_n 0, 1) := by decide +kernel
theorem dX8_evening_98 : decode cX8_evening 98 = .ok (.iload 6, 2) := by decide +kernel
theorem dX8_evening_100 : decode cX8_evening 100 = .ok (.invokevirtual 189, 3) := by decide +kernel
theorem dX8_evening_103 : decode cX8_evening 103 = .ok (.ifCond .eq 35, 3) := by decide +kernel
theorem dX8_evening_106 : decode cX8_evening 106 = .ok (.aload_n 0, 1) := by decide +kernel
theorem dX8_evening_107 : decode cX8_evening 107 = .ok (.iload 6, 2) := by decide +kernel
theorem dX8_evening_109 : decode cX8_evening 109 = .ok (.iload_n 3, 1) := by decide +kernel
theorem dX8_evening_110 : decode cX8_evening 110 = .ok (.invokevirtual 244, 3) := by decide +kernel
theorem dX8_evening_113 : decode cX8_evening 113 = .ok (.istore 7, 2) := by decide +kernel
theorem dX8_evening_115 : decode cX8_evening 115 = .ok (.iload 7, 2) := by decide +kernel
theorem dX8_evening_117 : decode cX8_evening 117 = .ok (.ifCond .lt 21, 3) := by decide +kernel
theorem dX8_evening_120 : decode cX8_evening 120 = .ok (.aload_n 0, 1) := by decide +kernel
theorem dX8_evening_121 : decode cX8_evening 121 = .ok (.iload 6, 2) := by decide +kernel
theorem dX8_evening_123 : decode cX8_evening 123 = .ok (.iload 7, 2) := by decide +kernel
theorem dX8_evening_125 : decode cX8_evening 125 = .ok (.aload_n 0, 1) := by decide +kernel
theorem dX8_evening_126 : decode cX8_evening 126 = .ok (.iload 6, 2) := by decide +kernel
theorem dX8_evening_128 : decode cX8_evening 128 = .ok (.iload 7, 2) := by decide +kernel
theorem dX8_evening_130 : decode cX8_evening 130 = .ok (.invokevirtual 238, 3) := by decide +kernel
theorem dX8_evening_133 : decode cX8_evening 133 = .ok (.invokevirtual 225, 3) := by decide +kernel
theorem dX8_evening_136 : decode cX8_evening 136 = .ok (.istore 8, 2) := by decide +kernel
theorem dX8_evening_138 : decode cX8_evening 138 = .ok (.iinc 6 1, 3) := by decide +kernel
theorem dX8_evening_141 : decode cX8_evening 141 = .ok (.goto (-73), 3) := by decide +kernel
theorem dX8_evening_144 : decode cX8_evening 144 = .ok (.iinc 5 1, 3) := by decide +kernel
theorem dX8_evening_147 : decode cX8_evening 147 = .ok (.goto (-88), 3) := by decide +kernel
theorem dX8_evening_150 : decode cX8_evening 150 = .ok (.aload_n 0, 1) := by decide +kernel
theorem dX8_evening_151 : decode cX8_evening 151 = .ok (.getfield 174, 3) := by decide +kernel
theorem dX8_evening_154 : decode cX8_evening 154 = .ok (.iload 4, 2) := by decide +kernel
theorem dX8_evening_156 : decode cX8_evening 156 = .ok (.isub, 1) := by decide +kernel
theorem dX8_evening_157 : decode cX8_evening 157 = .ok (.ireturn, 1) := by decide +kernel
theorem dX8_beginOdds_0 : decode cX8_beginOdds 0 = .ok (.iconst 0, 1) := by decide +kernel
theorem dX8_beginOdds_1 : decode cX8_beginOdds 1 = .ok (.istore_n 1, 1) := by decide +kernel
theorem dX8_beginOdds_2 : decode cX8_beginOdds 2 = .ok (.iload_n 1, 1) := by decide +kernel
theorem dX8_beginOdds_3 : decode cX8_beginOdds 3 = .ok (.bipush 72, 2) := by decide +kernel
theorem dX8_beginOdds_5 : decode cX8_beginOdds 5 = .ok (.if_icmp .ge 30, 3) := by decide +kernel
theorem dX8_beginOdds_8 : decode cX8_beginOdds 8 = .ok (.aload_n 0, 1) := by decide +kernel
theorem dX8_beginOdds_9 : decode cX8_beginOdds 9 = .ok (.getfield 51, 3) := by decide +kernel
theorem dX8_beginOdds_12 : decode cX8_beginOdds 12 = .ok (.iload_n 1, 1) := by decide +kernel
theorem dX8_beginOdds_13 : decode cX8_beginOdds 13 = .ok (.iload_n 1, 1) := by decide +kernel
theorem dX8_beginOdds_14 : decode cX8_beginOdds 14 = .ok (.iconst 3, 1) := by decide +kernel
theorem dX8_beginOdds_15 : decode cX8_beginOdds 15 = .ok (.irem, 1) := by decide +kernel
theorem dX8_beginOdds_16 : decode cX8_beginOdds 16 = .ok (.ifCond .ne 9, 3) := by decide +kernel
theorem dX8_beginOdds_19 : decode cX8_beginOdds 19 = .ok (.sipush 334, 3) := by decide +kernel
theorem dX8_beginOdds_22 : decode cX8_beginOdds 22 = .ok (.goto 6, 3) := by decide +kernel
theorem dX8_beginOdds_25 : decode cX8_beginOdds 25 = .ok (.sipush 333, 3) := by decide +kernel
theorem dX8_beginOdds_28 : decode cX8_beginOdds 28 = .ok (.iastore, 1) := by decide +kernel
theorem dX8_beginOdds_29 : decode cX8_beginOdds 29 = .ok (.iinc 1 1, 3) := by decide +kernel
theorem dX8_beginOdds_32 : decode cX8_beginOdds 32 = .ok (.goto (-30), 3) := by decide +kernel
theorem dX8_beginOdds_35 : decode cX8_beginOdds 35 = .ok (.iconst 0, 1) := by decide +kernel
theorem dX8_beginOdds_36 : decode cX8_beginOdds 36 = .ok (.istore_n 1, 1) := by decide +kernel
theorem dX8_beginOdds_37 : decode cX8_beginOdds 37 = .ok (.iload_n 1, 1) := by decide +kernel
theorem dX8_beginOdds_38 : decode cX8_beginOdds 38 = .ok (.bipush 96, 2) := by decide +kernel
theorem dX8_beginOdds_40 : decode cX8_beginOdds 40 = .ok (.if_icmp .ge 33, 3) := by decide +kernel
theorem dX8_beginOdds_43 : decode cX8_beginOdds 43 = .ok (.aload_n 0, 1) := by decide +kernel
theorem dX8_beginOdds_44 : decode cX8_beginOdds 44 = .ok (.getfield 54, 3) := by decide +kernel
theorem dX8_beginOdds_47 : decode cX8_beginOdds 47 = .ok (.iload_n 1, 1) := by decide +kernel
theorem dX8_beginOdds_48 : decode cX8_beginOdds 48 = .ok (.iload_n 1, 1) := by decide +kernel
theorem dX8_beginOdds_49 : decode cX8_beginOdds 49 = .ok (.iconst 4, 1) := by decide +kernel
theorem dX8_beginOdds_50 : decode cX8_beginOdds 50 = .ok (.idiv, 1) := by decide +kernel
theorem dX8_beginOdds_51 : decode cX8_beginOdds 51 = .ok (.iconst 3, 1) := by decide +kernel
theorem dX8_beginOdds_52 : decode cX8_beginOdds 52 = .ok (.irem, 1) := by decide +kernel
theorem dX8_beginOdds_53 : decode cX8_beginOdds 53 = .ok (.iload_n 1, 1) := by decide +kernel
theorem dX8_beginOdds_54 : decode cX8_beginOdds 54 = .ok (.iconst 4, 1) := by decide +kernel
theorem dX8_beginOdds_55 : decode cX8_beginOdds 55 = .ok (.irem, 1) := by decide +kernel
theorem dX8_beginOdds_56 : decode cX8_beginOdds 56 = .ok (.if_icmp .ne 8, 3) := by decide +kernel
theorem dX8_beginOdds_59 : decode cX8_beginOdds 59 = .ok (.bipush 70, 2) := by decide +kernel
theorem dX8_beginOdds_61 : decode cX8_beginOdds 61 = .ok (.goto 5, 3) := by decide +kernel
theorem dX8_beginOdds_64 : decode cX8_beginOdds 64 = .ok (.bipush 10, 2) := by decide +kernel
theorem dX8_beginOdds_66 : decode cX8_beginOdds 66 = .ok (.iastore, 1) := by decide +kernel
theorem dX8_beginOdds_67 : decode cX8_beginOdds 67 = .ok (.iinc 1 1, 3) := by decide +kernel
theorem dX8_beginOdds_70 : decode cX8_beginOdds 70 = .ok (.goto (-33), 3) := by decide +kernel
theorem dX8_beginOdds_73 : decode cX8_beginOdds 73 = .ok (.iconst 0, 1) := by decide +kernel
theorem dX8_beginOdds_74 : decode cX8_beginOdds 74 = .ok (.istore_n 1, 1) := by decide +kernel
theorem dX8_beginOdds_75 : decode cX8_beginOdds 75 = .ok (.iload_n 1, 1) := by decide +kernel
theorem dX8_beginOdds_76 : decode cX8_beginOdds 76 = .ok (.iconst 3, 1) := by decide +kernel
theorem dX8_beginOdds_77 : decode cX8_beginOdds 77 = .ok (.if_icmp .ge 28, 3) := by decide +kernel
theorem dX8_beginOdds_80 : decode cX8_beginOdds 80 = .ok (.aload_n 0, 1) := by decide +kernel
theorem dX8_beginOdds_81 : decode cX8_beginOdds 81 = .ok (.getfield 57, 3) := by decide +kernel
theorem dX8_beginOdds_84 : decode cX8_beginOdds 84 = .ok (.iload_n 1, 1) := by decide +kernel
theorem dX8_beginOdds_85 : decode cX8_beginOdds 85 = .ok (.iload_n 1, 1) := by decide +kernel
theorem dX8_beginOdds_86 : decode cX8_beginOdds 86 = .ok (.ifCond .ne 9, 3) := by decide +kernel
theorem dX8_beginOdds_89 : decode cX8_beginOdds 89 = .ok (.sipush 334, 3) := by decide +kernel
theorem dX8_beginOdds_92 : decode cX8_beginOdds 92 = .ok (.goto 6, 3) := by decide +kernel
theorem dX8_beginOdds_95 : decode cX8_beginOdds 95 = .ok (.sipush 333, 3) := by decide +kernel
theorem dX8_beginOdds_98 : decode cX8_beginOdds 98 = .ok (.iastore, 1) := by decide +kernel
theorem dX8_beginOdds_99 : decode cX8_beginOdds 99 = .ok (.iinc 1 1, 3) := by decide +kernel
theorem dX8_beginOdds_102 : decode cX8_beginOdds 102 = .ok (.goto (-27), 3) := by decide +kernel
theorem dX8_beginOdds_105 : decode cX8_beginOdds 105 = .ok (.return_, 1) := by decide +kernel
theorem dX8_setOdds_0 : decode cX8_setOdds 0 = .ok (.aload_n 0, 1) := by decide +kernel
theorem dX8_setOdds_1 : decode cX8_setOdds 1 = .ok (.aload_n 0, 1) := by decide +kernel
theorem dX8_setOdds_2 : decode cX8_setOdds 2 = .ok (.getfield 249, 3) := by decide +kernel
theorem dX8_setOdds_5 : decode cX8_setOdds 5 = .ok (.ifCond .ne 17, 3) := by decide +kernel
theorem dX8_setOdds_8 : decode cX8_setOdds 8 = .ok (.aload_n 0, 1) := by decide +kernel
theorem dX8_setOdds_9 : decode cX8_setOdds 9 = .ok (.getfield 51, 3) := by decide +kernel
theorem dX8_setOdds_12 : decode cX8_setOdds 12 = .ok (.iconst 3, 1) := by decide +kernel
theorem dX8_setOdds_13 : decode cX8_setOdds 13 = .ok (.iload_n 1, 1) := by decide +kernel
theorem dX8_setOdds_14 : decode cX8_setOdds 14 = .ok (.imul, 1) := by decide +kernel
theorem dX8_setOdds_15 : decode cX8_setOdds 15 = .ok (.iload_n 2, 1) := by decide +kernel
theorem dX8_setOdds_16 : decode cX8_setOdds 16 = .ok (.iadd, 1) := by decide +kernel
theorem dX8_setOdds_17 : decode cX8_setOdds 17 = .ok (.iaload, 1) := by decide +kernel
theorem dX8_setOdds_18 : decode cX8_setOdds 18 = .ok (.iload_n 3, 1) := by decide +kernel
theorem dX8_setOdds_19 : decode cX8_setOdds 19 = .ok (.if_icmp .eq 7, 3) := by decide +kernel
theorem dX8_setOdds_22 : decode cX8_setOdds 22 = .ok (.iconst 1, 1) := by decide +kernel
theorem dX8_setOdds_23 : decode cX8_setOdds 23 = .ok (.goto 4, 3) := by decide +kernel
theorem dX8_setOdds_26 : decode cX8_setOdds 26 = .ok (.iconst 0, 1) := by decide +kernel
theorem dX8_setOdds_27 : decode cX8_setOdds 27 = .ok (.putfield 249, 3) := by decide +kernel
theorem dX8_setOdds_30 : decode cX8_setOdds 30 = .ok (.aload_n 0, 1) := by decide +kernel
theorem dX8_setOdds_31 : decode cX8_setOdds 31 = .ok (.getfield 51, 3) := by decide +kernel
theorem dX8_setOdds_34 : decode cX8_setOdds 34 = .ok (.iconst 3, 1) := by decide +kernel
theorem dX8_setOdds_35 : decode cX8_setOdds 35 = .ok (.iload_n 1, 1) := by decide +kernel
theorem dX8_setOdds_36 : decode cX8_setOdds 36 = .ok (.imul, 1) := by decide +kernel
