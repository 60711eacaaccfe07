theorem dL_reasons_154 : decode cL_reasons 154 = .ok (.iload_n 2, 1) := by decide +kernel
theorem dL_reasons_155 : decode cL_reasons 155 = .ok (.iload_n 3, 1) := by decide +kernel
theorem dL_reasons_156 : decode cL_reasons 156 = .ok (.iload 4, 2) := by decide +kernel
theorem dL_reasons_158 : decode cL_reasons 158 = .ok (.if_icmp .eq 54, 3) := by decide +kernel
theorem dL_reasons_161 : decode cL_reasons 161 = .ok (.aload_n 0, 1) := by decide +kernel
theorem dL_reasons_162 : decode cL_reasons 162 = .ok (.aload_n 0, 1) := by decide +kernel
theorem dL_reasons_163 : decode cL_reasons 163 = .ok (.iload 4, 2) := by decide +kernel
theorem dL_reasons_165 : decode cL_reasons 165 = .ok (.iconst 0, 1) := by decide +kernel
theorem dL_reasons_166 : decode cL_reasons 166 = .ok (.invokevirtual 31, 3) := by decide +kernel
theorem dL_reasons_169 : decode cL_reasons 169 = .ok (.aload_n 0, 1) := by decide +kernel
theorem dL_reasons_170 : decode cL_reasons 170 = .ok (.iload_n 3, 1) := by decide +kernel
theorem dL_reasons_171 : decode cL_reasons 171 = .ok (.iconst 0, 1) := by decide +kernel
theorem dL_reasons_172 : decode cL_reasons 172 = .ok (.invokevirtual 31, 3) := by decide +kernel
theorem dL_reasons_175 : decode cL_reasons 175 = .ok (.invokestatic 27, 3) := by decide +kernel
theorem dL_reasons_178 : decode cL_reasons 178 = .ok (.ifCond .eq 34, 3) := by decide +kernel
theorem dL_reasons_181 : decode cL_reasons 181 = .ok (.aload_n 0, 1) := by decide +kernel
theorem dL_reasons_182 : decode cL_reasons 182 = .ok (.iload 4, 2) := by decide +kernel
theorem dL_reasons_184 : decode cL_reasons 184 = .ok (.iconst 0, 1) := by decide +kernel
theorem dL_reasons_185 : decode cL_reasons 185 = .ok (.invokevirtual 31, 3) := by decide +kernel
theorem dL_reasons_188 : decode cL_reasons 188 = .ok (.aload_n 0, 1) := by decide +kernel
theorem dL_reasons_189 : decode cL_reasons 189 = .ok (.iload_n 3, 1) := by decide +kernel
theorem dL_reasons_190 : decode cL_reasons 190 = .ok (.iconst 0, 1) := by decide +kernel
theorem dL_reasons_191 : decode cL_reasons 191 = .ok (.invokevirtual 31, 3) := by decide +kernel
theorem dL_reasons_194 : decode cL_reasons 194 = .ok (.isub, 1) := by decide +kernel
theorem dL_reasons_195 : decode cL_reasons 195 = .ok (.invokestatic 19, 3) := by decide +kernel
theorem dL_reasons_198 : decode cL_reasons 198 = .ok (.aload_n 0, 1) := by decide +kernel
theorem dL_reasons_199 : decode cL_reasons 199 = .ok (.iconst 3, 1) := by decide +kernel
theorem dL_reasons_200 : decode cL_reasons 200 = .ok (.invokevirtual 15, 3) := by decide +kernel
theorem dL_reasons_203 : decode cL_reasons 203 = .ok (.if_icmp .gt 9, 3) := by decide +kernel
theorem dL_reasons_206 : decode cL_reasons 206 = .ok (.iconst 1, 1) := by decide +kernel
theorem dL_reasons_207 : decode cL_reasons 207 = .ok (.iload_n 3, 1) := by decide +kernel
theorem dL_reasons_208 : decode cL_reasons 208 = .ok (.ishl, 1) := by decide +kernel
theorem dL_reasons_209 : decode cL_reasons 209 = .ok (.goto 4, 3) := by decide +kernel
theorem dL_reasons_212 : decode cL_reasons 212 = .ok (.iconst 0, 1) := by decide +kernel
theorem dL_reasons_213 : decode cL_reasons 213 = .ok (.ior, 1) := by decide +kernel
theorem dL_reasons_214 : decode cL_reasons 214 = .ok (.istore_n 2, 1) := by decide +kernel
theorem dL_reasons_215 : decode cL_reasons 215 = .ok (.iinc 3 1, 3) := by decide +kernel
theorem dL_reasons_218 : decode cL_reasons 218 = .ok (.goto (-76), 3) := by decide +kernel
theorem dL_reasons_221 : decode cL_reasons 221 = .ok (.aload_n 0, 1) := by decide +kernel
theorem dL_reasons_222 : decode cL_reasons 222 = .ok (.invokevirtual 45, 3) := by decide +kernel
theorem dL_reasons_225 : decode cL_reasons 225 = .ok (.iload_n 2, 1) := by decide +kernel
theorem dL_reasons_226 : decode cL_reasons 226 = .ok (.if_icmp .ne 7, 3) := by decide +kernel
theorem dL_reasons_229 : decode cL_reasons 229 = .ok (.iconst 1, 1) := by decide +kernel
theorem dL_reasons_230 : decode cL_reasons 230 = .ok (.goto 4, 3) := by decide +kernel
theorem dL_reasons_233 : decode cL_reasons 233 = .ok (.iconst 0, 1) := by decide +kernel
theorem dL_reasons_234 : decode cL_reasons 234 = .ok (.ireturn, 1) := by decide +kernel
theorem dL_moves_0 : decode cL_moves 0 = .ok (.aload_n 0, 1) := by decide +kernel
theorem dL_moves_1 : decode cL_moves 1 = .ok (.iconst 0, 1) := by decide +kernel
theorem dL_moves_2 : decode cL_moves 2 = .ok (.invokevirtual 24, 3) := by decide +kernel
theorem dL_moves_5 : decode cL_moves 5 = .ok (.istore_n 3, 1) := by decide +kernel
theorem dL_moves_6 : decode cL_moves 6 = .ok (.aload_n 0, 1) := by decide +kernel
theorem dL_moves_7 : decode cL_moves 7 = .ok (.iconst 1, 1) := by decide +kernel
theorem dL_moves_8 : decode cL_moves 8 = .ok (.invokevirtual 24, 3) := by decide +kernel
theorem dL_moves_11 : decode cL_moves 11 = .ok (.istore 4, 2) := by decide +kernel
theorem dL_moves_13 : decode cL_moves 13 = .ok (.aload_n 0, 1) := by decide +kernel
theorem dL_moves_14 : decode cL_moves 14 = .ok (.iload 4, 2) := by decide +kernel
theorem dL_moves_16 : decode cL_moves 16 = .ok (.iconst 0, 1) := by decide +kernel
theorem dL_moves_17 : decode cL_moves 17 = .ok (.invokevirtual 31, 3) := by decide +kernel
theorem dL_moves_20 : decode cL_moves 20 = .ok (.istore 5, 2) := by decide +kernel
theorem dL_moves_22 : decode cL_moves 22 = .ok (.aload_n 0, 1) := by decide +kernel
theorem dL_moves_23 : decode cL_moves 23 = .ok (.iload 4, 2) := by decide +kernel
theorem dL_moves_25 : decode cL_moves 25 = .ok (.iconst 1, 1) := by decide +kernel
theorem dL_moves_26 : decode cL_moves 26 = .ok (.invokevirtual 31, 3) := by decide +kernel
theorem dL_moves_29 : decode cL_moves 29 = .ok (.istore 6, 2) := by decide +kernel
theorem dL_moves_31 : decode cL_moves 31 = .ok (.aload_n 0, 1) := by decide +kernel
theorem dL_moves_32 : decode cL_moves 32 = .ok (.iload 4, 2) := by decide +kernel
theorem dL_moves_34 : decode cL_moves 34 = .ok (.iconst 2, 1) := by decide +kernel
theorem dL_moves_35 : decode cL_moves 35 = .ok (.invokevirtual 31, 3) := by decide +kernel
theorem dL_moves_38 : decode cL_moves 38 = .ok (.istore 7, 2) := by decide +kernel
theorem dL_moves_40 : decode cL_moves 40 = .ok (.aload_n 0, 1) := by decide +kernel
theorem dL_moves_41 : decode cL_moves 41 = .ok (.iload 4, 2) := by decide +kernel
theorem dL_moves_43 : decode cL_moves 43 = .ok (.bipush 7, 2) := by decide +kernel
theorem dL_moves_45 : decode cL_moves 45 = .ok (.invokevirtual 31, 3) := by decide +kernel
theorem dL_moves_48 : decode cL_moves 48 = .ok (.istore 8, 2) := by decide +kernel
theorem dL_moves_50 : decode cL_moves 50 = .ok (.aload_n 0, 1) := by decide +kernel
theorem dL_moves_51 : decode cL_moves 51 = .ok (.iload 5, 2) := by decide +kernel
theorem dL_moves_53 : decode cL_moves 53 = .ok (.iconst 1, 1) := by decide +kernel
theorem dL_moves_54 : decode cL_moves 54 = .ok (.invokevirtual 9, 3) := by decide +kernel
theorem dL_moves_57 : decode cL_moves 57 = .ok (.istore 9, 2) := by decide +kernel
theorem dL_moves_59 : decode cL_moves 59 = .ok (.iload_n 1, 1) := by decide +kernel
theorem dL_moves_60 : decode cL_moves 60 = .ok (.iconst 3, 1) := by decide +kernel
theorem dL_moves_61 : decode cL_moves 61 = .ok (.if_icmp .ne 7, 3) := by decide +kernel
theorem dL_moves_64 : decode cL_moves 64 = .ok (.iload_n 2, 1) := by decide +kernel
theorem dL_moves_65 : decode cL_moves 65 = .ok (.goto 4, 3) := by decide +kernel
theorem dL_moves_68 : decode cL_moves 68 = .ok (.iconst 0, 1) := by decide +kernel
theorem dL_moves_69 : decode cL_moves 69 = .ok (.istore 10, 2) := by decide +kernel
theorem dL_moves_71 : decode cL_moves 71 = .ok (.iload_n 1, 1) := by decide +kernel
theorem dL_moves_72 : decode cL_moves 72 = .ok (.iconst 3, 1) := by decide +kernel
theorem dL_moves_73 : decode cL_moves 73 = .ok (.if_icmp .ne 13, 3) := by decide +kernel
theorem dL_moves_76 : decode cL_moves 76 = .ok (.aload_n 0, 1) := by decide +kernel
theorem dL_moves_77 : decode cL_moves 77 = .ok (.iload 10, 2) := by decide +kernel
theorem dL_moves_79 : decode cL_moves 79 = .ok (.iconst 2, 1) := by decide +kernel
theorem dL_moves_80 : decode cL_moves 80 = .ok (.invokevirtual 31, 3) := by decide +kernel
theorem dL_moves_83 : decode cL_moves 83 = .ok (.goto 4, 3) := by decide +kernel
theorem dL_moves_86 : decode cL_moves 86 = .ok (.iconst 0, 1) := by decide +kernel
theorem dL_moves_87 : decode cL_moves 87 = .ok (.istore 11, 2) := by decide +kernel
theorem dL_moves_89 : decode cL_moves 89 = .ok (.iload_n 1, 1) := by decide +kernel
theorem dL_moves_90 : decode cL_moves 90 = .ok (.iconst 1, 1) := by decide +kernel
theorem dL_moves_91 : decode cL_moves 91 = .ok (.if_icmp .ne 12, 3) := by decide +kernel
theorem dL_moves_94 : decode cL_moves 94 = .ok (.aload_n 0, 1) := by decide +kernel
theorem dL_moves_95 : decode cL_moves 95 = .ok (.iload_n 2, 1) := by decide +kernel
theorem dL_moves_96 : decode cL_moves 96 = .ok (.iconst 1, 1) := by decide +kernel
theorem dL_moves_97 : decode cL_moves 97 = .ok (.invokevirtual 9, 3) := by decide +kernel
theorem dL_moves_100 : decode cL_moves 100 = .ok (.goto 4, 3) := by decide +kernel
theorem dL_moves_103 : decode cL_moves 103 = .ok (.iconst 0, 1) := by decide +kernel
theorem dL_moves_104 : decode cL_moves 104 = .ok (.istore 12, 2) := by decide +kernel
theorem dL_moves_106 : decode cL_moves 106 = .ok (.aload_n 0, 1) := by decide +kernel
theorem dL_moves_107 : decode cL_moves 107 = .ok (.iconst 2, 1) := by decide +kernel
theorem dL_moves_108 : decode cL_moves 108 = .ok (.invokevirtual 24, 3) := by decide +kernel
theorem dL_moves_111 : decode cL_moves 111 = .ok (.istore 13, 2) := by decide +kernel
theorem dL_moves_113 : decode cL_moves 113 = .ok (.aload_n 0, 1) := by decide +kernel
theorem dL_moves_114 : decode cL_moves 114 = .ok (.iconst 4, 1) := by decide +kernel
theorem dL_moves_115 : decode cL_moves 115 = .ok (.invokevirtual 24, 3) := by decide +kernel
theorem dL_moves_118 : decode cL_moves 118 = .ok (.istore 14, 2) := by decide +kernel
theorem dL_moves_120 : decode cL_moves 120 = .ok (.aload_n 0, 1) := by decide +kernel
theorem dL_moves_121 : decode cL_moves 121 = .ok (.iconst 3, 1) := by decide +kernel
theorem dL_moves_122 : decode cL_moves 122 = .ok (.invokevirtual 24, 3) := by decide +kernel
theorem dL_moves_125 : decode cL_moves 125 = .ok (.istore 15, 2) := by decide +kernel
theorem dL_moves_127 : decode cL_moves 127 = .ok (.iload_n 1, 1) := by decide +kernel
theorem dL_moves_128 : decode cL_moves 128 = .ok (.iconst 3, 1) := by decide +kernel
theorem dL_moves_129 : decode cL_moves 129 = .ok (.if_icmp .ne 19, 3) := by decide +kernel
theorem dL_moves_132 : decode cL_moves 132 = .ok (.iload 5, 2) := by decide +kernel
theorem dL_moves_134 : decode cL_moves 134 = .ok (.aload_n 0, 1) := by decide +kernel
theorem dL_moves_135 : decode cL_moves 135 = .ok (.iload 10, 2) := by decide +kernel
theorem dL_moves_137 : decode cL_moves 137 = .ok (.iconst 0, 1) := by decide +kernel
theorem dL_moves_138 : decode cL_moves 138 = .ok (.invokevirtual 31, 3) := by decide +kernel
theorem dL_moves_141 : decode cL_moves 141 = .ok (.isub, 1) := by decide +kernel
theorem dL_moves_142 : decode cL_moves 142 = .ok (.invokestatic 19, 3) := by decide +kernel
theorem dL_moves_145 : decode cL_moves 145 = .ok (.goto 4, 3) := by decide +kernel
theorem dL_moves_148 : decode cL_moves 148 = .ok (.iconst 0, 1) := by decide +kernel
theorem dL_moves_149 : decode cL_moves 149 = .ok (.istore 16, 2) := by decide +kernel
theorem dL_moves_151 : decode cL_moves 151 = .ok (.iload_n 1, 1) := by decide +kernel
theorem dL_moves_152 : decode cL_moves 152 = .ok (.iconst 1, 1) := by decide +kernel
theorem dL_moves_153 : decode cL_moves 153 = .ok (.if_icmp .ne 13, 3) := by decide +kernel
theorem dL_moves_156 : decode cL_moves 156 = .ok (.aload_n 0, 1) := by decide +kernel
theorem dL_moves_157 : decode cL_moves 157 = .ok (.iload 4, 2) := by decide +kernel
theorem dL_moves_159 : decode cL_moves 159 = .ok (.iload_n 2, 1) := by decide +kernel
theorem dL_moves_160 : decode cL_moves 160 = .ok (.invokevirtual 42, 3) := by decide +kernel
theorem dL_moves_163 : decode cL_moves 163 = .ok (.goto 94, 3) := by decide +kernel
theorem dL_moves_166 : decode cL_moves 166 = .ok (.iload_n 1, 1) := by decide +kernel
theorem dL_moves_167 : decode cL_moves 167 = .ok (.iconst 2, 1) := by decide +kernel
theorem dL_moves_168 : decode cL_moves 168 = .ok (.if_icmp .ne 21, 3) := by decide +kernel
theorem dL_moves_171 : decode cL_moves 171 = .ok (.aload_n 0, 1) := by decide +kernel
theorem dL_moves_172 : decode cL_moves 172 = .ok (.iconst 2, 1) := by decide +kernel
theorem dL_moves_173 : decode cL_moves 173 = .ok (.invokevirtual 15, 3) := by decide +kernel
theorem dL_moves_176 : decode cL_moves 176 = .ok (.iload 7, 2) := by decide +kernel
theorem dL_moves_178 : decode cL_moves 178 = .ok (.if_icmp .le 7, 3) := by decide +kernel
theorem dL_moves_181 : decode cL_moves 181 = .ok (.iconst 4, 1) := by decide +kernel
theorem dL_moves_182 : decode cL_moves 182 = .ok (.goto 75, 3) := by decide +kernel
theorem dL_moves_185 : decode cL_moves 185 = .ok (.iconst 0, 1) := by decide +kernel
theorem dL_moves_186 : decode cL_moves 186 = .ok (.goto 71, 3) := by decide +kernel
theorem dL_moves_189 : decode cL_moves 189 = .ok (.iload_n 1, 1) := by decide +kernel
theorem dL_moves_190 : decode cL_moves 190 = .ok (.iconst 3, 1) := by decide +kernel
theorem dL_moves_191 : decode cL_moves 191 = .ok (.if_icmp .ne 65, 3) := by decide +kernel
theorem dL_moves_194 : decode cL_moves 194 = .ok (.iload 4, 2) := by decide +kernel
theorem dL_moves_196 : decode cL_moves 196 = .ok (.iload 13, 2) := by decide +kernel
theorem dL_moves_198 : decode cL_moves 198 = .ok (.if_icmp .eq 7, 3) := by decide +kernel
theorem dL_moves_201 : decode cL_moves 201 = .ok (.iconst 5, 1) := by decide +kernel
theorem dL_moves_202 : decode cL_moves 202 = .ok (.goto 55, 3) := by decide +kernel
theorem dL_moves_205 : decode cL_moves 205 = .ok (.iload 4, 2) := by decide +kernel
theorem dL_moves_207 : decode cL_moves 207 = .ok (.iload 10, 2) := by decide +kernel
theorem dL_moves_209 : decode cL_moves 209 = .ok (.if_icmp .ne 8, 3) := by decide +kernel
theorem dL_moves_212 : decode cL_moves 212 = .ok (.bipush 6, 2) := by decide +kernel
theorem dL_moves_214 : decode cL_moves 214 = .ok (.goto 43, 3) := by decide +kernel
theorem dL_moves_217 : decode cL_moves 217 = .ok (.aload_n 0, 1) := by decide +kernel
theorem dL_moves_218 : decode cL_moves 218 = .ok (.iload 5, 2) := by decide +kernel
theorem dL_moves_220 : decode cL_moves 220 = .ok (.aload_n 0, 1) := by decide +kernel
theorem dL_moves_221 : decode cL_moves 221 = .ok (.iload 10, 2) := by decide +kernel
theorem dL_moves_223 : decode cL_moves 223 = .ok (.iconst 0, 1) := by decide +kernel
theorem dL_moves_224 : decode cL_moves 224 = .ok (.invokevirtual 31, 3) := by decide +kernel
theorem dL_moves_227 : decode cL_moves 227 = .ok (.invokestatic 27, 3) := by decide +kernel
theorem dL_moves_230 : decode cL_moves 230 = .ok (.ifCond .ne 7, 3) := by decide +kernel
theorem dL_moves_233 : decode cL_moves 233 = .ok (.iconst 2, 1) := by decide +kernel
theorem dL_moves_234 : decode cL_moves 234 = .ok (.goto 23, 3) := by decide +kernel
theorem dL_moves_237 : decode cL_moves 237 = .ok (.iload 16, 2) := by decide +kernel
theorem dL_moves_239 : decode cL_moves 239 = .ok (.aload_n 0, 1) := by decide +kernel
theorem dL_moves_240 : decode cL_moves 240 = .ok (.iconst 3, 1) := by decide +kernel
theorem dL_moves_241 : decode cL_moves 241 = .ok (.invokevirtual 15, 3) := by decide +kernel
theorem dL_moves_244 : decode cL_moves 244 = .ok (.if_icmp .le 8, 3) := by decide +kernel
theorem dL_moves_247 : decode cL_moves 247 = .ok (.bipush 7, 2) := by decide +kernel
theorem dL_moves_249 : decode cL_moves 249 = .ok (.goto 8, 3) := by decide +kernel
theorem dL_moves_252 : decode cL_moves 252 = .ok (.iconst 0, 1) := by decide +kernel
theorem dL_moves_253 : decode cL_moves 253 = .ok (.goto 4, 3) := by decide +kernel
theorem dL_moves_256 : decode cL_moves 256 = .ok (.iconst 0, 1) := by decide +kernel
theorem dL_moves_257 : decode cL_moves 257 = .ok (.istore 17, 2) := by decide +kernel
theorem dL_moves_259 : decode cL_moves 259 = .ok (.iload_n 1, 1) := by decide +kernel
theorem dL_moves_260 : decode cL_moves 260 = .ok (.iconst 1, 1) := by decide +kernel
theorem dL_moves_261 : decode cL_moves 261 = .ok (.if_icmp .ne 13, 3) := by decide +kernel
theorem dL_moves_264 : decode cL_moves 264 = .ok (.aload_n 0, 1) := by decide +kernel
theorem dL_moves_265 : decode cL_moves 265 = .ok (.iload 5, 2) := by decide +kernel
theorem dL_moves_267 : decode cL_moves 267 = .ok (.iload_n 2, 1) := by decide +kernel
theorem dL_moves_268 : decode cL_moves 268 = .ok (.invokestatic 38, 3) := by decide +kernel
theorem dL_moves_271 : decode cL_moves 271 = .ok (.goto 17, 3) := by decide +kernel
theorem dL_moves_274 : decode cL_moves 274 = .ok (.iload_n 1, 1) := by decide +kernel
theorem dL_moves_275 : decode cL_moves 275 = .ok (.iconst 2, 1) := by decide +kernel
theorem dL_moves_276 : decode cL_moves 276 = .ok (.if_icmp .ne 11, 3) := by decide +kernel
theorem dL_moves_279 : decode cL_moves 279 = .ok (.aload_n 0, 1) := by decide +kernel
theorem dL_moves_280 : decode cL_moves 280 = .ok (.iconst 2, 1) := by decide +kernel
theorem dL_moves_281 : decode cL_moves 281 = .ok (.invokevirtual 15, 3) := by decide +kernel
theorem dL_moves_284 : decode cL_moves 284 = .ok (.goto 4, 3) := by decide +kernel
theorem dL_moves_287 : decode cL_moves 287 = .ok (.iconst 0, 1) := by decide +kernel
theorem dL_moves_288 : decode cL_moves 288 = .ok (.istore 18, 2) := by decide +kernel
theorem dL_moves_290 : decode cL_moves 290 = .ok (.iload_n 1, 1) := by decide +kernel
theorem dL_moves_291 : decode cL_moves 291 = .ok (.ifCond .ne 10, 3) := by decide +kernel
theorem dL_moves_294 : decode cL_moves 294 = .ok (.aload_n 0, 1) := by decide +kernel
theorem dL_moves_295 : decode cL_moves 295 = .ok (.invokevirtual 48, 3) := by decide +kernel
theorem dL_moves_298 : decode cL_moves 298 = .ok (.goto 34, 3) := by decide +kernel
theorem dL_moves_301 : decode cL_moves 301 = .ok (.iload_n 1, 1) := by decide +kernel
theorem dL_moves_302 : decode cL_moves 302 = .ok (.iconst 1, 1) := by decide +kernel
theorem dL_moves_303 : decode cL_moves 303 = .ok (.if_icmp .ne 11, 3) := by decide +kernel
theorem dL_moves_306 : decode cL_moves 306 = .ok (.aload_n 0, 1) := by decide +kernel
theorem dL_moves_307 : decode cL_moves 307 = .ok (.iload_n 2, 1) := by decide +kernel
theorem dL_moves_308 : decode cL_moves 308 = .ok (.invokevirtual 51, 3) := by decide +kernel
theorem dL_moves_311 : decode cL_moves 311 = .ok (.goto 21, 3) := by decide +kernel
theorem dL_moves_314 : decode cL_moves 314 = .ok (.iload_n 1, 1) := by decide +kernel
theorem dL_moves_315 : decode cL_moves 315 = .ok (.iconst 2, 1) := by decide +kernel
theorem dL_moves_316 : decode cL_moves 316 = .ok (.if_icmp .ne 10, 3) := by decide +kernel
theorem dL_moves_319 : decode cL_moves 319 = .ok (.aload_n 0, 1) := by decide +kernel
theorem dL_moves_320 : decode cL_moves 320 = .ok (.invokevirtual 53, 3) := by decide +kernel
theorem dL_moves_323 : decode cL_moves 323 = .ok (.goto 9, 3) := by decide +kernel
theorem dL_moves_326 : decode cL_moves 326 = .ok (.aload_n 0, 1) := by decide +kernel
theorem dL_moves_327 : decode cL_moves 327 = .ok (.iload 10, 2) := by decide +kernel
theorem dL_moves_329 : decode cL_moves 329 = .ok (.invokevirtual 56, 3) := by decide +kernel
theorem dL_moves_332 : decode cL_moves 332 = .ok (.istore 19, 2) := by decide +kernel
theorem dL_moves_334 : decode cL_moves 334 = .ok (.iload 17, 2) := by decide +kernel
theorem dL_moves_336 : decode cL_moves 336 = .ok (.ifCond .eq 94, 3) := by decide +kernel
theorem dL_moves_339 : decode cL_moves 339 = .ok (.iload 19, 2) := by decide +kernel
theorem dL_moves_341 : decode cL_moves 341 = .ok (.iload 17, 2) := by decide +kernel
theorem dL_moves_343 : decode cL_moves 343 = .ok (.if_icmp .ne 85, 3) := by decide +kernel
theorem dL_moves_346 : decode cL_moves 346 = .ok (.aload_n 0, 1) := by decide +kernel
theorem dL_moves_347 : decode cL_moves 347 = .ok (.iconst 4, 1) := by decide +kernel
theorem dL_moves_348 : decode cL_moves 348 = .ok (.invokevirtual 24, 3) := by decide +kernel
theorem dL_moves_351 : decode cL_moves 351 = .ok (.iload 14, 2) := by decide +kernel
theorem dL_moves_353 : decode cL_moves 353 = .ok (.iconst 1, 1) := by decide +kernel
theorem dL_moves_354 : decode cL_moves 354 = .ok (.iadd, 1) := by decide +kernel
theorem dL_moves_355 : decode cL_moves 355 = .ok (.if_icmp .ne 73, 3) := by decide +kernel
theorem dL_moves_358 : decode cL_moves 358 = .ok (.aload_n 0, 1) := by decide +kernel
theorem dL_moves_359 : decode cL_moves 359 = .ok (.iconst 3, 1) := by decide +kernel
theorem dL_moves_360 : decode cL_moves 360 = .ok (.invokevirtual 24, 3) := by decide +kernel
theorem dL_moves_363 : decode cL_moves 363 = .ok (.iload 15, 2) := by decide +kernel
theorem dL_moves_365 : decode cL_moves 365 = .ok (.if_icmp .ne 63, 3) := by decide +kernel
theorem dL_moves_368 : decode cL_moves 368 = .ok (.aload_n 0, 1) := by decide +kernel
theorem dL_moves_369 : decode cL_moves 369 = .ok (.iconst 1, 1) := by decide +kernel
theorem dL_moves_370 : decode cL_moves 370 = .ok (.invokevirtual 24, 3) := by decide +kernel
theorem dL_moves_373 : decode cL_moves 373 = .ok (.iload 4, 2) := by decide +kernel
theorem dL_moves_375 : decode cL_moves 375 = .ok (.if_icmp .ne 53, 3) := by decide +kernel
theorem dL_moves_378 : decode cL_moves 378 = .ok (.aload_n 0, 1) := by decide +kernel
theorem dL_moves_379 : decode cL_moves 379 = .ok (.iload 4, 2) := by decide +kernel
theorem dL_moves_381 : decode cL_moves 381 = .ok (.iconst 0, 1) := by decide +kernel
theorem dL_moves_382 : decode cL_moves 382 = .ok (.invokevirtual 31, 3) := by decide +kernel
theorem dL_moves_385 : decode cL_moves 385 = .ok (.iload 5, 2) := by decide +kernel
theorem dL_moves_387 : decode cL_moves 387 = .ok (.if_icmp .ne 41, 3) := by decide +kernel
theorem dL_moves_390 : decode cL_moves 390 = .ok (.aload_n 0, 1) := by decide +kernel
theorem dL_moves_391 : decode cL_moves 391 = .ok (.iload 4, 2) := by decide +kernel
theorem dL_moves_393 : decode cL_moves 393 = .ok (.iconst 1, 1) := by decide +kernel
theorem dL_moves_394 : decode cL_moves 394 = .ok (.invokevirtual 31, 3) := by decide +kernel
theorem dL_moves_397 : decode cL_moves 397 = .ok (.iload 6, 2) := by decide +kernel
theorem dL_moves_399 : decode cL_moves 399 = .ok (.if_icmp .ne 29, 3) := by decide +kernel
theorem dL_moves_402 : decode cL_moves 402 = .ok (.aload_n 0, 1) := by decide +kernel
theorem dL_moves_403 : decode cL_moves 403 = .ok (.iload 4, 2) := by decide +kernel
theorem dL_moves_405 : decode cL_moves 405 = .ok (.iconst 2, 1) := by decide +kernel
theorem dL_moves_406 : decode cL_moves 406 = .ok (.invokevirtual 31, 3) := by decide +kernel
theorem dL_moves_409 : decode cL_moves 409 = .ok (.iload 7, 2) := by decide +kernel
theorem dL_moves_411 : decode cL_moves 411 = .ok (.if_icmp .ne 17, 3) := by decide +kernel
theorem dL_moves_414 : decode cL_moves 414 = .ok (.aload_n 0, 1) := by decide +kernel
theorem dL_moves_415 : decode cL_moves 415 = .ok (.iconst 2, 1) := by decide +kernel
theorem dL_moves_416 : decode cL_moves 416 = .ok (.invokevirtual 24, 3) := by decide +kernel
theorem dL_moves_419 : decode cL_moves 419 = .ok (.iload 13, 2) := by decide +kernel
theorem dL_moves_421 : decode cL_moves 421 = .ok (.if_icmp .ne 7, 3) := by decide +kernel
theorem dL_moves_424 : decode cL_moves 424 = .ok (.iconst 1, 1) := by decide +kernel
theorem dL_moves_425 : decode cL_moves 425 = .ok (.goto 4, 3) := by decide +kernel
theorem dL_moves_428 : decode cL_moves 428 = .ok (.iconst 0, 1) := by decide +kernel
theorem dL_moves_429 : decode cL_moves 429 = .ok (.ireturn, 1) := by decide +kernel
theorem dL_moves_430 : decode cL_moves 430 = .ok (.iload 7, 2) := by decide +kernel
theorem dL_moves_432 : decode cL_moves 432 = .ok (.iload 18, 2) := by decide +kernel
theorem dL_moves_434 : decode cL_moves 434 = .ok (.isub, 1) := by decide +kernel
theorem dL_moves_435 : decode cL_moves 435 = .ok (.istore 7, 2) := by decide +kernel
theorem dL_moves_437 : decode cL_moves 437 = .ok (.iload 11, 2) := by decide +kernel
theorem dL_moves_439 : decode cL_moves 439 = .ok (.iconst 2, 1) := by decide +kernel
theorem dL_moves_440 : decode cL_moves 440 = .ok (.idiv, 1) := by decide +kernel
theorem dL_moves_441 : decode cL_moves 441 = .ok (.istore 20, 2) := by decide +kernel
theorem dL_moves_443 : decode cL_moves 443 = .ok (.iload 6, 2) := by decide +kernel
theorem dL_moves_445 : decode cL_moves 445 = .ok (.iload_n 1, 1) := by decide +kernel
theorem dL_moves_446 : decode cL_moves 446 = .ok (.iconst 1, 1) := by decide +kernel
theorem dL_moves_447 : decode cL_moves 447 = .ok (.if_icmp .ne 8, 3) := by decide +kernel
theorem dL_moves_450 : decode cL_moves 450 = .ok (.iload 12, 2) := by decide +kernel
theorem dL_moves_452 : decode cL_moves 452 = .ok (.goto 14, 3) := by decide +kernel
theorem dL_moves_455 : decode cL_moves 455 = .ok (.iload_n 1, 1) := by decide +kernel
theorem dL_moves_456 : decode cL_moves 456 = .ok (.iconst 3, 1) := by decide +kernel
theorem dL_moves_457 : decode cL_moves 457 = .ok (.if_icmp .ne 8, 3) := by decide +kernel
theorem dL_moves_460 : decode cL_moves 460 = .ok (.iload 20, 2) := by decide +kernel
theorem dL_moves_462 : decode cL_moves 462 = .ok (.goto 4, 3) := by decide +kernel
theorem dL_moves_465 : decode cL_moves 465 = .ok (.iconst 0, 1) := by decide +kernel
theorem dL_moves_466 : decode cL_moves 466 = .ok (.iadd, 1) := by decide +kernel
theorem dL_moves_467 : decode cL_moves 467 = .ok (.istore 6, 2) := by decide +kernel
theorem dL_moves_469 : decode cL_moves 469 = .ok (.iload_n 1, 1) := by decide +kernel
theorem dL_moves_470 : decode cL_moves 470 = .ok (.iconst 2, 1) := by decide +kernel
theorem dL_moves_471 : decode cL_moves 471 = .ok (.if_icmp .ne 15, 3) := by decide +kernel
theorem dL_moves_474 : decode cL_moves 474 = .ok (.iload 6, 2) := by decide +kernel
theorem dL_moves_476 : decode cL_moves 476 = .ok (.istore 21, 2) := by decide +kernel
theorem dL_moves_478 : decode cL_moves 478 = .ok (.iload 7, 2) := by decide +kernel
theorem dL_moves_480 : decode cL_moves 480 = .ok (.istore 6, 2) := by decide +kernel
theorem dL_moves_482 : decode cL_moves 482 = .ok (.iload 21, 2) := by decide +kernel
theorem dL_moves_484 : decode cL_moves 484 = .ok (.istore 7, 2) := by decide +kernel
theorem dL_moves_486 : decode cL_moves 486 = .ok (.iload 6, 2) := by decide +kernel
theorem dL_moves_488 : decode cL_moves 488 = .ok (.aload_n 0, 1) := by decide +kernel
theorem dL_moves_489 : decode cL_moves 489 = .ok (.iconst 0, 1) := by decide +kernel
theorem dL_moves_490 : decode cL_moves 490 = .ok (.invokevirtual 15, 3) := by decide +kernel
theorem dL_moves_493 : decode cL_moves 493 = .ok (.if_icmp .ge 8, 3) := by decide +kernel
theorem dL_moves_496 : decode cL_moves 496 = .ok (.iload 6, 2) := by decide +kernel
theorem dL_moves_498 : decode cL_moves 498 = .ok (.goto 8, 3) := by decide +kernel
theorem dL_moves_501 : decode cL_moves 501 = .ok (.aload_n 0, 1) := by decide +kernel
theorem dL_moves_502 : decode cL_moves 502 = .ok (.iconst 0, 1) := by decide +kernel
theorem dL_moves_503 : decode cL_moves 503 = .ok (.invokevirtual 15, 3) := by decide +kernel
theorem dL_moves_506 : decode cL_moves 506 = .ok (.istore 21, 2) := by decide +kernel
theorem dL_moves_508 : decode cL_moves 508 = .ok (.iload 19, 2) := by decide +kernel
theorem dL_moves_510 : decode cL_moves 510 = .ok (.iload_n 1, 1) := by decide +kernel
theorem dL_moves_511 : decode cL_moves 511 = .ok (.ifCond .ne 8, 3) := by decide +kernel
theorem dL_moves_514 : decode cL_moves 514 = .ok (.iload 21, 2) := by decide +kernel
theorem dL_moves_516 : decode cL_moves 516 = .ok (.goto 4, 3) := by decide +kernel
theorem dL_moves_519 : decode cL_moves 519 = .ok (.iconst 0, 1) := by decide +kernel
theorem dL_moves_520 : decode cL_moves 520 = .ok (.if_icmp .ne 74, 3) := by decide +kernel
theorem dL_moves_523 : decode cL_moves 523 = .ok (.aload_n 0, 1) := by decide +kernel
theorem dL_moves_524 : decode cL_moves 524 = .ok (.iload 4, 2) := by decide +kernel
theorem dL_moves_526 : decode cL_moves 526 = .ok (.iconst 0, 1) := by decide +kernel
theorem dL_moves_527 : decode cL_moves 527 = .ok (.invokevirtual 31, 3) := by decide +kernel
theorem dL_moves_530 : decode cL_moves 530 = .ok (.iload_n 1, 1) := by decide +kernel
theorem dL_moves_531 : decode cL_moves 531 = .ok (.iconst 1, 1) := by decide +kernel
theorem dL_moves_532 : decode cL_moves 532 = .ok (.if_icmp .ne 7, 3) := by decide +kernel
theorem dL_moves_535 : decode cL_moves 535 = .ok (.iload_n 2, 1) := by decide +kernel
theorem dL_moves_536 : decode cL_moves 536 = .ok (.goto 5, 3) := by decide +kernel
theorem dL_moves_539 : decode cL_moves 539 = .ok (.iload 5, 2) := by decide +kernel
theorem dL_moves_541 : decode cL_moves 541 = .ok (.if_icmp .ne 53, 3) := by decide +kernel
theorem dL_moves_544 : decode cL_moves 544 = .ok (.aload_n 0, 1) := by decide +kernel
theorem dL_moves_545 : decode cL_moves 545 = .ok (.iload 4, 2) := by decide +kernel
theorem dL_moves_547 : decode cL_moves 547 = .ok (.iconst 1, 1) := by decide +kernel
theorem dL_moves_548 : decode cL_moves 548 = .ok (.invokevirtual 31, 3) := by decide +kernel
theorem dL_moves_551 : decode cL_moves 551 = .ok (.iload 6, 2) := by decide +kernel
theorem dL_moves_553 : decode cL_moves 553 = .ok (.iload 21, 2) := by decide +kernel
theorem dL_moves_555 : decode cL_moves 555 = .ok (.isub, 1) := by decide +kernel
theorem dL_moves_556 : decode cL_moves 556 = .ok (.if_icmp .ne 38, 3) := by decide +kernel
theorem dL_moves_559 : decode cL_moves 559 = .ok (.aload_n 0, 1) := by decide +kernel
theorem dL_moves_560 : decode cL_moves 560 = .ok (.iload 4, 2) := by decide +kernel
theorem dL_moves_562 : decode cL_moves 562 = .ok (.iconst 2, 1) := by decide +kernel
theorem dL_moves_563 : decode cL_moves 563 = .ok (.invokevirtual 31, 3) := by decide +kernel
theorem dL_moves_566 : decode cL_moves 566 = .ok (.iload 7, 2) := by decide +kernel
theorem dL_moves_568 : decode cL_moves 568 = .ok (.iload 21, 2) := by decide +kernel
theorem dL_moves_570 : decode cL_moves 570 = .ok (.iadd, 1) := by decide +kernel
theorem dL_moves_571 : decode cL_moves 571 = .ok (.if_icmp .ne 23, 3) := by decide +kernel
theorem dL_moves_574 : decode cL_moves 574 = .ok (.aload_n 0, 1) := by decide +kernel
theorem dL_moves_575 : decode cL_moves 575 = .ok (.iload 4, 2) := by decide +kernel
theorem dL_moves_577 : decode cL_moves 577 = .ok (.bipush 7, 2) := by decide +kernel
theorem dL_moves_579 : decode cL_moves 579 = .ok (.invokevirtual 31, 3) := by decide +kernel
theorem dL_moves_582 : decode cL_moves 582 = .ok (.iload 8, 2) := by decide +kernel
theorem dL_moves_584 : decode cL_moves 584 = .ok (.iload 18, 2) := by decide +kernel
theorem dL_moves_586 : decode cL_moves 586 = .ok (.iadd, 1) := by decide +kernel
theorem dL_moves_587 : decode cL_moves 587 = .ok (.if_icmp .ne 7, 3) := by decide +kernel
theorem dL_moves_590 : decode cL_moves 590 = .ok (.iconst 1, 1) := by decide +kernel
theorem dL_moves_591 : decode cL_moves 591 = .ok (.goto 4, 3) := by decide +kernel
theorem dL_moves_594 : decode cL_moves 594 = .ok (.iconst 0, 1) := by decide +kernel
theorem dL_moves_595 : decode cL_moves 595 = .ok (.istore 22, 2) := by decide +kernel
theorem dL_moves_597 : decode cL_moves 597 = .ok (.iload 22, 2) := by decide +kernel
theorem dL_moves_599 : decode cL_moves 599 = .ok (.ifCond .eq 72, 3) := by decide +kernel
theorem dL_moves_602 : decode cL_moves 602 = .ok (.aload_n 0, 1) := by decide +kernel
theorem dL_moves_603 : decode cL_moves 603 = .ok (.iload 5, 2) := by decide +kernel
theorem dL_moves_605 : decode cL_moves 605 = .ok (.iconst 1, 1) := by decide +kernel
theorem dL_moves_606 : decode cL_moves 606 = .ok (.invokevirtual 9, 3) := by decide +kernel
theorem dL_moves_609 : decode cL_moves 609 = .ok (.iload 9, 2) := by decide +kernel
theorem dL_moves_611 : decode cL_moves 611 = .ok (.iload 18, 2) := by decide +kernel
theorem dL_moves_613 : decode cL_moves 613 = .ok (.iadd, 1) := by decide +kernel
theorem dL_moves_614 : decode cL_moves 614 = .ok (.if_icmp .ne 57, 3) := by decide +kernel
theorem dL_moves_617 : decode cL_moves 617 = .ok (.iload_n 1, 1) := by decide +kernel
theorem dL_moves_618 : decode cL_moves 618 = .ok (.iconst 1, 1) := by decide +kernel
theorem dL_moves_619 : decode cL_moves 619 = .ok (.if_icmp .ne 12, 3) := by decide +kernel
theorem dL_moves_622 : decode cL_moves 622 = .ok (.aload_n 0, 1) := by decide +kernel
theorem dL_moves_623 : decode cL_moves 623 = .ok (.iload_n 2, 1) := by decide +kernel
theorem dL_moves_624 : decode cL_moves 624 = .ok (.iconst 1, 1) := by decide +kernel
theorem dL_moves_625 : decode cL_moves 625 = .ok (.invokevirtual 9, 3) := by decide +kernel
theorem dL_moves_628 : decode cL_moves 628 = .ok (.ifCond .ne 43, 3) := by decide +kernel
theorem dL_moves_631 : decode cL_moves 631 = .ok (.aload_n 0, 1) := by decide +kernel
theorem dL_moves_632 : decode cL_moves 632 = .ok (.iconst 1, 1) := by decide +kernel
theorem dL_moves_633 : decode cL_moves 633 = .ok (.invokevirtual 24, 3) := by decide +kernel
theorem dL_moves_636 : decode cL_moves 636 = .ok (.iload 4, 2) := by decide +kernel
theorem dL_moves_638 : decode cL_moves 638 = .ok (.iconst 1, 1) := by decide +kernel
theorem dL_moves_639 : decode cL_moves 639 = .ok (.iadd, 1) := by decide +kernel
theorem dL_moves_640 : decode cL_moves 640 = .ok (.iload_n 3, 1) := by decide +kernel
theorem dL_moves_641 : decode cL_moves 641 = .ok (.irem, 1) := by decide +kernel
theorem dL_moves_642 : decode cL_moves 642 = .ok (.if_icmp .ne 29, 3) := by decide +kernel
theorem dL_moves_645 : decode cL_moves 645 = .ok (.aload_n 0, 1) := by decide +kernel
theorem dL_moves_646 : decode cL_moves 646 = .ok (.iconst 3, 1) := by decide +kernel
theorem dL_moves_647 : decode cL_moves 647 = .ok (.invokevirtual 24, 3) := by decide +kernel
theorem dL_moves_650 : decode cL_moves 650 = .ok (.iload 15, 2) := by decide +kernel
theorem dL_moves_652 : decode cL_moves 652 = .ok (.iconst 1, 1) := by decide +kernel
theorem dL_moves_653 : decode cL_moves 653 = .ok (.iadd, 1) := by decide +kernel
theorem dL_moves_654 : decode cL_moves 654 = .ok (.if_icmp .ne 17, 3) := by decide +kernel
theorem dL_moves_657 : decode cL_moves 657 = .ok (.aload_n 0, 1) := by decide +kernel
theorem dL_moves_658 : decode cL_moves 658 = .ok (.iconst 4, 1) := by decide +kernel
theorem dL_moves_659 : decode cL_moves 659 = .ok (.invokevirtual 24, 3) := by decide +kernel
theorem dL_moves_662 : decode cL_moves 662 = .ok (.iload 14, 2) := by decide +kernel
theorem dL_moves_664 : decode cL_moves 664 = .ok (.if_icmp .ne 7, 3) := by decide +kernel
theorem dL_moves_667 : decode cL_moves 667 = .ok (.iconst 1, 1) := by decide +kernel
theorem dL_moves_668 : decode cL_moves 668 = .ok (.goto 4, 3) := by decide +kernel
theorem dL_moves_671 : decode cL_moves 671 = .ok (.iconst 0, 1) := by decide +kernel
theorem dL_moves_672 : decode cL_moves 672 = .ok (.istore 22, 2) := by decide +kernel
theorem dL_moves_674 : decode cL_moves 674 = .ok (.iload 22, 2) := by decide +kernel
theorem dL_moves_676 : decode cL_moves 676 = .ok (.ifCond .eq 47, 3) := by decide +kernel
theorem dL_moves_679 : decode cL_moves 679 = .ok (.aload_n 0, 1) := by decide +kernel
theorem dL_moves_680 : decode cL_moves 680 = .ok (.iconst 2, 1) := by decide +kernel
theorem dL_moves_681 : decode cL_moves 681 = .ok (.invokevirtual 24, 3) := by decide +kernel
theorem dL_moves_684 : decode cL_moves 684 = .ok (.iload_n 1, 1) := by decide +kernel
theorem dL_moves_685 : decode cL_moves 685 = .ok (.iconst 3, 1) := by decide +kernel
theorem dL_moves_686 : decode cL_moves 686 = .ok (.if_icmp .ne 8, 3) := by decide +kernel
theorem dL_moves_689 : decode cL_moves 689 = .ok (.iload 10, 2) := by decide +kernel
theorem dL_moves_691 : decode cL_moves 691 = .ok (.goto 5, 3) := by decide +kernel
theorem dL_moves_694 : decode cL_moves 694 = .ok (.iload 13, 2) := by decide +kernel
theorem dL_moves_696 : decode cL_moves 696 = .ok (.if_icmp .ne 27, 3) := by decide +kernel
theorem dL_moves_699 : decode cL_moves 699 = .ok (.iload_n 1, 1) := by decide +kernel
theorem dL_moves_700 : decode cL_moves 700 = .ok (.iconst 3, 1) := by decide +kernel
theorem dL_moves_701 : decode cL_moves 701 = .ok (.if_icmp .ne 18, 3) := by decide +kernel
theorem dL_moves_704 : decode cL_moves 704 = .ok (.aload_n 0, 1) := by decide +kernel
theorem dL_moves_705 : decode cL_moves 705 = .ok (.iload 10, 2) := by decide +kernel
theorem dL_moves_707 : decode cL_moves 707 = .ok (.iconst 2, 1) := by decide +kernel
theorem dL_moves_708 : decode cL_moves 708 = .ok (.invokevirtual 31, 3) := by decide +kernel
theorem dL_moves_711 : decode cL_moves 711 = .ok (.iload 11, 2) := by decide +kernel
theorem dL_moves_713 : decode cL_moves 713 = .ok (.iload 20, 2) := by decide +kernel
theorem dL_moves_715 : decode cL_moves 715 = .ok (.isub, 1) := by decide +kernel
theorem dL_moves_716 : decode cL_moves 716 = .ok (.if_icmp .ne 7, 3) := by decide +kernel
theorem dL_moves_719 : decode cL_moves 719 = .ok (.iconst 1, 1) := by decide +kernel
theorem dL_moves_720 : decode cL_moves 720 = .ok (.goto 4, 3) := by decide +kernel
theorem dL_moves_723 : decode cL_moves 723 = .ok (.iconst 0, 1) := by decide +kernel
theorem dL_moves_724 : decode cL_moves 724 = .ok (.ireturn, 1) := by decide +kernel
theorem dL_law_0 : decode cL_law 0 = .ok (.new 10, 3) := by decide +kernel
theorem dL_law_3 : decode cL_law 3 = .ok (.dup, 1) := by decide +kernel
theorem dL_law_4 : decode cL_law 4 = .ok (.invokespecial 59, 3) := by decide +kernel
theorem dL_law_7 : decode cL_law 7 = .ok (.astore_n 1, 1) := by decide +kernel
theorem dL_law_8 : decode cL_law 8 = .ok (.iconst 1, 1) := by decide +kernel
theorem dL_law_9 : decode cL_law 9 = .ok (.aload_n 0, 1) := by decide +kernel
theorem dL_law_10 : decode cL_law 10 = .ok (.iconst 0, 1) := by decide +kernel
theorem dL_law_11 : decode cL_law 11 = .ok (.invokestatic 60, 3) := by decide +kernel
theorem dL_law_14 : decode cL_law 14 = .ok (.iconst 4, 1) := by decide +kernel
theorem dL_law_15 : decode cL_law 15 = .ok (.invokestatic 64, 3) := by decide +kernel
theorem dL_law_18 : decode cL_law 18 = .ok (.iadd, 1) := by decide +kernel
theorem dL_law_19 : decode cL_law 19 = .ok (.istore_n 2, 1) := by decide +kernel
theorem dL_law_20 : decode cL_law 20 = .ok (.iconst 0, 1) := by decide +kernel
theorem dL_law_21 : decode cL_law 21 = .ok (.istore_n 3, 1) := by decide +kernel
theorem dL_law_22 : decode cL_law 22 = .ok (.iload_n 3, 1) := by decide +kernel
theorem dL_law_23 : decode cL_law 23 = .ok (.bipush 10, 2) := by decide +kernel
theorem dL_law_25 : decode cL_law 25 = .ok (.if_icmp .ge 31, 3) := by decide +kernel
theorem dL_law_28 : decode cL_law 28 = .ok (.aload_n 1, 1) := by decide +kernel
theorem dL_law_29 : decode cL_law 29 = .ok (.iload_n 3, 1) := by decide +kernel
theorem dL_law_30 : decode cL_law 30 = .ok (.aload_n 0, 1) := by decide +kernel
theorem dL_law_31 : decode cL_law 31 = .ok (.iconst 1, 1) := by decide +kernel
theorem dL_law_32 : decode cL_law 32 = .ok (.iload_n 3, 1) := by decide +kernel
theorem dL_law_33 : decode cL_law 33 = .ok (.iadd, 1) := by decide +kernel
theorem dL_law_34 : decode cL_law 34 = .ok (.invokestatic 60, 3) := by decide +kernel
theorem dL_law_37 : decode cL_law 37 = .ok (.bipush 10, 2) := by decide +kernel
theorem dL_law_39 : decode cL_law 39 = .ok (.invokestatic 64, 3) := by decide +kernel
theorem dL_law_42 : decode cL_law 42 = .ok (.invokevirtual 67, 3) := by decide +kernel
theorem dL_law_45 : decode cL_law 45 = .ok (.ifCond .eq 5, 3) := by decide +kernel
theorem dL_law_48 : decode cL_law 48 = .ok (.iconst 0, 1) := by decide +kernel
theorem dL_law_49 : decode cL_law 49 = .ok (.ireturn, 1) := by decide +kernel
theorem dL_law_50 : decode cL_law 50 = .ok (.iinc 3 1, 3) := by decide +kernel
theorem dL_law_53 : decode cL_law 53 = .ok (.goto (-31), 3) := by decide +kernel
theorem dL_law_56 : decode cL_law 56 = .ok (.aload_n 1, 1) := by decide +kernel
theorem dL_law_57 : decode cL_law 57 = .ok (.iconst 0, 1) := by decide +kernel
theorem dL_law_58 : decode cL_law 58 = .ok (.iconst 1, 1) := by decide +kernel
theorem dL_law_59 : decode cL_law 59 = .ok (.aload_n 0, 1) := by decide +kernel
theorem dL_law_60 : decode cL_law 60 = .ok (.bipush 11, 2) := by decide +kernel
theorem dL_law_62 : decode cL_law 62 = .ok (.invokestatic 60, 3) := by decide +kernel
theorem dL_law_65 : decode cL_law 65 = .ok (.bipush 20, 2) := by decide +kernel
theorem dL_law_67 : decode cL_law 67 = .ok (.invokestatic 64, 3) := by decide +kernel
theorem dL_law_70 : decode cL_law 70 = .ok (.iadd, 1) := by decide +kernel
theorem dL_law_71 : decode cL_law 71 = .ok (.invokevirtual 70, 3) := by decide +kernel
theorem dL_law_74 : decode cL_law 74 = .ok (.pop, 1) := by decide +kernel
theorem dL_law_75 : decode cL_law 75 = .ok (.aload_n 1, 1) := by decide +kernel
theorem dL_law_76 : decode cL_law 76 = .ok (.iconst 1, 1) := by decide +kernel
theorem dL_law_77 : decode cL_law 77 = .ok (.aload_n 0, 1) := by decide +kernel
theorem dL_law_78 : decode cL_law 78 = .ok (.bipush 12, 2) := by decide +kernel
theorem dL_law_80 : decode cL_law 80 = .ok (.invokestatic 60, 3) := by decide +kernel
theorem dL_law_83 : decode cL_law 83 = .ok (.iconst 4, 1) := by decide +kernel
theorem dL_law_84 : decode cL_law 84 = .ok (.invokestatic 64, 3) := by decide +kernel
theorem dL_law_87 : decode cL_law 87 = .ok (.invokevirtual 70, 3) := by decide +kernel
theorem dL_law_90 : decode cL_law 90 = .ok (.pop, 1) := by decide +kernel
theorem dL_law_91 : decode cL_law 91 = .ok (.aload_n 1, 1) := by decide +kernel
theorem dL_law_92 : decode cL_law 92 = .ok (.iconst 2, 1) := by decide +kernel
theorem dL_law_93 : decode cL_law 93 = .ok (.aload_n 0, 1) := by decide +kernel
theorem dL_law_94 : decode cL_law 94 = .ok (.bipush 13, 2) := by decide +kernel
theorem dL_law_96 : decode cL_law 96 = .ok (.invokestatic 60, 3) := by decide +kernel
theorem dL_law_99 : decode cL_law 99 = .ok (.bipush 12, 2) := by decide +kernel
theorem dL_law_101 : decode cL_law 101 = .ok (.invokestatic 64, 3) := by decide +kernel
theorem dL_law_104 : decode cL_law 104 = .ok (.invokevirtual 70, 3) := by decide +kernel
theorem dL_law_107 : decode cL_law 107 = .ok (.pop, 1) := by decide +kernel
theorem dL_law_108 : decode cL_law 108 = .ok (.aload_n 1, 1) := by decide +kernel
theorem dL_law_109 : decode cL_law 109 = .ok (.iconst 3, 1) := by decide +kernel
theorem dL_law_110 : decode cL_law 110 = .ok (.aload_n 0, 1) := by decide +kernel
theorem dL_law_111 : decode cL_law 111 = .ok (.bipush 14, 2) := by decide +kernel
theorem dL_law_113 : decode cL_law 113 = .ok (.invokestatic 60, 3) := by decide +kernel
theorem dL_law_116 : decode cL_law 116 = .ok (.bipush 10, 2) := by decide +kernel
theorem dL_law_118 : decode cL_law 118 = .ok (.invokestatic 64, 3) := by decide +kernel
theorem dL_law_121 : decode cL_law 121 = .ok (.invokevirtual 70, 3) := by decide +kernel
theorem dL_law_124 : decode cL_law 124 = .ok (.pop, 1) := by decide +kernel
theorem dL_law_125 : decode cL_law 125 = .ok (.iconst 0, 1) := by decide +kernel
theorem dL_law_126 : decode cL_law 126 = .ok (.istore_n 3, 1) := by decide +kernel
theorem dL_law_127 : decode cL_law 127 = .ok (.iconst 0, 1) := by decide +kernel
theorem dL_law_128 : decode cL_law 128 = .ok (.istore 4, 2) := by decide +kernel
theorem dL_law_130 : decode cL_law 130 = .ok (.iload 4, 2) := by decide +kernel
theorem dL_law_132 : decode cL_law 132 = .ok (.iload_n 2, 1) := by decide +kernel
theorem dL_law_133 : decode cL_law 133 = .ok (.if_icmp .ge 108, 3) := by decide +kernel
theorem dL_law_136 : decode cL_law 136 = .ok (.aload_n 0, 1) := by decide +kernel
theorem dL_law_137 : decode cL_law 137 = .ok (.bipush 15, 2) := by decide +kernel
theorem dL_law_139 : decode cL_law 139 = .ok (.iload 4, 2) := by decide +kernel
theorem dL_law_141 : decode cL_law 141 = .ok (.iadd, 1) := by decide +kernel
theorem dL_law_142 : decode cL_law 142 = .ok (.invokestatic 60, 3) := by decide +kernel
theorem dL_law_145 : decode cL_law 145 = .ok (.iconst 4, 1) := by decide +kernel
theorem dL_law_146 : decode cL_law 146 = .ok (.ishr, 1) := by decide +kernel
theorem dL_law_147 : decode cL_law 147 = .ok (.sipush 201, 3) := by decide +kernel
theorem dL_law_150 : decode cL_law 150 = .ok (.invokestatic 64, 3) := by decide +kernel
theorem dL_law_153 : decode cL_law 153 = .ok (.istore 5, 2) := by decide +kernel
theorem dL_law_155 : decode cL_law 155 = .ok (.iload_n 3, 1) := by decide +kernel
theorem dL_law_156 : decode cL_law 156 = .ok (.iload 5, 2) := by decide +kernel
theorem dL_law_158 : decode cL_law 158 = .ok (.iadd, 1) := by decide +kernel
theorem dL_law_159 : decode cL_law 159 = .ok (.istore_n 3, 1) := by decide +kernel
theorem dL_law_160 : decode cL_law 160 = .ok (.aload_n 1, 1) := by decide +kernel
theorem dL_law_161 : decode cL_law 161 = .ok (.aload_n 0, 1) := by decide +kernel
theorem dL_law_162 : decode cL_law 162 = .ok (.bipush 15, 2) := by decide +kernel
theorem dL_law_164 : decode cL_law 164 = .ok (.iload 4, 2) := by decide +kernel
theorem dL_law_166 : decode cL_law 166 = .ok (.iadd, 1) := by decide +kernel
theorem dL_law_167 : decode cL_law 167 = .ok (.invokestatic 60, 3) := by decide +kernel
theorem dL_law_170 : decode cL_law 170 = .ok (.bipush 10, 2) := by decide +kernel
theorem dL_law_172 : decode cL_law 172 = .ok (.invokestatic 64, 3) := by decide +kernel
theorem dL_law_175 : decode cL_law 175 = .ok (.iload 5, 2) := by decide +kernel
theorem dL_law_177 : decode cL_law 177 = .ok (.invokevirtual 73, 3) := by decide +kernel
theorem dL_law_180 : decode cL_law 180 = .ok (.iload 4, 2) := by decide +kernel
theorem dL_law_182 : decode cL_law 182 = .ok (.if_icmp .ne 51, 3) := by decide +kernel
theorem dL_law_185 : decode cL_law 185 = .ok (.aload_n 1, 1) := by decide +kernel
theorem dL_law_186 : decode cL_law 186 = .ok (.iload 4, 2) := by decide +kernel
theorem dL_law_188 : decode cL_law 188 = .ok (.iconst 1, 1) := by decide +kernel
theorem dL_law_189 : decode cL_law 189 = .ok (.invokevirtual 31, 3) := by decide +kernel
theorem dL_law_192 : decode cL_law 192 = .ok (.iload 5, 2) := by decide +kernel
theorem dL_law_194 : decode cL_law 194 = .ok (.if_icmp .ne 39, 3) := by decide +kernel
theorem dL_law_197 : decode cL_law 197 = .ok (.aload_n 1, 1) := by decide +kernel
theorem dL_law_198 : decode cL_law 198 = .ok (.iload 4, 2) := by decide +kernel
theorem dL_law_200 : decode cL_law 200 = .ok (.iconst 2, 1) := by decide +kernel
theorem dL_law_201 : decode cL_law 201 = .ok (.invokevirtual 31, 3) := by decide +kernel
theorem dL_law_204 : decode cL_law 204 = .ok (.ifCond .ne 29, 3) := by decide +kernel
theorem dL_law_207 : decode cL_law 207 = .ok (.aload_n 1, 1) := by decide +kernel
theorem dL_law_208 : decode cL_law 208 = .ok (.iconst 1, 1) := by decide +kernel
theorem dL_law_209 : decode cL_law 209 = .ok (.invokevirtual 24, 3) := by decide +kernel
theorem dL_law_212 : decode cL_law 212 = .ok (.ifCond .ne 21, 3) := by decide +kernel
theorem dL_law_215 : decode cL_law 215 = .ok (.aload_n 1, 1) := by decide +kernel
theorem dL_law_216 : decode cL_law 216 = .ok (.iconst 2, 1) := by decide +kernel
theorem dL_law_217 : decode cL_law 217 = .ok (.invokevirtual 24, 3) := by decide +kernel
theorem dL_law_220 : decode cL_law 220 = .ok (.ifCond .ne 13, 3) := by decide +kernel
theorem dL_law_223 : decode cL_law 223 = .ok (.aload_n 1, 1) := by decide +kernel
theorem dL_law_224 : decode cL_law 224 = .ok (.bipush 9, 2) := by decide +kernel
theorem dL_law_226 : decode cL_law 226 = .ok (.invokevirtual 24, 3) := by decide +kernel
theorem dL_law_229 : decode cL_law 229 = .ok (.iload_n 3, 1) := by decide +kernel
theorem dL_law_230 : decode cL_law 230 = .ok (.if_icmp .eq 5, 3) := by decide +kernel
theorem dL_law_233 : decode cL_law 233 = .ok (.iconst 0, 1) := by decide +kernel
theorem dL_law_234 : decode cL_law 234 = .ok (.ireturn, 1) := by decide +kernel
theorem dL_law_235 : decode cL_law 235 = .ok (.iinc 4 1, 3) := by decide +kernel
theorem dL_law_238 : decode cL_law 238 = .ok (.goto (-108), 3) := by decide +kernel
theorem dL_law_241 : decode cL_law 241 = .ok (.iconst 0, 1) := by decide +kernel
theorem dL_law_242 : decode cL_law 242 = .ok (.istore 4, 2) := by decide +kernel
theorem dL_law_244 : decode cL_law 244 = .ok (.iload 4, 2) := by decide +kernel
theorem dL_law_246 : decode cL_law 246 = .ok (.bipush 44, 2) := by decide +kernel
theorem dL_law_248 : decode cL_law 248 = .ok (.if_icmp .ge 161, 3) := by decide +kernel
theorem dL_law_251 : decode cL_law 251 = .ok (.aload_n 0, 1) := by decide +kernel
theorem dL_law_252 : decode cL_law 252 = .ok (.bipush 20, 2) := by decide +kernel
theorem dL_law_254 : decode cL_law 254 = .ok (.iload 4, 2) := by decide +kernel
theorem dL_law_256 : decode cL_law 256 = .ok (.iadd, 1) := by decide +kernel
theorem dL_law_257 : decode cL_law 257 = .ok (.invokestatic 60, 3) := by decide +kernel
theorem dL_law_260 : decode cL_law 260 = .ok (.istore 5, 2) := by decide +kernel
theorem dL_law_262 : decode cL_law 262 = .ok (.iload 5, 2) := by decide +kernel
theorem dL_law_264 : decode cL_law 264 = .ok (.bipush 11, 2) := by decide +kernel
theorem dL_law_266 : decode cL_law 266 = .ok (.invokestatic 64, 3) := by decide +kernel
theorem dL_law_269 : decode cL_law 269 = .ok (.istore 6, 2) := by decide +kernel
theorem dL_law_271 : decode cL_law 271 = .ok (.iload 6, 2) := by decide +kernel
theorem dL_law_273 : decode cL_law 273 = .ok (.iconst 3, 1) := by decide +kernel
theorem dL_law_274 : decode cL_law 274 = .ok (.if_icmp .ge 7, 3) := by decide +kernel
theorem dL_law_277 : decode cL_law 277 = .ok (.iconst 0, 1) := by decide +kernel
theorem dL_law_278 : decode cL_law 278 = .ok (.goto 26, 3) := by decide +kernel
theorem dL_law_281 : decode cL_law 281 = .ok (.iload 6, 2) := by decide +kernel
theorem dL_law_283 : decode cL_law 283 = .ok (.bipush 7, 2) := by decide +kernel
theorem dL_law_285 : decode cL_law 285 = .ok (.if_icmp .ge 7, 3) := by decide +kernel
theorem dL_law_288 : decode cL_law 288 = .ok (.iconst 1, 1) := by decide +kernel
theorem dL_law_289 : decode cL_law 289 = .ok (.goto 15, 3) := by decide +kernel
theorem dL_law_292 : decode cL_law 292 = .ok (.iload 6, 2) := by decide +kernel
theorem dL_law_294 : decode cL_law 294 = .ok (.bipush 7, 2) := by decide +kernel
theorem dL_law_296 : decode cL_law 296 = .ok (.if_icmp .ne 7, 3) := by decide +kernel
theorem dL_law_299 : decode cL_law 299 = .ok (.iconst 2, 1) := by decide +kernel
theorem dL_law_300 : decode cL_law 300 = .ok (.goto 4, 3) := by decide +kernel
theorem dL_law_303 : decode cL_law 303 = .ok (.iconst 3, 1) := by decide +kernel
theorem dL_law_304 : decode cL_law 304 = .ok (.istore 7, 2) := by decide +kernel
theorem dL_law_306 : decode cL_law 306 = .ok (.iload 6, 2) := by decide +kernel
theorem dL_law_308 : decode cL_law 308 = .ok (.bipush 10, 2) := by decide +kernel
theorem dL_law_310 : decode cL_law 310 = .ok (.if_icmp .ne 37, 3) := by decide +kernel
theorem dL_law_313 : decode cL_law 313 = .ok (.aload_n 1, 1) := by decide +kernel
theorem dL_law_314 : decode cL_law 314 = .ok (.iload 5, 2) := by decide +kernel
theorem dL_law_316 : decode cL_law 316 = .ok (.iconst 4, 1) := by decide +kernel
theorem dL_law_317 : decode cL_law 317 = .ok (.ishr, 1) := by decide +kernel
theorem dL_law_318 : decode cL_law 318 = .ok (.bipush 10, 2) := by decide +kernel
theorem dL_law_320 : decode cL_law 320 = .ok (.invokestatic 64, 3) := by decide +kernel
theorem dL_law_323 : decode cL_law 323 = .ok (.iload 5, 2) := by decide +kernel
theorem dL_law_325 : decode cL_law 325 = .ok (.bipush 8, 2) := by decide +kernel
theorem dL_law_327 : decode cL_law 327 = .ok (.ishr, 1) := by decide +kernel
theorem dL_law_328 : decode cL_law 328 = .ok (.bipush 10, 2) := by decide +kernel
theorem dL_law_330 : decode cL_law 330 = .ok (.invokestatic 64, 3) := by decide +kernel
theorem dL_law_333 : decode cL_law 333 = .ok (.invokevirtual 67, 3) := by decide +kernel
theorem dL_law_336 : decode cL_law 336 = .ok (.ifCond .lt 7, 3) := by decide +kernel
theorem dL_law_339 : decode cL_law 339 = .ok (.iconst 1, 1) := by decide +kernel
theorem dL_law_340 : decode cL_law 340 = .ok (.goto 32, 3) := by decide +kernel
theorem dL_law_343 : decode cL_law 343 = .ok (.iconst 0, 1) := by decide +kernel
theorem dL_law_344 : decode cL_law 344 = .ok (.goto 28, 3) := by decide +kernel
theorem dL_law_347 : decode cL_law 347 = .ok (.aload_n 1, 1) := by decide +kernel
theorem dL_law_348 : decode cL_law 348 = .ok (.iload 7, 2) := by decide +kernel
theorem dL_law_350 : decode cL_law 350 = .ok (.iload 5, 2) := by decide +kernel
theorem dL_law_352 : decode cL_law 352 = .ok (.iconst 4, 1) := by decide +kernel
theorem dL_law_353 : decode cL_law 353 = .ok (.ishr, 1) := by decide +kernel
theorem dL_law_354 : decode cL_law 354 = .ok (.iload 7, 2) := by decide +kernel
theorem dL_law_356 : decode cL_law 356 = .ok (.iconst 3, 1) := by decide +kernel
theorem dL_law_357 : decode cL_law 357 = .ok (.if_icmp .ne 7, 3) := by decide +kernel
theorem dL_law_360 : decode cL_law 360 = .ok (.iload_n 2, 1) := by decide +kernel
theorem dL_law_361 : decode cL_law 361 = .ok (.goto 5, 3) := by decide +kernel
theorem dL_law_364 : decode cL_law 364 = .ok (.bipush 10, 2) := by decide +kernel
theorem dL_law_366 : decode cL_law 366 = .ok (.invokestatic 64, 3) := by decide +kernel
theorem dL_law_369 : decode cL_law 369 = .ok (.invokestatic 76, 3) := by decide +kernel
theorem dL_law_372 : decode cL_law 372 = .ok (.istore 8, 2) := by decide +kernel
theorem dL_law_374 : decode cL_law 374 = .ok (.iload 8, 2) := by decide +kernel
theorem dL_law_376 : decode cL_law 376 = .ok (.ifCond .eq 25, 3) := by decide +kernel
theorem dL_law_379 : decode cL_law 379 = .ok (.aload_n 1, 1) := by decide +kernel
theorem dL_law_380 : decode cL_law 380 = .ok (.invokestatic 79, 3) := by decide +kernel
theorem dL_law_383 : decode cL_law 383 = .ok (.ifCond .eq 18, 3) := by decide +kernel
theorem dL_law_386 : decode cL_law 386 = .ok (.iload 4, 2) := by decide +kernel
theorem dL_law_388 : decode cL_law 388 = .ok (.iconst 4, 1) := by decide +kernel
theorem dL_law_389 : decode cL_law 389 = .ok (.irem, 1) := by decide +kernel
theorem dL_law_390 : decode cL_law 390 = .ok (.iconst 3, 1) := by decide +kernel
theorem dL_law_391 : decode cL_law 391 = .ok (.if_icmp .ne 12, 3) := by decide +kernel
theorem dL_law_394 : decode cL_law 394 = .ok (.aload_n 1, 1) := by decide +kernel
theorem dL_law_395 : decode cL_law 395 = .ok (.invokestatic 83, 3) := by decide +kernel
theorem dL_law_398 : decode cL_law 398 = .ok (.ifCond .ne 5, 3) := by decide +kernel
theorem dL_law_401 : decode cL_law 401 = .ok (.iconst 0, 1) := by decide +kernel
theorem dL_law_402 : decode cL_law 402 = .ok (.ireturn, 1) := by decide +kernel
theorem dL_law_403 : decode cL_law 403 = .ok (.iinc 4 1, 3) := by decide +kernel
theorem dL_law_406 : decode cL_law 406 = .ok (.goto (-162), 3) := by decide +kernel
theorem dL_law_409 : decode cL_law 409 = .ok (.iconst 1, 1) := by decide +kernel
theorem dL_law_410 : decode cL_law 410 = .ok (.ireturn, 1) := by decide +kernel
