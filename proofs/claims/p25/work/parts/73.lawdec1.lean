theorem dL_lot_0 : decode cL_lot 0 = .ok (.iload_n 1, 1) := by decide +kernel
theorem dL_lot_1 : decode cL_lot 1 = .ok (.aload_n 0, 1) := by decide +kernel
theorem dL_lot_2 : decode cL_lot 2 = .ok (.arraylength, 1) := by decide +kernel
theorem dL_lot_3 : decode cL_lot 3 = .ok (.if_icmp .ge 9, 3) := by decide +kernel
theorem dL_lot_6 : decode cL_lot 6 = .ok (.aload_n 0, 1) := by decide +kernel
theorem dL_lot_7 : decode cL_lot 7 = .ok (.iload_n 1, 1) := by decide +kernel
theorem dL_lot_8 : decode cL_lot 8 = .ok (.iaload, 1) := by decide +kernel
theorem dL_lot_9 : decode cL_lot 9 = .ok (.goto 15, 3) := by decide +kernel
theorem dL_lot_12 : decode cL_lot 12 = .ok (.ldc 7, 2) := by decide +kernel
theorem dL_lot_14 : decode cL_lot 14 = .ok (.iload_n 1, 1) := by decide +kernel
theorem dL_lot_15 : decode cL_lot 15 = .ok (.sipush 1811, 3) := by decide +kernel
theorem dL_lot_18 : decode cL_lot 18 = .ok (.iadd, 1) := by decide +kernel
theorem dL_lot_19 : decode cL_lot 19 = .ok (.imul, 1) := by decide +kernel
theorem dL_lot_20 : decode cL_lot 20 = .ok (.sipush 1613, 3) := by decide +kernel
theorem dL_lot_23 : decode cL_lot 23 = .ok (.iadd, 1) := by decide +kernel
theorem dL_lot_24 : decode cL_lot 24 = .ok (.ireturn, 1) := by decide +kernel
theorem dL_low_0 : decode cL_low 0 = .ok (.iload_n 0, 1) := by decide +kernel
theorem dL_low_1 : decode cL_low 1 = .ok (.ldc 8, 2) := by decide +kernel
theorem dL_low_3 : decode cL_low 3 = .ok (.iand, 1) := by decide +kernel
theorem dL_low_4 : decode cL_low 4 = .ok (.iload_n 1, 1) := by decide +kernel
theorem dL_low_5 : decode cL_low 5 = .ok (.irem, 1) := by decide +kernel
theorem dL_low_6 : decode cL_low 6 = .ok (.ireturn, 1) := by decide +kernel
theorem dL_sound_0 : decode cL_sound 0 = .ok (.aload_n 0, 1) := by decide +kernel
theorem dL_sound_1 : decode cL_sound 1 = .ok (.bipush 10, 2) := by decide +kernel
theorem dL_sound_3 : decode cL_sound 3 = .ok (.invokevirtual 9, 3) := by decide +kernel
theorem dL_sound_6 : decode cL_sound 6 = .ok (.istore_n 1, 1) := by decide +kernel
theorem dL_sound_7 : decode cL_sound 7 = .ok (.aload_n 0, 1) := by decide +kernel
theorem dL_sound_8 : decode cL_sound 8 = .ok (.bipush 15, 2) := by decide +kernel
theorem dL_sound_10 : decode cL_sound 10 = .ok (.invokevirtual 9, 3) := by decide +kernel
theorem dL_sound_13 : decode cL_sound 13 = .ok (.istore_n 2, 1) := by decide +kernel
theorem dL_sound_14 : decode cL_sound 14 = .ok (.aload_n 0, 1) := by decide +kernel
theorem dL_sound_15 : decode cL_sound 15 = .ok (.iconst 1, 1) := by decide +kernel
theorem dL_sound_16 : decode cL_sound 16 = .ok (.invokevirtual 15, 3) := by decide +kernel
theorem dL_sound_19 : decode cL_sound 19 = .ok (.aload_n 0, 1) := by decide +kernel
theorem dL_sound_20 : decode cL_sound 20 = .ok (.iconst 2, 1) := by decide +kernel
theorem dL_sound_21 : decode cL_sound 21 = .ok (.invokevirtual 15, 3) := by decide +kernel
theorem dL_sound_24 : decode cL_sound 24 = .ok (.iadd, 1) := by decide +kernel
theorem dL_sound_25 : decode cL_sound 25 = .ok (.istore_n 3, 1) := by decide +kernel
theorem dL_sound_26 : decode cL_sound 26 = .ok (.aload_n 0, 1) := by decide +kernel
theorem dL_sound_27 : decode cL_sound 27 = .ok (.bipush 9, 2) := by decide +kernel
theorem dL_sound_29 : decode cL_sound 29 = .ok (.invokevirtual 9, 3) := by decide +kernel
theorem dL_sound_32 : decode cL_sound 32 = .ok (.istore 4, 2) := by decide +kernel
theorem dL_sound_34 : decode cL_sound 34 = .ok (.iconst 0, 1) := by decide +kernel
theorem dL_sound_35 : decode cL_sound 35 = .ok (.istore 5, 2) := by decide +kernel
theorem dL_sound_37 : decode cL_sound 37 = .ok (.iconst 0, 1) := by decide +kernel
theorem dL_sound_38 : decode cL_sound 38 = .ok (.istore 6, 2) := by decide +kernel
theorem dL_sound_40 : decode cL_sound 40 = .ok (.iconst 0, 1) := by decide +kernel
theorem dL_sound_41 : decode cL_sound 41 = .ok (.istore 7, 2) := by decide +kernel
theorem dL_sound_43 : decode cL_sound 43 = .ok (.iconst 0, 1) := by decide +kernel
theorem dL_sound_44 : decode cL_sound 44 = .ok (.istore 8, 2) := by decide +kernel
theorem dL_sound_46 : decode cL_sound 46 = .ok (.iload 8, 2) := by decide +kernel
theorem dL_sound_48 : decode cL_sound 48 = .ok (.iconst 4, 1) := by decide +kernel
theorem dL_sound_49 : decode cL_sound 49 = .ok (.if_icmp .ge 84, 3) := by decide +kernel
theorem dL_sound_52 : decode cL_sound 52 = .ok (.iload 5, 2) := by decide +kernel
theorem dL_sound_54 : decode cL_sound 54 = .ok (.aload_n 0, 1) := by decide +kernel
theorem dL_sound_55 : decode cL_sound 55 = .ok (.iload 8, 2) := by decide +kernel
theorem dL_sound_57 : decode cL_sound 57 = .ok (.iconst 3, 1) := by decide +kernel
theorem dL_sound_58 : decode cL_sound 58 = .ok (.invokevirtual 18, 3) := by decide +kernel
theorem dL_sound_61 : decode cL_sound 61 = .ok (.iadd, 1) := by decide +kernel
theorem dL_sound_62 : decode cL_sound 62 = .ok (.istore 5, 2) := by decide +kernel
theorem dL_sound_64 : decode cL_sound 64 = .ok (.iload 7, 2) := by decide +kernel
theorem dL_sound_66 : decode cL_sound 66 = .ok (.aload_n 0, 1) := by decide +kernel
theorem dL_sound_67 : decode cL_sound 67 = .ok (.iload 8, 2) := by decide +kernel
theorem dL_sound_69 : decode cL_sound 69 = .ok (.iconst 4, 1) := by decide +kernel
theorem dL_sound_70 : decode cL_sound 70 = .ok (.invokevirtual 18, 3) := by decide +kernel
theorem dL_sound_73 : decode cL_sound 73 = .ok (.iadd, 1) := by decide +kernel
theorem dL_sound_74 : decode cL_sound 74 = .ok (.istore 7, 2) := by decide +kernel
theorem dL_sound_76 : decode cL_sound 76 = .ok (.iload 6, 2) := by decide +kernel
theorem dL_sound_78 : decode cL_sound 78 = .ok (.aload_n 0, 1) := by decide +kernel
theorem dL_sound_79 : decode cL_sound 79 = .ok (.iload 8, 2) := by decide +kernel
theorem dL_sound_81 : decode cL_sound 81 = .ok (.iconst 0, 1) := by decide +kernel
theorem dL_sound_82 : decode cL_sound 82 = .ok (.invokevirtual 18, 3) := by decide +kernel
theorem dL_sound_85 : decode cL_sound 85 = .ok (.iadd, 1) := by decide +kernel
theorem dL_sound_86 : decode cL_sound 86 = .ok (.istore 6, 2) := by decide +kernel
theorem dL_sound_88 : decode cL_sound 88 = .ok (.aload_n 0, 1) := by decide +kernel
theorem dL_sound_89 : decode cL_sound 89 = .ok (.iload 8, 2) := by decide +kernel
theorem dL_sound_91 : decode cL_sound 91 = .ok (.iconst 1, 1) := by decide +kernel
theorem dL_sound_92 : decode cL_sound 92 = .ok (.invokevirtual 18, 3) := by decide +kernel
theorem dL_sound_95 : decode cL_sound 95 = .ok (.ifCond .lt 30, 3) := by decide +kernel
theorem dL_sound_98 : decode cL_sound 98 = .ok (.aload_n 0, 1) := by decide +kernel
theorem dL_sound_99 : decode cL_sound 99 = .ok (.iload 8, 2) := by decide +kernel
theorem dL_sound_101 : decode cL_sound 101 = .ok (.iconst 2, 1) := by decide +kernel
theorem dL_sound_102 : decode cL_sound 102 = .ok (.invokevirtual 18, 3) := by decide +kernel
theorem dL_sound_105 : decode cL_sound 105 = .ok (.ifCond .lt 20, 3) := by decide +kernel
theorem dL_sound_108 : decode cL_sound 108 = .ok (.aload_n 0, 1) := by decide +kernel
theorem dL_sound_109 : decode cL_sound 109 = .ok (.iload 8, 2) := by decide +kernel
theorem dL_sound_111 : decode cL_sound 111 = .ok (.iconst 4, 1) := by decide +kernel
theorem dL_sound_112 : decode cL_sound 112 = .ok (.invokevirtual 18, 3) := by decide +kernel
theorem dL_sound_115 : decode cL_sound 115 = .ok (.aload_n 0, 1) := by decide +kernel
theorem dL_sound_116 : decode cL_sound 116 = .ok (.iload 8, 2) := by decide +kernel
theorem dL_sound_118 : decode cL_sound 118 = .ok (.iconst 3, 1) := by decide +kernel
theorem dL_sound_119 : decode cL_sound 119 = .ok (.invokevirtual 18, 3) := by decide +kernel
theorem dL_sound_122 : decode cL_sound 122 = .ok (.if_icmp .le 5, 3) := by decide +kernel
theorem dL_sound_125 : decode cL_sound 125 = .ok (.iconst 0, 1) := by decide +kernel
theorem dL_sound_126 : decode cL_sound 126 = .ok (.ireturn, 1) := by decide +kernel
theorem dL_sound_127 : decode cL_sound 127 = .ok (.iinc 8 1, 3) := by decide +kernel
theorem dL_sound_130 : decode cL_sound 130 = .ok (.goto (-84), 3) := by decide +kernel
theorem dL_sound_133 : decode cL_sound 133 = .ok (.aload_n 0, 1) := by decide +kernel
theorem dL_sound_134 : decode cL_sound 134 = .ok (.invokevirtual 22, 3) := by decide +kernel
theorem dL_sound_137 : decode cL_sound 137 = .ok (.iload_n 2, 1) := by decide +kernel
theorem dL_sound_138 : decode cL_sound 138 = .ok (.if_icmp .ne 206, 3) := by decide +kernel
theorem dL_sound_141 : decode cL_sound 141 = .ok (.iload_n 2, 1) := by decide +kernel
theorem dL_sound_142 : decode cL_sound 142 = .ok (.ifCond .lt 202, 3) := by decide +kernel
theorem dL_sound_145 : decode cL_sound 145 = .ok (.iload_n 2, 1) := by decide +kernel
theorem dL_sound_146 : decode cL_sound 146 = .ok (.iload_n 1, 1) := by decide +kernel
theorem dL_sound_147 : decode cL_sound 147 = .ok (.if_icmp .gt 197, 3) := by decide +kernel
theorem dL_sound_150 : decode cL_sound 150 = .ok (.iload_n 1, 1) := by decide +kernel
theorem dL_sound_151 : decode cL_sound 151 = .ok (.iload 4, 2) := by decide +kernel
theorem dL_sound_153 : decode cL_sound 153 = .ok (.if_icmp .gt 191, 3) := by decide +kernel
theorem dL_sound_156 : decode cL_sound 156 = .ok (.aload_n 0, 1) := by decide +kernel
theorem dL_sound_157 : decode cL_sound 157 = .ok (.iconst 0, 1) := by decide +kernel
theorem dL_sound_158 : decode cL_sound 158 = .ok (.invokevirtual 15, 3) := by decide +kernel
theorem dL_sound_161 : decode cL_sound 161 = .ok (.iload_n 3, 1) := by decide +kernel
theorem dL_sound_162 : decode cL_sound 162 = .ok (.aload_n 0, 1) := by decide +kernel
theorem dL_sound_163 : decode cL_sound 163 = .ok (.bipush 12, 2) := by decide +kernel
theorem dL_sound_165 : decode cL_sound 165 = .ok (.invokevirtual 9, 3) := by decide +kernel
theorem dL_sound_168 : decode cL_sound 168 = .ok (.iadd, 1) := by decide +kernel
theorem dL_sound_169 : decode cL_sound 169 = .ok (.if_icmp .ne 175, 3) := by decide +kernel
theorem dL_sound_172 : decode cL_sound 172 = .ok (.aload_n 0, 1) := by decide +kernel
theorem dL_sound_173 : decode cL_sound 173 = .ok (.iconst 3, 1) := by decide +kernel
theorem dL_sound_174 : decode cL_sound 174 = .ok (.invokevirtual 15, 3) := by decide +kernel
theorem dL_sound_177 : decode cL_sound 177 = .ok (.aload_n 0, 1) := by decide +kernel
theorem dL_sound_178 : decode cL_sound 178 = .ok (.iconst 4, 1) := by decide +kernel
theorem dL_sound_179 : decode cL_sound 179 = .ok (.invokevirtual 15, 3) := by decide +kernel
theorem dL_sound_182 : decode cL_sound 182 = .ok (.aload_n 0, 1) := by decide +kernel
theorem dL_sound_183 : decode cL_sound 183 = .ok (.bipush 13, 2) := by decide +kernel
theorem dL_sound_185 : decode cL_sound 185 = .ok (.invokevirtual 9, 3) := by decide +kernel
theorem dL_sound_188 : decode cL_sound 188 = .ok (.iadd, 1) := by decide +kernel
theorem dL_sound_189 : decode cL_sound 189 = .ok (.if_icmp .ne 155, 3) := by decide +kernel
theorem dL_sound_192 : decode cL_sound 192 = .ok (.aload_n 0, 1) := by decide +kernel
theorem dL_sound_193 : decode cL_sound 193 = .ok (.iconst 5, 1) := by decide +kernel
theorem dL_sound_194 : decode cL_sound 194 = .ok (.invokevirtual 15, 3) := by decide +kernel
theorem dL_sound_197 : decode cL_sound 197 = .ok (.aload_n 0, 1) := by decide +kernel
theorem dL_sound_198 : decode cL_sound 198 = .ok (.bipush 6, 2) := by decide +kernel
theorem dL_sound_200 : decode cL_sound 200 = .ok (.invokevirtual 15, 3) := by decide +kernel
theorem dL_sound_203 : decode cL_sound 203 = .ok (.aload_n 0, 1) := by decide +kernel
theorem dL_sound_204 : decode cL_sound 204 = .ok (.bipush 14, 2) := by decide +kernel
theorem dL_sound_206 : decode cL_sound 206 = .ok (.invokevirtual 9, 3) := by decide +kernel
theorem dL_sound_209 : decode cL_sound 209 = .ok (.iadd, 1) := by decide +kernel
theorem dL_sound_210 : decode cL_sound 210 = .ok (.if_icmp .ne 134, 3) := by decide +kernel
theorem dL_sound_213 : decode cL_sound 213 = .ok (.aload_n 0, 1) := by decide +kernel
theorem dL_sound_214 : decode cL_sound 214 = .ok (.iload_n 1, 1) := by decide +kernel
theorem dL_sound_215 : decode cL_sound 215 = .ok (.invokevirtual 26, 3) := by decide +kernel
theorem dL_sound_218 : decode cL_sound 218 = .ok (.aload_n 0, 1) := by decide +kernel
theorem dL_sound_219 : decode cL_sound 219 = .ok (.iconst 0, 1) := by decide +kernel
theorem dL_sound_220 : decode cL_sound 220 = .ok (.invokevirtual 15, 3) := by decide +kernel
theorem dL_sound_223 : decode cL_sound 223 = .ok (.if_icmp .ne 121, 3) := by decide +kernel
theorem dL_sound_226 : decode cL_sound 226 = .ok (.aload_n 0, 1) := by decide +kernel
theorem dL_sound_227 : decode cL_sound 227 = .ok (.iload_n 2, 1) := by decide +kernel
theorem dL_sound_228 : decode cL_sound 228 = .ok (.invokevirtual 26, 3) := by decide +kernel
theorem dL_sound_231 : decode cL_sound 231 = .ok (.iload_n 3, 1) := by decide +kernel
theorem dL_sound_232 : decode cL_sound 232 = .ok (.if_icmp .gt 112, 3) := by decide +kernel
theorem dL_sound_235 : decode cL_sound 235 = .ok (.iload_n 2, 1) := by decide +kernel
theorem dL_sound_236 : decode cL_sound 236 = .ok (.iload_n 1, 1) := by decide +kernel
theorem dL_sound_237 : decode cL_sound 237 = .ok (.if_icmp .eq 14, 3) := by decide +kernel
theorem dL_sound_240 : decode cL_sound 240 = .ok (.aload_n 0, 1) := by decide +kernel
theorem dL_sound_241 : decode cL_sound 241 = .ok (.iload_n 2, 1) := by decide +kernel
theorem dL_sound_242 : decode cL_sound 242 = .ok (.iconst 1, 1) := by decide +kernel
theorem dL_sound_243 : decode cL_sound 243 = .ok (.iadd, 1) := by decide +kernel
theorem dL_sound_244 : decode cL_sound 244 = .ok (.invokevirtual 26, 3) := by decide +kernel
theorem dL_sound_247 : decode cL_sound 247 = .ok (.iload_n 3, 1) := by decide +kernel
theorem dL_sound_248 : decode cL_sound 248 = .ok (.if_icmp .le 96, 3) := by decide +kernel
theorem dL_sound_251 : decode cL_sound 251 = .ok (.iload 5, 2) := by decide +kernel
theorem dL_sound_253 : decode cL_sound 253 = .ok (.iload_n 3, 1) := by decide +kernel
theorem dL_sound_254 : decode cL_sound 254 = .ok (.if_icmp .ne 90, 3) := by decide +kernel
theorem dL_sound_257 : decode cL_sound 257 = .ok (.iload 7, 2) := by decide +kernel
theorem dL_sound_259 : decode cL_sound 259 = .ok (.aload_n 0, 1) := by decide +kernel
theorem dL_sound_260 : decode cL_sound 260 = .ok (.iconst 2, 1) := by decide +kernel
theorem dL_sound_261 : decode cL_sound 261 = .ok (.invokevirtual 15, 3) := by decide +kernel
theorem dL_sound_264 : decode cL_sound 264 = .ok (.if_icmp .ne 80, 3) := by decide +kernel
theorem dL_sound_267 : decode cL_sound 267 = .ok (.iload 6, 2) := by decide +kernel
theorem dL_sound_269 : decode cL_sound 269 = .ok (.aload_n 0, 1) := by decide +kernel
theorem dL_sound_270 : decode cL_sound 270 = .ok (.bipush 21, 2) := by decide +kernel
theorem dL_sound_272 : decode cL_sound 272 = .ok (.invokevirtual 9, 3) := by decide +kernel
theorem dL_sound_275 : decode cL_sound 275 = .ok (.if_icmp .ne 69, 3) := by decide +kernel
theorem dL_sound_278 : decode cL_sound 278 = .ok (.aload_n 0, 1) := by decide +kernel
theorem dL_sound_279 : decode cL_sound 279 = .ok (.bipush 11, 2) := by decide +kernel
theorem dL_sound_281 : decode cL_sound 281 = .ok (.invokevirtual 9, 3) := by decide +kernel
theorem dL_sound_284 : decode cL_sound 284 = .ok (.ifCond .lt 60, 3) := by decide +kernel
theorem dL_sound_287 : decode cL_sound 287 = .ok (.aload_n 0, 1) := by decide +kernel
theorem dL_sound_288 : decode cL_sound 288 = .ok (.bipush 12, 2) := by decide +kernel
theorem dL_sound_290 : decode cL_sound 290 = .ok (.invokevirtual 9, 3) := by decide +kernel
theorem dL_sound_293 : decode cL_sound 293 = .ok (.ifCond .lt 51, 3) := by decide +kernel
theorem dL_sound_296 : decode cL_sound 296 = .ok (.aload_n 0, 1) := by decide +kernel
theorem dL_sound_297 : decode cL_sound 297 = .ok (.bipush 13, 2) := by decide +kernel
theorem dL_sound_299 : decode cL_sound 299 = .ok (.invokevirtual 9, 3) := by decide +kernel
theorem dL_sound_302 : decode cL_sound 302 = .ok (.ifCond .lt 42, 3) := by decide +kernel
theorem dL_sound_305 : decode cL_sound 305 = .ok (.aload_n 0, 1) := by decide +kernel
theorem dL_sound_306 : decode cL_sound 306 = .ok (.bipush 14, 2) := by decide +kernel
theorem dL_sound_308 : decode cL_sound 308 = .ok (.invokevirtual 9, 3) := by decide +kernel
theorem dL_sound_311 : decode cL_sound 311 = .ok (.ifCond .lt 33, 3) := by decide +kernel
theorem dL_sound_314 : decode cL_sound 314 = .ok (.aload_n 0, 1) := by decide +kernel
theorem dL_sound_315 : decode cL_sound 315 = .ok (.bipush 20, 2) := by decide +kernel
theorem dL_sound_317 : decode cL_sound 317 = .ok (.invokevirtual 9, 3) := by decide +kernel
theorem dL_sound_320 : decode cL_sound 320 = .ok (.aload_n 0, 1) := by decide +kernel
theorem dL_sound_321 : decode cL_sound 321 = .ok (.bipush 18, 2) := by decide +kernel
theorem dL_sound_323 : decode cL_sound 323 = .ok (.invokevirtual 9, 3) := by decide +kernel
theorem dL_sound_326 : decode cL_sound 326 = .ok (.if_icmp .gt 18, 3) := by decide +kernel
theorem dL_sound_329 : decode cL_sound 329 = .ok (.aload_n 0, 1) := by decide +kernel
theorem dL_sound_330 : decode cL_sound 330 = .ok (.bipush 16, 2) := by decide +kernel
theorem dL_sound_332 : decode cL_sound 332 = .ok (.invokevirtual 9, 3) := by decide +kernel
theorem dL_sound_335 : decode cL_sound 335 = .ok (.bipush 40, 2) := by decide +kernel
theorem dL_sound_337 : decode cL_sound 337 = .ok (.if_icmp .gt 7, 3) := by decide +kernel
theorem dL_sound_340 : decode cL_sound 340 = .ok (.iconst 1, 1) := by decide +kernel
theorem dL_sound_341 : decode cL_sound 341 = .ok (.goto 4, 3) := by decide +kernel
theorem dL_sound_344 : decode cL_sound 344 = .ok (.iconst 0, 1) := by decide +kernel
theorem dL_sound_345 : decode cL_sound 345 = .ok (.istore 8, 2) := by decide +kernel
theorem dL_sound_347 : decode cL_sound 347 = .ok (.aload_n 0, 1) := by decide +kernel
theorem dL_sound_348 : decode cL_sound 348 = .ok (.bipush 17, 2) := by decide +kernel
theorem dL_sound_350 : decode cL_sound 350 = .ok (.invokevirtual 9, 3) := by decide +kernel
theorem dL_sound_353 : decode cL_sound 353 = .ok (.istore 9, 2) := by decide +kernel
theorem dL_sound_355 : decode cL_sound 355 = .ok (.iconst 0, 1) := by decide +kernel
theorem dL_sound_356 : decode cL_sound 356 = .ok (.istore 10, 2) := by decide +kernel
theorem dL_sound_358 : decode cL_sound 358 = .ok (.iconst 0, 1) := by decide +kernel
theorem dL_sound_359 : decode cL_sound 359 = .ok (.istore 11, 2) := by decide +kernel
theorem dL_sound_361 : decode cL_sound 361 = .ok (.iconst 0, 1) := by decide +kernel
theorem dL_sound_362 : decode cL_sound 362 = .ok (.istore 12, 2) := by decide +kernel
theorem dL_sound_364 : decode cL_sound 364 = .ok (.iload 12, 2) := by decide +kernel
theorem dL_sound_366 : decode cL_sound 366 = .ok (.aload_n 0, 1) := by decide +kernel
theorem dL_sound_367 : decode cL_sound 367 = .ok (.bipush 16, 2) := by decide +kernel
theorem dL_sound_369 : decode cL_sound 369 = .ok (.invokevirtual 9, 3) := by decide +kernel
theorem dL_sound_372 : decode cL_sound 372 = .ok (.if_icmp .ge 116, 3) := by decide +kernel
theorem dL_sound_375 : decode cL_sound 375 = .ok (.iload 9, 2) := by decide +kernel
theorem dL_sound_377 : decode cL_sound 377 = .ok (.aload_n 0, 1) := by decide +kernel
theorem dL_sound_378 : decode cL_sound 378 = .ok (.iload 12, 2) := by decide +kernel
theorem dL_sound_380 : decode cL_sound 380 = .ok (.iconst 0, 1) := by decide +kernel
theorem dL_sound_381 : decode cL_sound 381 = .ok (.invokevirtual 29, 3) := by decide +kernel
theorem dL_sound_384 : decode cL_sound 384 = .ok (.iadd, 1) := by decide +kernel
theorem dL_sound_385 : decode cL_sound 385 = .ok (.istore 9, 2) := by decide +kernel
theorem dL_sound_387 : decode cL_sound 387 = .ok (.aload_n 0, 1) := by decide +kernel
theorem dL_sound_388 : decode cL_sound 388 = .ok (.iload 12, 2) := by decide +kernel
theorem dL_sound_390 : decode cL_sound 390 = .ok (.iconst 0, 1) := by decide +kernel
theorem dL_sound_391 : decode cL_sound 391 = .ok (.invokevirtual 29, 3) := by decide +kernel
theorem dL_sound_394 : decode cL_sound 394 = .ok (.bipush 50, 2) := by decide +kernel
theorem dL_sound_396 : decode cL_sound 396 = .ok (.if_icmp .lt 66, 3) := by decide +kernel
theorem dL_sound_399 : decode cL_sound 399 = .ok (.aload_n 0, 1) := by decide +kernel
theorem dL_sound_400 : decode cL_sound 400 = .ok (.iload 12, 2) := by decide +kernel
theorem dL_sound_402 : decode cL_sound 402 = .ok (.iconst 2, 1) := by decide +kernel
theorem dL_sound_403 : decode cL_sound 403 = .ok (.invokevirtual 29, 3) := by decide +kernel
theorem dL_sound_406 : decode cL_sound 406 = .ok (.iload 10, 2) := by decide +kernel
theorem dL_sound_408 : decode cL_sound 408 = .ok (.if_icmp .ne 54, 3) := by decide +kernel
theorem dL_sound_411 : decode cL_sound 411 = .ok (.aload_n 0, 1) := by decide +kernel
theorem dL_sound_412 : decode cL_sound 412 = .ok (.iload 12, 2) := by decide +kernel
theorem dL_sound_414 : decode cL_sound 414 = .ok (.iconst 1, 1) := by decide +kernel
theorem dL_sound_415 : decode cL_sound 415 = .ok (.invokevirtual 29, 3) := by decide +kernel
theorem dL_sound_418 : decode cL_sound 418 = .ok (.iload 10, 2) := by decide +kernel
theorem dL_sound_420 : decode cL_sound 420 = .ok (.if_icmp .lt 42, 3) := by decide +kernel
theorem dL_sound_423 : decode cL_sound 423 = .ok (.aload_n 0, 1) := by decide +kernel
theorem dL_sound_424 : decode cL_sound 424 = .ok (.iload 12, 2) := by decide +kernel
theorem dL_sound_426 : decode cL_sound 426 = .ok (.iconst 1, 1) := by decide +kernel
theorem dL_sound_427 : decode cL_sound 427 = .ok (.invokevirtual 29, 3) := by decide +kernel
theorem dL_sound_430 : decode cL_sound 430 = .ok (.iload_n 2, 1) := by decide +kernel
theorem dL_sound_431 : decode cL_sound 431 = .ok (.if_icmp .gt 31, 3) := by decide +kernel
theorem dL_sound_434 : decode cL_sound 434 = .ok (.aload_n 0, 1) := by decide +kernel
theorem dL_sound_435 : decode cL_sound 435 = .ok (.iload 12, 2) := by decide +kernel
theorem dL_sound_437 : decode cL_sound 437 = .ok (.iconst 3, 1) := by decide +kernel
theorem dL_sound_438 : decode cL_sound 438 = .ok (.invokevirtual 29, 3) := by decide +kernel
theorem dL_sound_441 : decode cL_sound 441 = .ok (.iload 11, 2) := by decide +kernel
theorem dL_sound_443 : decode cL_sound 443 = .ok (.if_icmp .le 19, 3) := by decide +kernel
theorem dL_sound_446 : decode cL_sound 446 = .ok (.aload_n 0, 1) := by decide +kernel
theorem dL_sound_447 : decode cL_sound 447 = .ok (.iload 12, 2) := by decide +kernel
theorem dL_sound_449 : decode cL_sound 449 = .ok (.iconst 3, 1) := by decide +kernel
theorem dL_sound_450 : decode cL_sound 450 = .ok (.invokevirtual 29, 3) := by decide +kernel
theorem dL_sound_453 : decode cL_sound 453 = .ok (.aload_n 0, 1) := by decide +kernel
theorem dL_sound_454 : decode cL_sound 454 = .ok (.bipush 18, 2) := by decide +kernel
theorem dL_sound_456 : decode cL_sound 456 = .ok (.invokevirtual 9, 3) := by decide +kernel
theorem dL_sound_459 : decode cL_sound 459 = .ok (.if_icmp .le 5, 3) := by decide +kernel
theorem dL_sound_462 : decode cL_sound 462 = .ok (.iconst 0, 1) := by decide +kernel
theorem dL_sound_463 : decode cL_sound 463 = .ok (.ireturn, 1) := by decide +kernel
theorem dL_sound_464 : decode cL_sound 464 = .ok (.aload_n 0, 1) := by decide +kernel
theorem dL_sound_465 : decode cL_sound 465 = .ok (.iload 12, 2) := by decide +kernel
theorem dL_sound_467 : decode cL_sound 467 = .ok (.iconst 1, 1) := by decide +kernel
theorem dL_sound_468 : decode cL_sound 468 = .ok (.invokevirtual 29, 3) := by decide +kernel
theorem dL_sound_471 : decode cL_sound 471 = .ok (.istore 10, 2) := by decide +kernel
theorem dL_sound_473 : decode cL_sound 473 = .ok (.aload_n 0, 1) := by decide +kernel
theorem dL_sound_474 : decode cL_sound 474 = .ok (.iload 12, 2) := by decide +kernel
theorem dL_sound_476 : decode cL_sound 476 = .ok (.iconst 3, 1) := by decide +kernel
theorem dL_sound_477 : decode cL_sound 477 = .ok (.invokevirtual 29, 3) := by decide +kernel
theorem dL_sound_480 : decode cL_sound 480 = .ok (.istore 11, 2) := by decide +kernel
theorem dL_sound_482 : decode cL_sound 482 = .ok (.iinc 12 1, 3) := by decide +kernel
theorem dL_sound_485 : decode cL_sound 485 = .ok (.goto (-121), 3) := by decide +kernel
theorem dL_sound_488 : decode cL_sound 488 = .ok (.iload 8, 2) := by decide +kernel
theorem dL_sound_490 : decode cL_sound 490 = .ok (.ifCond .eq 32, 3) := by decide +kernel
theorem dL_sound_493 : decode cL_sound 493 = .ok (.iload 9, 2) := by decide +kernel
theorem dL_sound_495 : decode cL_sound 495 = .ok (.aload_n 0, 1) := by decide +kernel
theorem dL_sound_496 : decode cL_sound 496 = .ok (.iconst 1, 1) := by decide +kernel
theorem dL_sound_497 : decode cL_sound 497 = .ok (.invokevirtual 15, 3) := by decide +kernel
theorem dL_sound_500 : decode cL_sound 500 = .ok (.if_icmp .ne 22, 3) := by decide +kernel
theorem dL_sound_503 : decode cL_sound 503 = .ok (.aload_n 0, 1) := by decide +kernel
theorem dL_sound_504 : decode cL_sound 504 = .ok (.aload_n 0, 1) := by decide +kernel
theorem dL_sound_505 : decode cL_sound 505 = .ok (.bipush 16, 2) := by decide +kernel
theorem dL_sound_507 : decode cL_sound 507 = .ok (.invokevirtual 9, 3) := by decide +kernel
theorem dL_sound_510 : decode cL_sound 510 = .ok (.iconst 0, 1) := by decide +kernel
theorem dL_sound_511 : decode cL_sound 511 = .ok (.invokevirtual 29, 3) := by decide +kernel
theorem dL_sound_514 : decode cL_sound 514 = .ok (.iconst (-1), 1) := by decide +kernel
theorem dL_sound_515 : decode cL_sound 515 = .ok (.if_icmp .ne 7, 3) := by decide +kernel
theorem dL_sound_518 : decode cL_sound 518 = .ok (.iconst 1, 1) := by decide +kernel
theorem dL_sound_519 : decode cL_sound 519 = .ok (.goto 4, 3) := by decide +kernel
theorem dL_sound_522 : decode cL_sound 522 = .ok (.iconst 0, 1) := by decide +kernel
theorem dL_sound_523 : decode cL_sound 523 = .ok (.ireturn, 1) := by decide +kernel
theorem dL_segments_0 : decode cL_segments 0 = .ok (.iconst 0, 1) := by decide +kernel
theorem dL_segments_1 : decode cL_segments 1 = .ok (.istore_n 2, 1) := by decide +kernel
theorem dL_segments_2 : decode cL_segments 2 = .ok (.iconst 0, 1) := by decide +kernel
theorem dL_segments_3 : decode cL_segments 3 = .ok (.istore_n 3, 1) := by decide +kernel
theorem dL_segments_4 : decode cL_segments 4 = .ok (.iconst 0, 1) := by decide +kernel
theorem dL_segments_5 : decode cL_segments 5 = .ok (.istore 4, 2) := by decide +kernel
theorem dL_segments_7 : decode cL_segments 7 = .ok (.iload 4, 2) := by decide +kernel
theorem dL_segments_9 : decode cL_segments 9 = .ok (.aload_n 0, 1) := by decide +kernel
theorem dL_segments_10 : decode cL_segments 10 = .ok (.bipush 8, 2) := by decide +kernel
theorem dL_segments_12 : decode cL_segments 12 = .ok (.invokevirtual 9, 3) := by decide +kernel
theorem dL_segments_15 : decode cL_segments 15 = .ok (.if_icmp .ge 164, 3) := by decide +kernel
theorem dL_segments_18 : decode cL_segments 18 = .ok (.aload_n 0, 1) := by decide +kernel
theorem dL_segments_19 : decode cL_segments 19 = .ok (.iload 4, 2) := by decide +kernel
theorem dL_segments_21 : decode cL_segments 21 = .ok (.iconst 5, 1) := by decide +kernel
theorem dL_segments_22 : decode cL_segments 22 = .ok (.invokevirtual 34, 3) := by decide +kernel
theorem dL_segments_25 : decode cL_segments 25 = .ok (.istore 5, 2) := by decide +kernel
theorem dL_segments_27 : decode cL_segments 27 = .ok (.iload_n 2, 1) := by decide +kernel
theorem dL_segments_28 : decode cL_segments 28 = .ok (.aload_n 0, 1) := by decide +kernel
theorem dL_segments_29 : decode cL_segments 29 = .ok (.iload 4, 2) := by decide +kernel
theorem dL_segments_31 : decode cL_segments 31 = .ok (.iconst 1, 1) := by decide +kernel
theorem dL_segments_32 : decode cL_segments 32 = .ok (.invokevirtual 34, 3) := by decide +kernel
theorem dL_segments_35 : decode cL_segments 35 = .ok (.iadd, 1) := by decide +kernel
theorem dL_segments_36 : decode cL_segments 36 = .ok (.istore 6, 2) := by decide +kernel
theorem dL_segments_38 : decode cL_segments 38 = .ok (.aload_n 0, 1) := by decide +kernel
theorem dL_segments_39 : decode cL_segments 39 = .ok (.iload 4, 2) := by decide +kernel
theorem dL_segments_41 : decode cL_segments 41 = .ok (.iconst 4, 1) := by decide +kernel
theorem dL_segments_42 : decode cL_segments 42 = .ok (.invokevirtual 34, 3) := by decide +kernel
theorem dL_segments_45 : decode cL_segments 45 = .ok (.iload_n 2, 1) := by decide +kernel
theorem dL_segments_46 : decode cL_segments 46 = .ok (.if_icmp .ne 117, 3) := by decide +kernel
theorem dL_segments_49 : decode cL_segments 49 = .ok (.iload 5, 2) := by decide +kernel
theorem dL_segments_51 : decode cL_segments 51 = .ok (.ifCond .lt 112, 3) := by decide +kernel
theorem dL_segments_54 : decode cL_segments 54 = .ok (.iload 5, 2) := by decide +kernel
theorem dL_segments_56 : decode cL_segments 56 = .ok (.aload_n 0, 1) := by decide +kernel
theorem dL_segments_57 : decode cL_segments 57 = .ok (.iload 4, 2) := by decide +kernel
theorem dL_segments_59 : decode cL_segments 59 = .ok (.iconst 1, 1) := by decide +kernel
theorem dL_segments_60 : decode cL_segments 60 = .ok (.invokevirtual 34, 3) := by decide +kernel
theorem dL_segments_63 : decode cL_segments 63 = .ok (.if_icmp .gt 100, 3) := by decide +kernel
theorem dL_segments_66 : decode cL_segments 66 = .ok (.iload 5, 2) := by decide +kernel
theorem dL_segments_68 : decode cL_segments 68 = .ok (.ifCond .le 8, 3) := by decide +kernel
theorem dL_segments_71 : decode cL_segments 71 = .ok (.iload_n 3, 1) := by decide +kernel
theorem dL_segments_72 : decode cL_segments 72 = .ok (.iload_n 2, 1) := by decide +kernel
theorem dL_segments_73 : decode cL_segments 73 = .ok (.if_icmp .ne 90, 3) := by decide +kernel
theorem dL_segments_76 : decode cL_segments 76 = .ok (.aload_n 0, 1) := by decide +kernel
theorem dL_segments_77 : decode cL_segments 77 = .ok (.iload_n 2, 1) := by decide +kernel
theorem dL_segments_78 : decode cL_segments 78 = .ok (.invokevirtual 37, 3) := by decide +kernel
theorem dL_segments_81 : decode cL_segments 81 = .ok (.iload 4, 2) := by decide +kernel
theorem dL_segments_83 : decode cL_segments 83 = .ok (.if_icmp .ne 80, 3) := by decide +kernel
theorem dL_segments_86 : decode cL_segments 86 = .ok (.aload_n 0, 1) := by decide +kernel
theorem dL_segments_87 : decode cL_segments 87 = .ok (.iload 6, 2) := by decide +kernel
theorem dL_segments_89 : decode cL_segments 89 = .ok (.iconst 1, 1) := by decide +kernel
theorem dL_segments_90 : decode cL_segments 90 = .ok (.isub, 1) := by decide +kernel
theorem dL_segments_91 : decode cL_segments 91 = .ok (.invokevirtual 37, 3) := by decide +kernel
theorem dL_segments_94 : decode cL_segments 94 = .ok (.iload 4, 2) := by decide +kernel
theorem dL_segments_96 : decode cL_segments 96 = .ok (.if_icmp .ne 67, 3) := by decide +kernel
theorem dL_segments_99 : decode cL_segments 99 = .ok (.aload_n 0, 1) := by decide +kernel
theorem dL_segments_100 : decode cL_segments 100 = .ok (.iload 6, 2) := by decide +kernel
theorem dL_segments_102 : decode cL_segments 102 = .ok (.invokevirtual 26, 3) := by decide +kernel
theorem dL_segments_105 : decode cL_segments 105 = .ok (.aload_n 0, 1) := by decide +kernel
theorem dL_segments_106 : decode cL_segments 106 = .ok (.iload_n 2, 1) := by decide +kernel
theorem dL_segments_107 : decode cL_segments 107 = .ok (.invokevirtual 26, 3) := by decide +kernel
theorem dL_segments_110 : decode cL_segments 110 = .ok (.isub, 1) := by decide +kernel
theorem dL_segments_111 : decode cL_segments 111 = .ok (.aload_n 0, 1) := by decide +kernel
