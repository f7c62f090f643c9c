theorem dL_segments_112 : decode cL_segments 112 = .ok (.iload 4, 2) := by decide +kernel
theorem dL_segments_114 : decode cL_segments 114 = .ok (.iconst 1, 1) := by decide +kernel
theorem dL_segments_115 : decode cL_segments 115 = .ok (.invokevirtual 34, 3) := by decide +kernel
theorem dL_segments_118 : decode cL_segments 118 = .ok (.aload_n 0, 1) := by decide +kernel
theorem dL_segments_119 : decode cL_segments 119 = .ok (.iload 4, 2) := by decide +kernel
theorem dL_segments_121 : decode cL_segments 121 = .ok (.iconst 2, 1) := by decide +kernel
theorem dL_segments_122 : decode cL_segments 122 = .ok (.invokevirtual 34, 3) := by decide +kernel
theorem dL_segments_125 : decode cL_segments 125 = .ok (.imul, 1) := by decide +kernel
theorem dL_segments_126 : decode cL_segments 126 = .ok (.if_icmp .ne 37, 3) := by decide +kernel
theorem dL_segments_129 : decode cL_segments 129 = .ok (.aload_n 0, 1) := by decide +kernel
theorem dL_segments_130 : decode cL_segments 130 = .ok (.iload 4, 2) := by decide +kernel
theorem dL_segments_132 : decode cL_segments 132 = .ok (.iconst 0, 1) := by decide +kernel
theorem dL_segments_133 : decode cL_segments 133 = .ok (.invokevirtual 34, 3) := by decide +kernel
theorem dL_segments_136 : decode cL_segments 136 = .ok (.iconst 1, 1) := by decide +kernel
theorem dL_segments_137 : decode cL_segments 137 = .ok (.if_icmp .ne 7, 3) := by decide +kernel
theorem dL_segments_140 : decode cL_segments 140 = .ok (.iconst 1, 1) := by decide +kernel
theorem dL_segments_141 : decode cL_segments 141 = .ok (.goto 4, 3) := by decide +kernel
theorem dL_segments_144 : decode cL_segments 144 = .ok (.iconst 0, 1) := by decide +kernel
theorem dL_segments_145 : decode cL_segments 145 = .ok (.aload_n 0, 1) := by decide +kernel
theorem dL_segments_146 : decode cL_segments 146 = .ok (.iload 4, 2) := by decide +kernel
theorem dL_segments_148 : decode cL_segments 148 = .ok (.iconst 2, 1) := by decide +kernel
theorem dL_segments_149 : decode cL_segments 149 = .ok (.invokevirtual 34, 3) := by decide +kernel
theorem dL_segments_152 : decode cL_segments 152 = .ok (.ifCond .ne 7, 3) := by decide +kernel
theorem dL_segments_155 : decode cL_segments 155 = .ok (.iconst 1, 1) := by decide +kernel
theorem dL_segments_156 : decode cL_segments 156 = .ok (.goto 4, 3) := by decide +kernel
theorem dL_segments_159 : decode cL_segments 159 = .ok (.iconst 0, 1) := by decide +kernel
theorem dL_segments_160 : decode cL_segments 160 = .ok (.if_icmp .eq 5, 3) := by decide +kernel
theorem dL_segments_163 : decode cL_segments 163 = .ok (.iconst 0, 1) := by decide +kernel
theorem dL_segments_164 : decode cL_segments 164 = .ok (.ireturn, 1) := by decide +kernel
theorem dL_segments_165 : decode cL_segments 165 = .ok (.iload_n 3, 1) := by decide +kernel
theorem dL_segments_166 : decode cL_segments 166 = .ok (.iload 5, 2) := by decide +kernel
theorem dL_segments_168 : decode cL_segments 168 = .ok (.iadd, 1) := by decide +kernel
theorem dL_segments_169 : decode cL_segments 169 = .ok (.istore_n 3, 1) := by decide +kernel
theorem dL_segments_170 : decode cL_segments 170 = .ok (.iload 6, 2) := by decide +kernel
theorem dL_segments_172 : decode cL_segments 172 = .ok (.istore_n 2, 1) := by decide +kernel
theorem dL_segments_173 : decode cL_segments 173 = .ok (.iinc 4 1, 3) := by decide +kernel
theorem dL_segments_176 : decode cL_segments 176 = .ok (.goto (-169), 3) := by decide +kernel
theorem dL_segments_179 : decode cL_segments 179 = .ok (.iload_n 1, 1) := by decide +kernel
theorem dL_segments_180 : decode cL_segments 180 = .ok (.sipush 300, 3) := by decide +kernel
theorem dL_segments_183 : decode cL_segments 183 = .ok (.invokestatic 40, 3) := by decide +kernel
theorem dL_segments_186 : decode cL_segments 186 = .ok (.istore 4, 2) := by decide +kernel
theorem dL_segments_188 : decode cL_segments 188 = .ok (.aload_n 0, 1) := by decide +kernel
theorem dL_segments_189 : decode cL_segments 189 = .ok (.iload 4, 2) := by decide +kernel
theorem dL_segments_191 : decode cL_segments 191 = .ok (.invokevirtual 43, 3) := by decide +kernel
theorem dL_segments_194 : decode cL_segments 194 = .ok (.istore 5, 2) := by decide +kernel
theorem dL_segments_196 : decode cL_segments 196 = .ok (.iload 5, 2) := by decide +kernel
theorem dL_segments_198 : decode cL_segments 198 = .ok (.bipush (-4), 2) := by decide +kernel
theorem dL_segments_200 : decode cL_segments 200 = .ok (.if_icmp .ne 38, 3) := by decide +kernel
theorem dL_segments_203 : decode cL_segments 203 = .ok (.aload_n 0, 1) := by decide +kernel
theorem dL_segments_204 : decode cL_segments 204 = .ok (.bipush 16, 2) := by decide +kernel
theorem dL_segments_206 : decode cL_segments 206 = .ok (.invokevirtual 9, 3) := by decide +kernel
theorem dL_segments_209 : decode cL_segments 209 = .ok (.ifCond .eq 21, 3) := by decide +kernel
theorem dL_segments_212 : decode cL_segments 212 = .ok (.aload_n 0, 1) := by decide +kernel
theorem dL_segments_213 : decode cL_segments 213 = .ok (.aload_n 0, 1) := by decide +kernel
theorem dL_segments_214 : decode cL_segments 214 = .ok (.bipush 16, 2) := by decide +kernel
theorem dL_segments_216 : decode cL_segments 216 = .ok (.invokevirtual 9, 3) := by decide +kernel
theorem dL_segments_219 : decode cL_segments 219 = .ok (.iconst 1, 1) := by decide +kernel
theorem dL_segments_220 : decode cL_segments 220 = .ok (.isub, 1) := by decide +kernel
theorem dL_segments_221 : decode cL_segments 221 = .ok (.iconst 1, 1) := by decide +kernel
theorem dL_segments_222 : decode cL_segments 222 = .ok (.invokevirtual 29, 3) := by decide +kernel
theorem dL_segments_225 : decode cL_segments 225 = .ok (.iload 4, 2) := by decide +kernel
theorem dL_segments_227 : decode cL_segments 227 = .ok (.if_icmp .gt 7, 3) := by decide +kernel
theorem dL_segments_230 : decode cL_segments 230 = .ok (.iconst 1, 1) := by decide +kernel
theorem dL_segments_231 : decode cL_segments 231 = .ok (.goto 36, 3) := by decide +kernel
theorem dL_segments_234 : decode cL_segments 234 = .ok (.iconst 0, 1) := by decide +kernel
theorem dL_segments_235 : decode cL_segments 235 = .ok (.goto 32, 3) := by decide +kernel
theorem dL_segments_238 : decode cL_segments 238 = .ok (.aload_n 0, 1) := by decide +kernel
theorem dL_segments_239 : decode cL_segments 239 = .ok (.iload 5, 2) := by decide +kernel
theorem dL_segments_241 : decode cL_segments 241 = .ok (.iconst 1, 1) := by decide +kernel
theorem dL_segments_242 : decode cL_segments 242 = .ok (.invokevirtual 29, 3) := by decide +kernel
theorem dL_segments_245 : decode cL_segments 245 = .ok (.iload 4, 2) := by decide +kernel
theorem dL_segments_247 : decode cL_segments 247 = .ok (.if_icmp .le 19, 3) := by decide +kernel
theorem dL_segments_250 : decode cL_segments 250 = .ok (.aload_n 0, 1) := by decide +kernel
theorem dL_segments_251 : decode cL_segments 251 = .ok (.iload 5, 2) := by decide +kernel
theorem dL_segments_253 : decode cL_segments 253 = .ok (.iconst 2, 1) := by decide +kernel
theorem dL_segments_254 : decode cL_segments 254 = .ok (.invokevirtual 29, 3) := by decide +kernel
theorem dL_segments_257 : decode cL_segments 257 = .ok (.iload 4, 2) := by decide +kernel
theorem dL_segments_259 : decode cL_segments 259 = .ok (.if_icmp .gt 7, 3) := by decide +kernel
theorem dL_segments_262 : decode cL_segments 262 = .ok (.iconst 1, 1) := by decide +kernel
theorem dL_segments_263 : decode cL_segments 263 = .ok (.goto 4, 3) := by decide +kernel
theorem dL_segments_266 : decode cL_segments 266 = .ok (.iconst 0, 1) := by decide +kernel
theorem dL_segments_267 : decode cL_segments 267 = .ok (.istore 6, 2) := by decide +kernel
theorem dL_segments_269 : decode cL_segments 269 = .ok (.iload 6, 2) := by decide +kernel
theorem dL_segments_271 : decode cL_segments 271 = .ok (.ifCond .eq 63, 3) := by decide +kernel
theorem dL_segments_274 : decode cL_segments 274 = .ok (.iload_n 2, 1) := by decide +kernel
theorem dL_segments_275 : decode cL_segments 275 = .ok (.aload_n 0, 1) := by decide +kernel
theorem dL_segments_276 : decode cL_segments 276 = .ok (.bipush 9, 2) := by decide +kernel
theorem dL_segments_278 : decode cL_segments 278 = .ok (.invokevirtual 9, 3) := by decide +kernel
theorem dL_segments_281 : decode cL_segments 281 = .ok (.if_icmp .ne 53, 3) := by decide +kernel
theorem dL_segments_284 : decode cL_segments 284 = .ok (.iload_n 3, 1) := by decide +kernel
theorem dL_segments_285 : decode cL_segments 285 = .ok (.aload_n 0, 1) := by decide +kernel
theorem dL_segments_286 : decode cL_segments 286 = .ok (.bipush 10, 2) := by decide +kernel
theorem dL_segments_288 : decode cL_segments 288 = .ok (.invokevirtual 9, 3) := by decide +kernel
theorem dL_segments_291 : decode cL_segments 291 = .ok (.if_icmp .ne 43, 3) := by decide +kernel
theorem dL_segments_294 : decode cL_segments 294 = .ok (.aload_n 0, 1) := by decide +kernel
theorem dL_segments_295 : decode cL_segments 295 = .ok (.iload_n 2, 1) := by decide +kernel
theorem dL_segments_296 : decode cL_segments 296 = .ok (.invokevirtual 37, 3) := by decide +kernel
theorem dL_segments_299 : decode cL_segments 299 = .ok (.bipush (-4), 2) := by decide +kernel
theorem dL_segments_301 : decode cL_segments 301 = .ok (.if_icmp .ne 33, 3) := by decide +kernel
theorem dL_segments_304 : decode cL_segments 304 = .ok (.aload_n 0, 1) := by decide +kernel
theorem dL_segments_305 : decode cL_segments 305 = .ok (.iload_n 2, 1) := by decide +kernel
theorem dL_segments_306 : decode cL_segments 306 = .ok (.iconst 1, 1) := by decide +kernel
theorem dL_segments_307 : decode cL_segments 307 = .ok (.iadd, 1) := by decide +kernel
theorem dL_segments_308 : decode cL_segments 308 = .ok (.invokevirtual 26, 3) := by decide +kernel
theorem dL_segments_311 : decode cL_segments 311 = .ok (.iconst (-1), 1) := by decide +kernel
theorem dL_segments_312 : decode cL_segments 312 = .ok (.if_icmp .ne 22, 3) := by decide +kernel
theorem dL_segments_315 : decode cL_segments 315 = .ok (.aload_n 0, 1) := by decide +kernel
theorem dL_segments_316 : decode cL_segments 316 = .ok (.aload_n 0, 1) := by decide +kernel
theorem dL_segments_317 : decode cL_segments 317 = .ok (.bipush 8, 2) := by decide +kernel
theorem dL_segments_319 : decode cL_segments 319 = .ok (.invokevirtual 9, 3) := by decide +kernel
theorem dL_segments_322 : decode cL_segments 322 = .ok (.iconst 0, 1) := by decide +kernel
theorem dL_segments_323 : decode cL_segments 323 = .ok (.invokevirtual 34, 3) := by decide +kernel
theorem dL_segments_326 : decode cL_segments 326 = .ok (.iconst (-1), 1) := by decide +kernel
theorem dL_segments_327 : decode cL_segments 327 = .ok (.if_icmp .ne 7, 3) := by decide +kernel
theorem dL_segments_330 : decode cL_segments 330 = .ok (.iconst 1, 1) := by decide +kernel
theorem dL_segments_331 : decode cL_segments 331 = .ok (.goto 4, 3) := by decide +kernel
theorem dL_segments_334 : decode cL_segments 334 = .ok (.iconst 0, 1) := by decide +kernel
theorem dL_segments_335 : decode cL_segments 335 = .ok (.ireturn, 1) := by decide +kernel
theorem dL_passes_0 : decode cL_passes 0 = .ok (.aload_n 0, 1) := by decide +kernel
theorem dL_passes_1 : decode cL_passes 1 = .ok (.iload_n 1, 1) := by decide +kernel
theorem dL_passes_2 : decode cL_passes 2 = .ok (.iconst 0, 1) := by decide +kernel
theorem dL_passes_3 : decode cL_passes 3 = .ok (.invokevirtual 46, 3) := by decide +kernel
theorem dL_passes_6 : decode cL_passes 6 = .ok (.istore_n 3, 1) := by decide +kernel
theorem dL_passes_7 : decode cL_passes 7 = .ok (.aload_n 0, 1) := by decide +kernel
theorem dL_passes_8 : decode cL_passes 8 = .ok (.iload_n 1, 1) := by decide +kernel
theorem dL_passes_9 : decode cL_passes 9 = .ok (.iconst 1, 1) := by decide +kernel
theorem dL_passes_10 : decode cL_passes 10 = .ok (.invokevirtual 46, 3) := by decide +kernel
theorem dL_passes_13 : decode cL_passes 13 = .ok (.istore 4, 2) := by decide +kernel
theorem dL_passes_15 : decode cL_passes 15 = .ok (.aload_n 0, 1) := by decide +kernel
theorem dL_passes_16 : decode cL_passes 16 = .ok (.iload_n 1, 1) := by decide +kernel
theorem dL_passes_17 : decode cL_passes 17 = .ok (.iconst 2, 1) := by decide +kernel
theorem dL_passes_18 : decode cL_passes 18 = .ok (.invokevirtual 46, 3) := by decide +kernel
theorem dL_passes_21 : decode cL_passes 21 = .ok (.istore 5, 2) := by decide +kernel
theorem dL_passes_23 : decode cL_passes 23 = .ok (.aload_n 0, 1) := by decide +kernel
theorem dL_passes_24 : decode cL_passes 24 = .ok (.iload_n 1, 1) := by decide +kernel
theorem dL_passes_25 : decode cL_passes 25 = .ok (.bipush 6, 2) := by decide +kernel
theorem dL_passes_27 : decode cL_passes 27 = .ok (.invokevirtual 46, 3) := by decide +kernel
theorem dL_passes_30 : decode cL_passes 30 = .ok (.istore 6, 2) := by decide +kernel
theorem dL_passes_32 : decode cL_passes 32 = .ok (.aload_n 0, 1) := by decide +kernel
theorem dL_passes_33 : decode cL_passes 33 = .ok (.bipush 15, 2) := by decide +kernel
theorem dL_passes_35 : decode cL_passes 35 = .ok (.invokevirtual 9, 3) := by decide +kernel
theorem dL_passes_38 : decode cL_passes 38 = .ok (.istore 7, 2) := by decide +kernel
theorem dL_passes_40 : decode cL_passes 40 = .ok (.aload_n 0, 1) := by decide +kernel
theorem dL_passes_41 : decode cL_passes 41 = .ok (.bipush 18, 2) := by decide +kernel
theorem dL_passes_43 : decode cL_passes 43 = .ok (.invokevirtual 9, 3) := by decide +kernel
theorem dL_passes_46 : decode cL_passes 46 = .ok (.istore 8, 2) := by decide +kernel
theorem dL_passes_48 : decode cL_passes 48 = .ok (.aload_n 0, 1) := by decide +kernel
theorem dL_passes_49 : decode cL_passes 49 = .ok (.iconst 0, 1) := by decide +kernel
theorem dL_passes_50 : decode cL_passes 50 = .ok (.invokevirtual 15, 3) := by decide +kernel
theorem dL_passes_53 : decode cL_passes 53 = .ok (.istore 9, 2) := by decide +kernel
theorem dL_passes_55 : decode cL_passes 55 = .ok (.aload_n 0, 1) := by decide +kernel
theorem dL_passes_56 : decode cL_passes 56 = .ok (.iconst 1, 1) := by decide +kernel
theorem dL_passes_57 : decode cL_passes 57 = .ok (.invokevirtual 15, 3) := by decide +kernel
theorem dL_passes_60 : decode cL_passes 60 = .ok (.istore 10, 2) := by decide +kernel
theorem dL_passes_62 : decode cL_passes 62 = .ok (.aload_n 0, 1) := by decide +kernel
theorem dL_passes_63 : decode cL_passes 63 = .ok (.bipush 20, 2) := by decide +kernel
theorem dL_passes_65 : decode cL_passes 65 = .ok (.invokevirtual 9, 3) := by decide +kernel
theorem dL_passes_68 : decode cL_passes 68 = .ok (.istore 11, 2) := by decide +kernel
theorem dL_passes_70 : decode cL_passes 70 = .ok (.iload 7, 2) := by decide +kernel
theorem dL_passes_72 : decode cL_passes 72 = .ok (.iload_n 2, 1) := by decide +kernel
theorem dL_passes_73 : decode cL_passes 73 = .ok (.bipush 20, 2) := by decide +kernel
theorem dL_passes_75 : decode cL_passes 75 = .ok (.invokestatic 40, 3) := by decide +kernel
theorem dL_passes_78 : decode cL_passes 78 = .ok (.iadd, 1) := by decide +kernel
theorem dL_passes_79 : decode cL_passes 79 = .ok (.istore 12, 2) := by decide +kernel
theorem dL_passes_81 : decode cL_passes 81 = .ok (.aload_n 0, 1) := by decide +kernel
theorem dL_passes_82 : decode cL_passes 82 = .ok (.iload 12, 2) := by decide +kernel
theorem dL_passes_84 : decode cL_passes 84 = .ok (.invokevirtual 49, 3) := by decide +kernel
theorem dL_passes_87 : decode cL_passes 87 = .ok (.istore 13, 2) := by decide +kernel
theorem dL_passes_89 : decode cL_passes 89 = .ok (.aload_n 0, 1) := by decide +kernel
theorem dL_passes_90 : decode cL_passes 90 = .ok (.bipush 18, 2) := by decide +kernel
theorem dL_passes_92 : decode cL_passes 92 = .ok (.invokevirtual 9, 3) := by decide +kernel
theorem dL_passes_95 : decode cL_passes 95 = .ok (.iload 8, 2) := by decide +kernel
theorem dL_passes_97 : decode cL_passes 97 = .ok (.if_icmp .ne 68, 3) := by decide +kernel
theorem dL_passes_100 : decode cL_passes 100 = .ok (.iload_n 3, 1) := by decide +kernel
theorem dL_passes_101 : decode cL_passes 101 = .ok (.iload 7, 2) := by decide +kernel
theorem dL_passes_103 : decode cL_passes 103 = .ok (.if_icmp .lt 62, 3) := by decide +kernel
theorem dL_passes_106 : decode cL_passes 106 = .ok (.iload 4, 2) := by decide +kernel
theorem dL_passes_108 : decode cL_passes 108 = .ok (.aload_n 0, 1) := by decide +kernel
theorem dL_passes_109 : decode cL_passes 109 = .ok (.bipush 10, 2) := by decide +kernel
theorem dL_passes_111 : decode cL_passes 111 = .ok (.invokevirtual 9, 3) := by decide +kernel
theorem dL_passes_114 : decode cL_passes 114 = .ok (.if_icmp .lt 51, 3) := by decide +kernel
theorem dL_passes_117 : decode cL_passes 117 = .ok (.iload 6, 2) := by decide +kernel
theorem dL_passes_119 : decode cL_passes 119 = .ok (.ifCond .lt 46, 3) := by decide +kernel
theorem dL_passes_122 : decode cL_passes 122 = .ok (.iload 6, 2) := by decide +kernel
theorem dL_passes_124 : decode cL_passes 124 = .ok (.iload_n 1, 1) := by decide +kernel
theorem dL_passes_125 : decode cL_passes 125 = .ok (.if_icmp .gt 40, 3) := by decide +kernel
theorem dL_passes_128 : decode cL_passes 128 = .ok (.iload 13, 2) := by decide +kernel
theorem dL_passes_130 : decode cL_passes 130 = .ok (.ifCond .ne 7, 3) := by decide +kernel
theorem dL_passes_133 : decode cL_passes 133 = .ok (.iconst 1, 1) := by decide +kernel
theorem dL_passes_134 : decode cL_passes 134 = .ok (.goto 4, 3) := by decide +kernel
theorem dL_passes_137 : decode cL_passes 137 = .ok (.iconst 0, 1) := by decide +kernel
theorem dL_passes_138 : decode cL_passes 138 = .ok (.iload 12, 2) := by decide +kernel
theorem dL_passes_140 : decode cL_passes 140 = .ok (.iload 7, 2) := by decide +kernel
theorem dL_passes_142 : decode cL_passes 142 = .ok (.if_icmp .ne 7, 3) := by decide +kernel
theorem dL_passes_145 : decode cL_passes 145 = .ok (.iconst 1, 1) := by decide +kernel
theorem dL_passes_146 : decode cL_passes 146 = .ok (.goto 4, 3) := by decide +kernel
theorem dL_passes_149 : decode cL_passes 149 = .ok (.iconst 0, 1) := by decide +kernel
theorem dL_passes_150 : decode cL_passes 150 = .ok (.if_icmp .ne 15, 3) := by decide +kernel
theorem dL_passes_153 : decode cL_passes 153 = .ok (.iload 13, 2) := by decide +kernel
theorem dL_passes_155 : decode cL_passes 155 = .ok (.ifCond .ge 12, 3) := by decide +kernel
theorem dL_passes_158 : decode cL_passes 158 = .ok (.iload 13, 2) := by decide +kernel
theorem dL_passes_160 : decode cL_passes 160 = .ok (.bipush (-4), 2) := by decide +kernel
theorem dL_passes_162 : decode cL_passes 162 = .ok (.if_icmp .eq 5, 3) := by decide +kernel
theorem dL_passes_165 : decode cL_passes 165 = .ok (.iconst 0, 1) := by decide +kernel
theorem dL_passes_166 : decode cL_passes 166 = .ok (.ireturn, 1) := by decide +kernel
theorem dL_passes_167 : decode cL_passes 167 = .ok (.iload 13, 2) := by decide +kernel
theorem dL_passes_169 : decode cL_passes 169 = .ok (.ifCond .le 45, 3) := by decide +kernel
theorem dL_passes_172 : decode cL_passes 172 = .ok (.iload 13, 2) := by decide +kernel
theorem dL_passes_174 : decode cL_passes 174 = .ok (.sipush 1001, 3) := by decide +kernel
theorem dL_passes_177 : decode cL_passes 177 = .ok (.if_icmp .ge 37, 3) := by decide +kernel
theorem dL_passes_180 : decode cL_passes 180 = .ok (.aload_n 0, 1) := by decide +kernel
theorem dL_passes_181 : decode cL_passes 181 = .ok (.iload 13, 2) := by decide +kernel
theorem dL_passes_183 : decode cL_passes 183 = .ok (.iconst 0, 1) := by decide +kernel
theorem dL_passes_184 : decode cL_passes 184 = .ok (.invokevirtual 46, 3) := by decide +kernel
theorem dL_passes_187 : decode cL_passes 187 = .ok (.iload 12, 2) := by decide +kernel
theorem dL_passes_189 : decode cL_passes 189 = .ok (.if_icmp .lt 23, 3) := by decide +kernel
theorem dL_passes_192 : decode cL_passes 192 = .ok (.iload 13, 2) := by decide +kernel
theorem dL_passes_194 : decode cL_passes 194 = .ok (.iconst 1, 1) := by decide +kernel
theorem dL_passes_195 : decode cL_passes 195 = .ok (.if_icmp .le 19, 3) := by decide +kernel
theorem dL_passes_198 : decode cL_passes 198 = .ok (.aload_n 0, 1) := by decide +kernel
theorem dL_passes_199 : decode cL_passes 199 = .ok (.iload 13, 2) := by decide +kernel
theorem dL_passes_201 : decode cL_passes 201 = .ok (.iconst 1, 1) := by decide +kernel
theorem dL_passes_202 : decode cL_passes 202 = .ok (.isub, 1) := by decide +kernel
theorem dL_passes_203 : decode cL_passes 203 = .ok (.iconst 0, 1) := by decide +kernel
theorem dL_passes_204 : decode cL_passes 204 = .ok (.invokevirtual 46, 3) := by decide +kernel
theorem dL_passes_207 : decode cL_passes 207 = .ok (.iload 12, 2) := by decide +kernel
theorem dL_passes_209 : decode cL_passes 209 = .ok (.if_icmp .lt 5, 3) := by decide +kernel
theorem dL_passes_212 : decode cL_passes 212 = .ok (.iconst 0, 1) := by decide +kernel
theorem dL_passes_213 : decode cL_passes 213 = .ok (.ireturn, 1) := by decide +kernel
theorem dL_passes_214 : decode cL_passes 214 = .ok (.aload_n 0, 1) := by decide +kernel
theorem dL_passes_215 : decode cL_passes 215 = .ok (.iload_n 1, 1) := by decide +kernel
theorem dL_passes_216 : decode cL_passes 216 = .ok (.invokevirtual 52, 3) := by decide +kernel
theorem dL_passes_219 : decode cL_passes 219 = .ok (.iload_n 3, 1) := by decide +kernel
theorem dL_passes_220 : decode cL_passes 220 = .ok (.if_icmp .ne 81, 3) := by decide +kernel
theorem dL_passes_223 : decode cL_passes 223 = .ok (.aload_n 0, 1) := by decide +kernel
theorem dL_passes_224 : decode cL_passes 224 = .ok (.bipush 15, 2) := by decide +kernel
theorem dL_passes_226 : decode cL_passes 226 = .ok (.invokevirtual 9, 3) := by decide +kernel
theorem dL_passes_229 : decode cL_passes 229 = .ok (.iload_n 3, 1) := by decide +kernel
theorem dL_passes_230 : decode cL_passes 230 = .ok (.if_icmp .ne 71, 3) := by decide +kernel
theorem dL_passes_233 : decode cL_passes 233 = .ok (.aload_n 0, 1) := by decide +kernel
theorem dL_passes_234 : decode cL_passes 234 = .ok (.bipush 10, 2) := by decide +kernel
theorem dL_passes_236 : decode cL_passes 236 = .ok (.invokevirtual 9, 3) := by decide +kernel
theorem dL_passes_239 : decode cL_passes 239 = .ok (.iload 4, 2) := by decide +kernel
theorem dL_passes_241 : decode cL_passes 241 = .ok (.if_icmp .ne 60, 3) := by decide +kernel
theorem dL_passes_244 : decode cL_passes 244 = .ok (.aload_n 0, 1) := by decide +kernel
theorem dL_passes_245 : decode cL_passes 245 = .ok (.iconst 1, 1) := by decide +kernel
theorem dL_passes_246 : decode cL_passes 246 = .ok (.invokevirtual 15, 3) := by decide +kernel
theorem dL_passes_249 : decode cL_passes 249 = .ok (.iload 10, 2) := by decide +kernel
theorem dL_passes_251 : decode cL_passes 251 = .ok (.iload 5, 2) := by decide +kernel
theorem dL_passes_253 : decode cL_passes 253 = .ok (.iadd, 1) := by decide +kernel
theorem dL_passes_254 : decode cL_passes 254 = .ok (.if_icmp .ne 47, 3) := by decide +kernel
theorem dL_passes_257 : decode cL_passes 257 = .ok (.aload_n 0, 1) := by decide +kernel
theorem dL_passes_258 : decode cL_passes 258 = .ok (.bipush 18, 2) := by decide +kernel
theorem dL_passes_260 : decode cL_passes 260 = .ok (.invokevirtual 9, 3) := by decide +kernel
theorem dL_passes_263 : decode cL_passes 263 = .ok (.iload 8, 2) := by decide +kernel
theorem dL_passes_265 : decode cL_passes 265 = .ok (.iload_n 1, 1) := by decide +kernel
theorem dL_passes_266 : decode cL_passes 266 = .ok (.iadd, 1) := by decide +kernel
theorem dL_passes_267 : decode cL_passes 267 = .ok (.if_icmp .ne 34, 3) := by decide +kernel
theorem dL_passes_270 : decode cL_passes 270 = .ok (.aload_n 0, 1) := by decide +kernel
theorem dL_passes_271 : decode cL_passes 271 = .ok (.bipush 20, 2) := by decide +kernel
theorem dL_passes_273 : decode cL_passes 273 = .ok (.invokevirtual 9, 3) := by decide +kernel
theorem dL_passes_276 : decode cL_passes 276 = .ok (.iload 11, 2) := by decide +kernel
theorem dL_passes_278 : decode cL_passes 278 = .ok (.iload 6, 2) := by decide +kernel
theorem dL_passes_280 : decode cL_passes 280 = .ok (.iadd, 1) := by decide +kernel
theorem dL_passes_281 : decode cL_passes 281 = .ok (.if_icmp .ne 20, 3) := by decide +kernel
theorem dL_passes_284 : decode cL_passes 284 = .ok (.aload_n 0, 1) := by decide +kernel
theorem dL_passes_285 : decode cL_passes 285 = .ok (.iconst 0, 1) := by decide +kernel
theorem dL_passes_286 : decode cL_passes 286 = .ok (.invokevirtual 15, 3) := by decide +kernel
theorem dL_passes_289 : decode cL_passes 289 = .ok (.iload 9, 2) := by decide +kernel
theorem dL_passes_291 : decode cL_passes 291 = .ok (.if_icmp .lt 10, 3) := by decide +kernel
theorem dL_passes_294 : decode cL_passes 294 = .ok (.aload_n 0, 1) := by decide +kernel
theorem dL_passes_295 : decode cL_passes 295 = .ok (.invokestatic 55, 3) := by decide +kernel
theorem dL_passes_298 : decode cL_passes 298 = .ok (.ifCond .ne 5, 3) := by decide +kernel
theorem dL_passes_301 : decode cL_passes 301 = .ok (.iconst 0, 1) := by decide +kernel
theorem dL_passes_302 : decode cL_passes 302 = .ok (.ireturn, 1) := by decide +kernel
theorem dL_passes_303 : decode cL_passes 303 = .ok (.iload_n 2, 1) := by decide +kernel
theorem dL_passes_304 : decode cL_passes 304 = .ok (.bipush 8, 2) := by decide +kernel
theorem dL_passes_306 : decode cL_passes 306 = .ok (.ishr, 1) := by decide +kernel
theorem dL_passes_307 : decode cL_passes 307 = .ok (.iconst 3, 1) := by decide +kernel
theorem dL_passes_308 : decode cL_passes 308 = .ok (.invokestatic 40, 3) := by decide +kernel
theorem dL_passes_311 : decode cL_passes 311 = .ok (.ifCond .ne 53, 3) := by decide +kernel
theorem dL_passes_314 : decode cL_passes 314 = .ok (.aload_n 0, 1) := by decide +kernel
theorem dL_passes_315 : decode cL_passes 315 = .ok (.invokevirtual 59, 3) := by decide +kernel
theorem dL_passes_318 : decode cL_passes 318 = .ok (.ifCond .lt 44, 3) := by decide +kernel
theorem dL_passes_321 : decode cL_passes 321 = .ok (.aload_n 0, 1) := by decide +kernel
theorem dL_passes_322 : decode cL_passes 322 = .ok (.bipush 18, 2) := by decide +kernel
theorem dL_passes_324 : decode cL_passes 324 = .ok (.invokevirtual 9, 3) := by decide +kernel
theorem dL_passes_327 : decode cL_passes 327 = .ok (.iload 8, 2) := by decide +kernel
theorem dL_passes_329 : decode cL_passes 329 = .ok (.if_icmp .ne 33, 3) := by decide +kernel
theorem dL_passes_332 : decode cL_passes 332 = .ok (.aload_n 0, 1) := by decide +kernel
theorem dL_passes_333 : decode cL_passes 333 = .ok (.bipush 15, 2) := by decide +kernel
theorem dL_passes_335 : decode cL_passes 335 = .ok (.invokevirtual 9, 3) := by decide +kernel
theorem dL_passes_338 : decode cL_passes 338 = .ok (.iload 7, 2) := by decide +kernel
theorem dL_passes_340 : decode cL_passes 340 = .ok (.if_icmp .ne 22, 3) := by decide +kernel
theorem dL_passes_343 : decode cL_passes 343 = .ok (.aload_n 0, 1) := by decide +kernel
theorem dL_passes_344 : decode cL_passes 344 = .ok (.iconst 0, 1) := by decide +kernel
theorem dL_passes_345 : decode cL_passes 345 = .ok (.invokevirtual 15, 3) := by decide +kernel
theorem dL_passes_348 : decode cL_passes 348 = .ok (.iload 9, 2) := by decide +kernel
theorem dL_passes_350 : decode cL_passes 350 = .ok (.if_icmp .ne 12, 3) := by decide +kernel
theorem dL_passes_353 : decode cL_passes 353 = .ok (.aload_n 0, 1) := by decide +kernel
theorem dL_passes_354 : decode cL_passes 354 = .ok (.iload_n 1, 1) := by decide +kernel
theorem dL_passes_355 : decode cL_passes 355 = .ok (.invokevirtual 52, 3) := by decide +kernel
theorem dL_passes_358 : decode cL_passes 358 = .ok (.iload_n 3, 1) := by decide +kernel
theorem dL_passes_359 : decode cL_passes 359 = .ok (.if_icmp .eq 5, 3) := by decide +kernel
theorem dL_passes_362 : decode cL_passes 362 = .ok (.iconst 0, 1) := by decide +kernel
theorem dL_passes_363 : decode cL_passes 363 = .ok (.ireturn, 1) := by decide +kernel
theorem dL_passes_364 : decode cL_passes 364 = .ok (.aload_n 0, 1) := by decide +kernel
theorem dL_passes_365 : decode cL_passes 365 = .ok (.bipush 19, 2) := by decide +kernel
theorem dL_passes_367 : decode cL_passes 367 = .ok (.invokevirtual 9, 3) := by decide +kernel
theorem dL_passes_370 : decode cL_passes 370 = .ok (.ifCond .eq 8, 3) := by decide +kernel
theorem dL_passes_373 : decode cL_passes 373 = .ok (.iload 6, 2) := by decide +kernel
theorem dL_passes_375 : decode cL_passes 375 = .ok (.ifCond .le 32, 3) := by decide +kernel
theorem dL_passes_378 : decode cL_passes 378 = .ok (.aload_n 0, 1) := by decide +kernel
theorem dL_passes_379 : decode cL_passes 379 = .ok (.bipush 19, 2) := by decide +kernel
theorem dL_passes_381 : decode cL_passes 381 = .ok (.invokevirtual 9, 3) := by decide +kernel
theorem dL_passes_384 : decode cL_passes 384 = .ok (.iconst 1, 1) := by decide +kernel
theorem dL_passes_385 : decode cL_passes 385 = .ok (.if_icmp .ne 18, 3) := by decide +kernel
theorem dL_passes_388 : decode cL_passes 388 = .ok (.aload_n 0, 1) := by decide +kernel
theorem dL_passes_389 : decode cL_passes 389 = .ok (.bipush 10, 2) := by decide +kernel
theorem dL_passes_391 : decode cL_passes 391 = .ok (.invokevirtual 9, 3) := by decide +kernel
theorem dL_passes_394 : decode cL_passes 394 = .ok (.aload_n 0, 1) := by decide +kernel
theorem dL_passes_395 : decode cL_passes 395 = .ok (.bipush 9, 2) := by decide +kernel
theorem dL_passes_397 : decode cL_passes 397 = .ok (.invokevirtual 9, 3) := by decide +kernel
theorem dL_passes_400 : decode cL_passes 400 = .ok (.if_icmp .ne 7, 3) := by decide +kernel
theorem dL_passes_403 : decode cL_passes 403 = .ok (.iconst 1, 1) := by decide +kernel
theorem dL_passes_404 : decode cL_passes 404 = .ok (.goto 4, 3) := by decide +kernel
theorem dL_passes_407 : decode cL_passes 407 = .ok (.iconst 0, 1) := by decide +kernel
theorem dL_passes_408 : decode cL_passes 408 = .ok (.ireturn, 1) := by decide +kernel
theorem dL_flows_0 : decode cL_flows 0 = .ok (.iconst 1, 1) := by decide +kernel
theorem dL_flows_1 : decode cL_flows 1 = .ok (.iload_n 1, 1) := by decide +kernel
theorem dL_flows_2 : decode cL_flows 2 = .ok (.bipush 10, 2) := by decide +kernel
theorem dL_flows_4 : decode cL_flows 4 = .ok (.invokestatic 40, 3) := by decide +kernel
theorem dL_flows_7 : decode cL_flows 7 = .ok (.iadd, 1) := by decide +kernel
theorem dL_flows_8 : decode cL_flows 8 = .ok (.istore_n 2, 1) := by decide +kernel
theorem dL_flows_9 : decode cL_flows 9 = .ok (.aload_n 0, 1) := by decide +kernel
theorem dL_flows_10 : decode cL_flows 10 = .ok (.iload_n 2, 1) := by decide +kernel
theorem dL_flows_11 : decode cL_flows 11 = .ok (.invokevirtual 62, 3) := by decide +kernel
theorem dL_flows_14 : decode cL_flows 14 = .ok (.istore_n 3, 1) := by decide +kernel
theorem dL_flows_15 : decode cL_flows 15 = .ok (.aload_n 0, 1) := by decide +kernel
theorem dL_flows_16 : decode cL_flows 16 = .ok (.iconst 3, 1) := by decide +kernel
theorem dL_flows_17 : decode cL_flows 17 = .ok (.invokevirtual 9, 3) := by decide +kernel
theorem dL_flows_20 : decode cL_flows 20 = .ok (.istore 4, 2) := by decide +kernel
theorem dL_flows_22 : decode cL_flows 22 = .ok (.bipush 10, 2) := by decide +kernel
theorem dL_flows_24 : decode cL_flows 24 = .ok (.iconst 1, 1) := by decide +kernel
theorem dL_flows_25 : decode cL_flows 25 = .ok (.iload_n 1, 1) := by decide +kernel
theorem dL_flows_26 : decode cL_flows 26 = .ok (.iconst 4, 1) := by decide +kernel
theorem dL_flows_27 : decode cL_flows 27 = .ok (.ishr, 1) := by decide +kernel
theorem dL_flows_28 : decode cL_flows 28 = .ok (.bipush 50, 2) := by decide +kernel
theorem dL_flows_30 : decode cL_flows 30 = .ok (.invokestatic 40, 3) := by decide +kernel
theorem dL_flows_33 : decode cL_flows 33 = .ok (.iadd, 1) := by decide +kernel
theorem dL_flows_34 : decode cL_flows 34 = .ok (.imul, 1) := by decide +kernel
theorem dL_flows_35 : decode cL_flows 35 = .ok (.istore 5, 2) := by decide +kernel
theorem dL_flows_37 : decode cL_flows 37 = .ok (.iload_n 3, 1) := by decide +kernel
theorem dL_flows_38 : decode cL_flows 38 = .ok (.bipush 10, 2) := by decide +kernel
theorem dL_flows_40 : decode cL_flows 40 = .ok (.if_icmp .lt 28, 3) := by decide +kernel
theorem dL_flows_43 : decode cL_flows 43 = .ok (.iload_n 3, 1) := by decide +kernel
theorem dL_flows_44 : decode cL_flows 44 = .ok (.sipush 500, 3) := by decide +kernel
theorem dL_flows_47 : decode cL_flows 47 = .ok (.if_icmp .gt 21, 3) := by decide +kernel
theorem dL_flows_50 : decode cL_flows 50 = .ok (.iload_n 3, 1) := by decide +kernel
theorem dL_flows_51 : decode cL_flows 51 = .ok (.bipush 10, 2) := by decide +kernel
theorem dL_flows_53 : decode cL_flows 53 = .ok (.irem, 1) := by decide +kernel
theorem dL_flows_54 : decode cL_flows 54 = .ok (.ifCond .ne 14, 3) := by decide +kernel
