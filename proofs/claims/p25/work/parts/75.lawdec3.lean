theorem dL_flows_57 : decode cL_flows 57 = .ok (.aload_n 0, 1) := by decide +kernel
theorem dL_flows_58 : decode cL_flows 58 = .ok (.iconst 3, 1) := by decide +kernel
theorem dL_flows_59 : decode cL_flows 59 = .ok (.iload_n 3, 1) := by decide +kernel
theorem dL_flows_60 : decode cL_flows 60 = .ok (.invokevirtual 65, 3) := by decide +kernel
theorem dL_flows_63 : decode cL_flows 63 = .ok (.iload 4, 2) := by decide +kernel
theorem dL_flows_65 : decode cL_flows 65 = .ok (.if_icmp .eq 5, 3) := by decide +kernel
theorem dL_flows_68 : decode cL_flows 68 = .ok (.iconst 0, 1) := by decide +kernel
theorem dL_flows_69 : decode cL_flows 69 = .ok (.ireturn, 1) := by decide +kernel
theorem dL_flows_70 : decode cL_flows 70 = .ok (.aload_n 0, 1) := by decide +kernel
theorem dL_flows_71 : decode cL_flows 71 = .ok (.iload_n 2, 1) := by decide +kernel
theorem dL_flows_72 : decode cL_flows 72 = .ok (.iconst 2, 1) := by decide +kernel
theorem dL_flows_73 : decode cL_flows 73 = .ok (.invokevirtual 46, 3) := by decide +kernel
theorem dL_flows_76 : decode cL_flows 76 = .ok (.istore 6, 2) := by decide +kernel
theorem dL_flows_78 : decode cL_flows 78 = .ok (.aload_n 0, 1) := by decide +kernel
theorem dL_flows_79 : decode cL_flows 79 = .ok (.iconst 3, 1) := by decide +kernel
theorem dL_flows_80 : decode cL_flows 80 = .ok (.iload 5, 2) := by decide +kernel
theorem dL_flows_82 : decode cL_flows 82 = .ok (.invokevirtual 65, 3) := by decide +kernel
theorem dL_flows_85 : decode cL_flows 85 = .ok (.iload_n 3, 1) := by decide +kernel
theorem dL_flows_86 : decode cL_flows 86 = .ok (.if_icmp .eq 5, 3) := by decide +kernel
theorem dL_flows_89 : decode cL_flows 89 = .ok (.iconst 0, 1) := by decide +kernel
theorem dL_flows_90 : decode cL_flows 90 = .ok (.ireturn, 1) := by decide +kernel
theorem dL_flows_91 : decode cL_flows 91 = .ok (.aload_n 0, 1) := by decide +kernel
theorem dL_flows_92 : decode cL_flows 92 = .ok (.iload_n 2, 1) := by decide +kernel
theorem dL_flows_93 : decode cL_flows 93 = .ok (.iconst 2, 1) := by decide +kernel
theorem dL_flows_94 : decode cL_flows 94 = .ok (.invokevirtual 46, 3) := by decide +kernel
theorem dL_flows_97 : decode cL_flows 97 = .ok (.istore 7, 2) := by decide +kernel
theorem dL_flows_99 : decode cL_flows 99 = .ok (.iload 7, 2) := by decide +kernel
theorem dL_flows_101 : decode cL_flows 101 = .ok (.iload 6, 2) := by decide +kernel
theorem dL_flows_103 : decode cL_flows 103 = .ok (.if_icmp .gt 44, 3) := by decide +kernel
theorem dL_flows_106 : decode cL_flows 106 = .ok (.iload 5, 2) := by decide +kernel
theorem dL_flows_108 : decode cL_flows 108 = .ok (.iload_n 3, 1) := by decide +kernel
theorem dL_flows_109 : decode cL_flows 109 = .ok (.if_icmp .ge 10, 3) := by decide +kernel
theorem dL_flows_112 : decode cL_flows 112 = .ok (.iload 7, 2) := by decide +kernel
theorem dL_flows_114 : decode cL_flows 114 = .ok (.iload 6, 2) := by decide +kernel
theorem dL_flows_116 : decode cL_flows 116 = .ok (.if_icmp .ge 31, 3) := by decide +kernel
theorem dL_flows_119 : decode cL_flows 119 = .ok (.aload_n 0, 1) := by decide +kernel
theorem dL_flows_120 : decode cL_flows 120 = .ok (.invokevirtual 59, 3) := by decide +kernel
theorem dL_flows_123 : decode cL_flows 123 = .ok (.ifCond .lt 24, 3) := by decide +kernel
theorem dL_flows_126 : decode cL_flows 126 = .ok (.aload_n 0, 1) := by decide +kernel
theorem dL_flows_127 : decode cL_flows 127 = .ok (.invokevirtual 59, 3) := by decide +kernel
theorem dL_flows_130 : decode cL_flows 130 = .ok (.ifCond .lt 17, 3) := by decide +kernel
theorem dL_flows_133 : decode cL_flows 133 = .ok (.aload_n 0, 1) := by decide +kernel
theorem dL_flows_134 : decode cL_flows 134 = .ok (.iconst 3, 1) := by decide +kernel
theorem dL_flows_135 : decode cL_flows 135 = .ok (.invokevirtual 9, 3) := by decide +kernel
theorem dL_flows_138 : decode cL_flows 138 = .ok (.iload 4, 2) := by decide +kernel
theorem dL_flows_140 : decode cL_flows 140 = .ok (.if_icmp .ne 7, 3) := by decide +kernel
theorem dL_flows_143 : decode cL_flows 143 = .ok (.iconst 1, 1) := by decide +kernel
theorem dL_flows_144 : decode cL_flows 144 = .ok (.goto 4, 3) := by decide +kernel
theorem dL_flows_147 : decode cL_flows 147 = .ok (.iconst 0, 1) := by decide +kernel
theorem dL_flows_148 : decode cL_flows 148 = .ok (.ireturn, 1) := by decide +kernel
theorem dL_refuses_0 : decode cL_refuses 0 = .ok (.aload_n 0, 1) := by decide +kernel
theorem dL_refuses_1 : decode cL_refuses 1 = .ok (.bipush 22, 2) := by decide +kernel
theorem dL_refuses_3 : decode cL_refuses 3 = .ok (.invokevirtual 9, 3) := by decide +kernel
theorem dL_refuses_6 : decode cL_refuses 6 = .ok (.istore_n 1, 1) := by decide +kernel
theorem dL_refuses_7 : decode cL_refuses 7 = .ok (.aload_n 0, 1) := by decide +kernel
theorem dL_refuses_8 : decode cL_refuses 8 = .ok (.bipush 18, 2) := by decide +kernel
theorem dL_refuses_10 : decode cL_refuses 10 = .ok (.invokevirtual 9, 3) := by decide +kernel
theorem dL_refuses_13 : decode cL_refuses 13 = .ok (.istore_n 2, 1) := by decide +kernel
theorem dL_refuses_14 : decode cL_refuses 14 = .ok (.aload_n 0, 1) := by decide +kernel
theorem dL_refuses_15 : decode cL_refuses 15 = .ok (.iconst 3, 1) := by decide +kernel
theorem dL_refuses_16 : decode cL_refuses 16 = .ok (.iconst 1, 1) := by decide +kernel
theorem dL_refuses_17 : decode cL_refuses 17 = .ok (.bipush 60, 2) := by decide +kernel
theorem dL_refuses_19 : decode cL_refuses 19 = .ok (.iconst 0, 1) := by decide +kernel
theorem dL_refuses_20 : decode cL_refuses 20 = .ok (.invokevirtual 68, 3) := by decide +kernel
theorem dL_refuses_23 : decode cL_refuses 23 = .ok (.iconst (-1), 1) := by decide +kernel
theorem dL_refuses_24 : decode cL_refuses 24 = .ok (.if_icmp .ne 172, 3) := by decide +kernel
theorem dL_refuses_27 : decode cL_refuses 27 = .ok (.aload_n 0, 1) := by decide +kernel
theorem dL_refuses_28 : decode cL_refuses 28 = .ok (.iconst 0, 1) := by decide +kernel
theorem dL_refuses_29 : decode cL_refuses 29 = .ok (.iconst 0, 1) := by decide +kernel
theorem dL_refuses_30 : decode cL_refuses 30 = .ok (.bipush 60, 2) := by decide +kernel
theorem dL_refuses_32 : decode cL_refuses 32 = .ok (.iconst 0, 1) := by decide +kernel
theorem dL_refuses_33 : decode cL_refuses 33 = .ok (.invokevirtual 68, 3) := by decide +kernel
theorem dL_refuses_36 : decode cL_refuses 36 = .ok (.iconst (-1), 1) := by decide +kernel
theorem dL_refuses_37 : decode cL_refuses 37 = .ok (.if_icmp .ne 159, 3) := by decide +kernel
theorem dL_refuses_40 : decode cL_refuses 40 = .ok (.aload_n 0, 1) := by decide +kernel
theorem dL_refuses_41 : decode cL_refuses 41 = .ok (.iconst 0, 1) := by decide +kernel
theorem dL_refuses_42 : decode cL_refuses 42 = .ok (.iconst 1, 1) := by decide +kernel
theorem dL_refuses_43 : decode cL_refuses 43 = .ok (.bipush 93, 2) := by decide +kernel
theorem dL_refuses_45 : decode cL_refuses 45 = .ok (.iconst 0, 1) := by decide +kernel
theorem dL_refuses_46 : decode cL_refuses 46 = .ok (.invokevirtual 68, 3) := by decide +kernel
theorem dL_refuses_49 : decode cL_refuses 49 = .ok (.iconst (-1), 1) := by decide +kernel
theorem dL_refuses_50 : decode cL_refuses 50 = .ok (.if_icmp .ne 146, 3) := by decide +kernel
theorem dL_refuses_53 : decode cL_refuses 53 = .ok (.aload_n 0, 1) := by decide +kernel
theorem dL_refuses_54 : decode cL_refuses 54 = .ok (.iconst 1, 1) := by decide +kernel
theorem dL_refuses_55 : decode cL_refuses 55 = .ok (.iconst 1, 1) := by decide +kernel
theorem dL_refuses_56 : decode cL_refuses 56 = .ok (.iconst 0, 1) := by decide +kernel
theorem dL_refuses_57 : decode cL_refuses 57 = .ok (.iconst 1, 1) := by decide +kernel
theorem dL_refuses_58 : decode cL_refuses 58 = .ok (.invokevirtual 68, 3) := by decide +kernel
theorem dL_refuses_61 : decode cL_refuses 61 = .ok (.iconst (-1), 1) := by decide +kernel
theorem dL_refuses_62 : decode cL_refuses 62 = .ok (.if_icmp .ne 134, 3) := by decide +kernel
theorem dL_refuses_65 : decode cL_refuses 65 = .ok (.aload_n 0, 1) := by decide +kernel
theorem dL_refuses_66 : decode cL_refuses 66 = .ok (.iconst 2, 1) := by decide +kernel
theorem dL_refuses_67 : decode cL_refuses 67 = .ok (.iconst 1, 1) := by decide +kernel
theorem dL_refuses_68 : decode cL_refuses 68 = .ok (.bipush 60, 2) := by decide +kernel
theorem dL_refuses_70 : decode cL_refuses 70 = .ok (.bipush 101, 2) := by decide +kernel
theorem dL_refuses_72 : decode cL_refuses 72 = .ok (.invokevirtual 68, 3) := by decide +kernel
theorem dL_refuses_75 : decode cL_refuses 75 = .ok (.iconst (-1), 1) := by decide +kernel
theorem dL_refuses_76 : decode cL_refuses 76 = .ok (.if_icmp .ne 120, 3) := by decide +kernel
theorem dL_refuses_79 : decode cL_refuses 79 = .ok (.aload_n 0, 1) := by decide +kernel
theorem dL_refuses_80 : decode cL_refuses 80 = .ok (.iconst (-1), 1) := by decide +kernel
theorem dL_refuses_81 : decode cL_refuses 81 = .ok (.iconst 0, 1) := by decide +kernel
theorem dL_refuses_82 : decode cL_refuses 82 = .ok (.invokevirtual 34, 3) := by decide +kernel
theorem dL_refuses_85 : decode cL_refuses 85 = .ok (.iconst (-1), 1) := by decide +kernel
theorem dL_refuses_86 : decode cL_refuses 86 = .ok (.if_icmp .ne 110, 3) := by decide +kernel
theorem dL_refuses_89 : decode cL_refuses 89 = .ok (.aload_n 0, 1) := by decide +kernel
theorem dL_refuses_90 : decode cL_refuses 90 = .ok (.iconst 0, 1) := by decide +kernel
theorem dL_refuses_91 : decode cL_refuses 91 = .ok (.bipush 6, 2) := by decide +kernel
theorem dL_refuses_93 : decode cL_refuses 93 = .ok (.invokevirtual 34, 3) := by decide +kernel
theorem dL_refuses_96 : decode cL_refuses 96 = .ok (.iconst (-1), 1) := by decide +kernel
theorem dL_refuses_97 : decode cL_refuses 97 = .ok (.if_icmp .ne 99, 3) := by decide +kernel
theorem dL_refuses_100 : decode cL_refuses 100 = .ok (.aload_n 0, 1) := by decide +kernel
theorem dL_refuses_101 : decode cL_refuses 101 = .ok (.iconst (-1), 1) := by decide +kernel
theorem dL_refuses_102 : decode cL_refuses 102 = .ok (.invokevirtual 37, 3) := by decide +kernel
theorem dL_refuses_105 : decode cL_refuses 105 = .ok (.iconst (-1), 1) := by decide +kernel
theorem dL_refuses_106 : decode cL_refuses 106 = .ok (.if_icmp .ne 90, 3) := by decide +kernel
theorem dL_refuses_109 : decode cL_refuses 109 = .ok (.aload_n 0, 1) := by decide +kernel
theorem dL_refuses_110 : decode cL_refuses 110 = .ok (.iconst (-1), 1) := by decide +kernel
theorem dL_refuses_111 : decode cL_refuses 111 = .ok (.invokevirtual 26, 3) := by decide +kernel
theorem dL_refuses_114 : decode cL_refuses 114 = .ok (.iconst (-1), 1) := by decide +kernel
theorem dL_refuses_115 : decode cL_refuses 115 = .ok (.if_icmp .ne 81, 3) := by decide +kernel
theorem dL_refuses_118 : decode cL_refuses 118 = .ok (.aload_n 0, 1) := by decide +kernel
theorem dL_refuses_119 : decode cL_refuses 119 = .ok (.bipush 8, 2) := by decide +kernel
theorem dL_refuses_121 : decode cL_refuses 121 = .ok (.iconst 0, 1) := by decide +kernel
theorem dL_refuses_122 : decode cL_refuses 122 = .ok (.invokevirtual 65, 3) := by decide +kernel
theorem dL_refuses_125 : decode cL_refuses 125 = .ok (.iconst (-1), 1) := by decide +kernel
theorem dL_refuses_126 : decode cL_refuses 126 = .ok (.if_icmp .ne 70, 3) := by decide +kernel
theorem dL_refuses_129 : decode cL_refuses 129 = .ok (.aload_n 0, 1) := by decide +kernel
theorem dL_refuses_130 : decode cL_refuses 130 = .ok (.iconst 0, 1) := by decide +kernel
theorem dL_refuses_131 : decode cL_refuses 131 = .ok (.sipush 201, 3) := by decide +kernel
theorem dL_refuses_134 : decode cL_refuses 134 = .ok (.invokevirtual 65, 3) := by decide +kernel
theorem dL_refuses_137 : decode cL_refuses 137 = .ok (.iconst (-1), 1) := by decide +kernel
theorem dL_refuses_138 : decode cL_refuses 138 = .ok (.if_icmp .ne 58, 3) := by decide +kernel
theorem dL_refuses_141 : decode cL_refuses 141 = .ok (.aload_n 0, 1) := by decide +kernel
theorem dL_refuses_142 : decode cL_refuses 142 = .ok (.iconst 1, 1) := by decide +kernel
theorem dL_refuses_143 : decode cL_refuses 143 = .ok (.bipush 9, 2) := by decide +kernel
theorem dL_refuses_145 : decode cL_refuses 145 = .ok (.invokevirtual 65, 3) := by decide +kernel
theorem dL_refuses_148 : decode cL_refuses 148 = .ok (.iconst (-1), 1) := by decide +kernel
theorem dL_refuses_149 : decode cL_refuses 149 = .ok (.if_icmp .ne 47, 3) := by decide +kernel
theorem dL_refuses_152 : decode cL_refuses 152 = .ok (.aload_n 0, 1) := by decide +kernel
theorem dL_refuses_153 : decode cL_refuses 153 = .ok (.iconst 3, 1) := by decide +kernel
theorem dL_refuses_154 : decode cL_refuses 154 = .ok (.iconst 0, 1) := by decide +kernel
theorem dL_refuses_155 : decode cL_refuses 155 = .ok (.invokevirtual 65, 3) := by decide +kernel
theorem dL_refuses_158 : decode cL_refuses 158 = .ok (.iconst (-1), 1) := by decide +kernel
theorem dL_refuses_159 : decode cL_refuses 159 = .ok (.if_icmp .ne 37, 3) := by decide +kernel
theorem dL_refuses_162 : decode cL_refuses 162 = .ok (.aload_n 0, 1) := by decide +kernel
theorem dL_refuses_163 : decode cL_refuses 163 = .ok (.bipush 7, 2) := by decide +kernel
theorem dL_refuses_165 : decode cL_refuses 165 = .ok (.bipush 51, 2) := by decide +kernel
theorem dL_refuses_167 : decode cL_refuses 167 = .ok (.invokevirtual 65, 3) := by decide +kernel
theorem dL_refuses_170 : decode cL_refuses 170 = .ok (.iconst (-1), 1) := by decide +kernel
theorem dL_refuses_171 : decode cL_refuses 171 = .ok (.if_icmp .ne 25, 3) := by decide +kernel
theorem dL_refuses_174 : decode cL_refuses 174 = .ok (.aload_n 0, 1) := by decide +kernel
theorem dL_refuses_175 : decode cL_refuses 175 = .ok (.iconst 4, 1) := by decide +kernel
theorem dL_refuses_176 : decode cL_refuses 176 = .ok (.invokevirtual 72, 3) := by decide +kernel
theorem dL_refuses_179 : decode cL_refuses 179 = .ok (.iconst (-1), 1) := by decide +kernel
theorem dL_refuses_180 : decode cL_refuses 180 = .ok (.if_icmp .ne 16, 3) := by decide +kernel
theorem dL_refuses_183 : decode cL_refuses 183 = .ok (.aload_n 0, 1) := by decide +kernel
theorem dL_refuses_184 : decode cL_refuses 184 = .ok (.iconst 0, 1) := by decide +kernel
theorem dL_refuses_185 : decode cL_refuses 185 = .ok (.invokevirtual 52, 3) := by decide +kernel
theorem dL_refuses_188 : decode cL_refuses 188 = .ok (.iconst (-1), 1) := by decide +kernel
theorem dL_refuses_189 : decode cL_refuses 189 = .ok (.if_icmp .ne 7, 3) := by decide +kernel
theorem dL_refuses_192 : decode cL_refuses 192 = .ok (.iconst 1, 1) := by decide +kernel
theorem dL_refuses_193 : decode cL_refuses 193 = .ok (.goto 4, 3) := by decide +kernel
theorem dL_refuses_196 : decode cL_refuses 196 = .ok (.iconst 0, 1) := by decide +kernel
theorem dL_refuses_197 : decode cL_refuses 197 = .ok (.istore_n 3, 1) := by decide +kernel
theorem dL_refuses_198 : decode cL_refuses 198 = .ok (.iload_n 3, 1) := by decide +kernel
theorem dL_refuses_199 : decode cL_refuses 199 = .ok (.ifCond .eq 132, 3) := by decide +kernel
theorem dL_refuses_202 : decode cL_refuses 202 = .ok (.aload_n 0, 1) := by decide +kernel
theorem dL_refuses_203 : decode cL_refuses 203 = .ok (.bipush 24, 2) := by decide +kernel
theorem dL_refuses_205 : decode cL_refuses 205 = .ok (.invokevirtual 9, 3) := by decide +kernel
theorem dL_refuses_208 : decode cL_refuses 208 = .ok (.iconst (-1), 1) := by decide +kernel
theorem dL_refuses_209 : decode cL_refuses 209 = .ok (.if_icmp .ne 122, 3) := by decide +kernel
theorem dL_refuses_212 : decode cL_refuses 212 = .ok (.aload_n 0, 1) := by decide +kernel
theorem dL_refuses_213 : decode cL_refuses 213 = .ok (.iconst (-1), 1) := by decide +kernel
theorem dL_refuses_214 : decode cL_refuses 214 = .ok (.invokevirtual 9, 3) := by decide +kernel
theorem dL_refuses_217 : decode cL_refuses 217 = .ok (.iconst (-1), 1) := by decide +kernel
theorem dL_refuses_218 : decode cL_refuses 218 = .ok (.if_icmp .ne 113, 3) := by decide +kernel
theorem dL_refuses_221 : decode cL_refuses 221 = .ok (.aload_n 0, 1) := by decide +kernel
theorem dL_refuses_222 : decode cL_refuses 222 = .ok (.bipush 7, 2) := by decide +kernel
theorem dL_refuses_224 : decode cL_refuses 224 = .ok (.invokevirtual 15, 3) := by decide +kernel
theorem dL_refuses_227 : decode cL_refuses 227 = .ok (.iconst (-1), 1) := by decide +kernel
theorem dL_refuses_228 : decode cL_refuses 228 = .ok (.if_icmp .ne 103, 3) := by decide +kernel
theorem dL_refuses_231 : decode cL_refuses 231 = .ok (.aload_n 0, 1) := by decide +kernel
theorem dL_refuses_232 : decode cL_refuses 232 = .ok (.iconst 4, 1) := by decide +kernel
theorem dL_refuses_233 : decode cL_refuses 233 = .ok (.iconst 0, 1) := by decide +kernel
theorem dL_refuses_234 : decode cL_refuses 234 = .ok (.invokevirtual 18, 3) := by decide +kernel
theorem dL_refuses_237 : decode cL_refuses 237 = .ok (.iconst (-1), 1) := by decide +kernel
theorem dL_refuses_238 : decode cL_refuses 238 = .ok (.if_icmp .ne 93, 3) := by decide +kernel
theorem dL_refuses_241 : decode cL_refuses 241 = .ok (.aload_n 0, 1) := by decide +kernel
theorem dL_refuses_242 : decode cL_refuses 242 = .ok (.iconst 0, 1) := by decide +kernel
theorem dL_refuses_243 : decode cL_refuses 243 = .ok (.iconst 5, 1) := by decide +kernel
theorem dL_refuses_244 : decode cL_refuses 244 = .ok (.invokevirtual 18, 3) := by decide +kernel
theorem dL_refuses_247 : decode cL_refuses 247 = .ok (.iconst (-1), 1) := by decide +kernel
theorem dL_refuses_248 : decode cL_refuses 248 = .ok (.if_icmp .ne 83, 3) := by decide +kernel
theorem dL_refuses_251 : decode cL_refuses 251 = .ok (.aload_n 0, 1) := by decide +kernel
theorem dL_refuses_252 : decode cL_refuses 252 = .ok (.iconst (-1), 1) := by decide +kernel
theorem dL_refuses_253 : decode cL_refuses 253 = .ok (.iconst 0, 1) := by decide +kernel
theorem dL_refuses_254 : decode cL_refuses 254 = .ok (.invokevirtual 29, 3) := by decide +kernel
theorem dL_refuses_257 : decode cL_refuses 257 = .ok (.iconst (-1), 1) := by decide +kernel
theorem dL_refuses_258 : decode cL_refuses 258 = .ok (.if_icmp .ne 73, 3) := by decide +kernel
theorem dL_refuses_261 : decode cL_refuses 261 = .ok (.aload_n 0, 1) := by decide +kernel
theorem dL_refuses_262 : decode cL_refuses 262 = .ok (.iconst (-1), 1) := by decide +kernel
theorem dL_refuses_263 : decode cL_refuses 263 = .ok (.invokevirtual 43, 3) := by decide +kernel
theorem dL_refuses_266 : decode cL_refuses 266 = .ok (.iconst (-1), 1) := by decide +kernel
theorem dL_refuses_267 : decode cL_refuses 267 = .ok (.if_icmp .ne 64, 3) := by decide +kernel
theorem dL_refuses_270 : decode cL_refuses 270 = .ok (.aload_n 0, 1) := by decide +kernel
theorem dL_refuses_271 : decode cL_refuses 271 = .ok (.iconst 0, 1) := by decide +kernel
theorem dL_refuses_272 : decode cL_refuses 272 = .ok (.iconst 0, 1) := by decide +kernel
theorem dL_refuses_273 : decode cL_refuses 273 = .ok (.invokevirtual 46, 3) := by decide +kernel
theorem dL_refuses_276 : decode cL_refuses 276 = .ok (.iconst (-1), 1) := by decide +kernel
theorem dL_refuses_277 : decode cL_refuses 277 = .ok (.if_icmp .ne 54, 3) := by decide +kernel
theorem dL_refuses_280 : decode cL_refuses 280 = .ok (.aload_n 0, 1) := by decide +kernel
theorem dL_refuses_281 : decode cL_refuses 281 = .ok (.iconst 1, 1) := by decide +kernel
theorem dL_refuses_282 : decode cL_refuses 282 = .ok (.iconst (-1), 1) := by decide +kernel
theorem dL_refuses_283 : decode cL_refuses 283 = .ok (.invokevirtual 46, 3) := by decide +kernel
theorem dL_refuses_286 : decode cL_refuses 286 = .ok (.iconst (-1), 1) := by decide +kernel
theorem dL_refuses_287 : decode cL_refuses 287 = .ok (.if_icmp .ne 44, 3) := by decide +kernel
theorem dL_refuses_290 : decode cL_refuses 290 = .ok (.aload_n 0, 1) := by decide +kernel
theorem dL_refuses_291 : decode cL_refuses 291 = .ok (.iconst (-1), 1) := by decide +kernel
theorem dL_refuses_292 : decode cL_refuses 292 = .ok (.invokevirtual 49, 3) := by decide +kernel
theorem dL_refuses_295 : decode cL_refuses 295 = .ok (.iconst (-1), 1) := by decide +kernel
theorem dL_refuses_296 : decode cL_refuses 296 = .ok (.if_icmp .ne 35, 3) := by decide +kernel
theorem dL_refuses_299 : decode cL_refuses 299 = .ok (.aload_n 0, 1) := by decide +kernel
theorem dL_refuses_300 : decode cL_refuses 300 = .ok (.iconst 0, 1) := by decide +kernel
theorem dL_refuses_301 : decode cL_refuses 301 = .ok (.invokevirtual 62, 3) := by decide +kernel
theorem dL_refuses_304 : decode cL_refuses 304 = .ok (.iconst (-1), 1) := by decide +kernel
theorem dL_refuses_305 : decode cL_refuses 305 = .ok (.if_icmp .ne 26, 3) := by decide +kernel
theorem dL_refuses_308 : decode cL_refuses 308 = .ok (.aload_n 0, 1) := by decide +kernel
theorem dL_refuses_309 : decode cL_refuses 309 = .ok (.bipush 31, 2) := by decide +kernel
theorem dL_refuses_311 : decode cL_refuses 311 = .ok (.invokevirtual 75, 3) := by decide +kernel
theorem dL_refuses_314 : decode cL_refuses 314 = .ok (.iconst (-1), 1) := by decide +kernel
theorem dL_refuses_315 : decode cL_refuses 315 = .ok (.if_icmp .ne 16, 3) := by decide +kernel
theorem dL_refuses_318 : decode cL_refuses 318 = .ok (.aload_n 0, 1) := by decide +kernel
theorem dL_refuses_319 : decode cL_refuses 319 = .ok (.iconst 3, 1) := by decide +kernel
theorem dL_refuses_320 : decode cL_refuses 320 = .ok (.invokevirtual 78, 3) := by decide +kernel
theorem dL_refuses_323 : decode cL_refuses 323 = .ok (.iconst (-1), 1) := by decide +kernel
theorem dL_refuses_324 : decode cL_refuses 324 = .ok (.if_icmp .ne 7, 3) := by decide +kernel
theorem dL_refuses_327 : decode cL_refuses 327 = .ok (.iconst 1, 1) := by decide +kernel
theorem dL_refuses_328 : decode cL_refuses 328 = .ok (.goto 4, 3) := by decide +kernel
theorem dL_refuses_331 : decode cL_refuses 331 = .ok (.iconst 0, 1) := by decide +kernel
theorem dL_refuses_332 : decode cL_refuses 332 = .ok (.istore_n 3, 1) := by decide +kernel
theorem dL_refuses_333 : decode cL_refuses 333 = .ok (.iload_n 3, 1) := by decide +kernel
theorem dL_refuses_334 : decode cL_refuses 334 = .ok (.ifCond .eq 27, 3) := by decide +kernel
theorem dL_refuses_337 : decode cL_refuses 337 = .ok (.aload_n 0, 1) := by decide +kernel
theorem dL_refuses_338 : decode cL_refuses 338 = .ok (.bipush 22, 2) := by decide +kernel
theorem dL_refuses_340 : decode cL_refuses 340 = .ok (.invokevirtual 9, 3) := by decide +kernel
theorem dL_refuses_343 : decode cL_refuses 343 = .ok (.iload_n 1, 1) := by decide +kernel
theorem dL_refuses_344 : decode cL_refuses 344 = .ok (.if_icmp .ne 17, 3) := by decide +kernel
theorem dL_refuses_347 : decode cL_refuses 347 = .ok (.aload_n 0, 1) := by decide +kernel
theorem dL_refuses_348 : decode cL_refuses 348 = .ok (.bipush 18, 2) := by decide +kernel
theorem dL_refuses_350 : decode cL_refuses 350 = .ok (.invokevirtual 9, 3) := by decide +kernel
theorem dL_refuses_353 : decode cL_refuses 353 = .ok (.iload_n 2, 1) := by decide +kernel
theorem dL_refuses_354 : decode cL_refuses 354 = .ok (.if_icmp .ne 7, 3) := by decide +kernel
theorem dL_refuses_357 : decode cL_refuses 357 = .ok (.iconst 1, 1) := by decide +kernel
theorem dL_refuses_358 : decode cL_refuses 358 = .ok (.goto 4, 3) := by decide +kernel
theorem dL_refuses_361 : decode cL_refuses 361 = .ok (.iconst 0, 1) := by decide +kernel
theorem dL_refuses_362 : decode cL_refuses 362 = .ok (.ireturn, 1) := by decide +kernel
theorem dL_law_0 : decode cL_law 0 = .ok (.new 10, 3) := by decide +kernel
theorem dL_law_3 : decode cL_law 3 = .ok (.dup, 1) := by decide +kernel
theorem dL_law_4 : decode cL_law 4 = .ok (.invokespecial 81, 3) := by decide +kernel
theorem dL_law_7 : decode cL_law 7 = .ok (.astore_n 1, 1) := by decide +kernel
theorem dL_law_8 : decode cL_law 8 = .ok (.aload_n 1, 1) := by decide +kernel
theorem dL_law_9 : decode cL_law 9 = .ok (.invokestatic 82, 3) := by decide +kernel
theorem dL_law_12 : decode cL_law 12 = .ok (.ifCond .eq 41, 3) := by decide +kernel
theorem dL_law_15 : decode cL_law 15 = .ok (.aload_n 1, 1) := by decide +kernel
theorem dL_law_16 : decode cL_law 16 = .ok (.invokevirtual 59, 3) := by decide +kernel
theorem dL_law_19 : decode cL_law 19 = .ok (.bipush (-2), 2) := by decide +kernel
theorem dL_law_21 : decode cL_law 21 = .ok (.if_icmp .ne 32, 3) := by decide +kernel
theorem dL_law_24 : decode cL_law 24 = .ok (.aload_n 1, 1) := by decide +kernel
theorem dL_law_25 : decode cL_law 25 = .ok (.invokestatic 55, 3) := by decide +kernel
theorem dL_law_28 : decode cL_law 28 = .ok (.ifCond .eq 25, 3) := by decide +kernel
theorem dL_law_31 : decode cL_law 31 = .ok (.aload_n 1, 1) := by decide +kernel
theorem dL_law_32 : decode cL_law 32 = .ok (.iconst 0, 1) := by decide +kernel
theorem dL_law_33 : decode cL_law 33 = .ok (.invokestatic 85, 3) := by decide +kernel
theorem dL_law_36 : decode cL_law 36 = .ok (.ifCond .eq 17, 3) := by decide +kernel
theorem dL_law_39 : decode cL_law 39 = .ok (.aload_n 1, 1) := by decide +kernel
theorem dL_law_40 : decode cL_law 40 = .ok (.invokevirtual 89, 3) := by decide +kernel
theorem dL_law_43 : decode cL_law 43 = .ok (.ifCond .ne 10, 3) := by decide +kernel
theorem dL_law_46 : decode cL_law 46 = .ok (.aload_n 1, 1) := by decide +kernel
theorem dL_law_47 : decode cL_law 47 = .ok (.invokevirtual 59, 3) := by decide +kernel
theorem dL_law_50 : decode cL_law 50 = .ok (.ifCond .eq 5, 3) := by decide +kernel
theorem dL_law_53 : decode cL_law 53 = .ok (.iconst 0, 1) := by decide +kernel
theorem dL_law_54 : decode cL_law 54 = .ok (.ireturn, 1) := by decide +kernel
theorem dL_law_55 : decode cL_law 55 = .ok (.iconst 0, 1) := by decide +kernel
theorem dL_law_56 : decode cL_law 56 = .ok (.istore_n 2, 1) := by decide +kernel
theorem dL_law_57 : decode cL_law 57 = .ok (.iload_n 2, 1) := by decide +kernel
theorem dL_law_58 : decode cL_law 58 = .ok (.bipush 40, 2) := by decide +kernel
theorem dL_law_60 : decode cL_law 60 = .ok (.if_icmp .ge 866, 3) := by decide +kernel
theorem dL_law_63 : decode cL_law 63 = .ok (.aload_n 0, 1) := by decide +kernel
theorem dL_law_64 : decode cL_law 64 = .ok (.iconst 2, 1) := by decide +kernel
theorem dL_law_65 : decode cL_law 65 = .ok (.iload_n 2, 1) := by decide +kernel
theorem dL_law_66 : decode cL_law 66 = .ok (.imul, 1) := by decide +kernel
theorem dL_law_67 : decode cL_law 67 = .ok (.invokestatic 92, 3) := by decide +kernel
theorem dL_law_70 : decode cL_law 70 = .ok (.istore_n 3, 1) := by decide +kernel
theorem dL_law_71 : decode cL_law 71 = .ok (.aload_n 0, 1) := by decide +kernel
theorem dL_law_72 : decode cL_law 72 = .ok (.iconst 2, 1) := by decide +kernel
theorem dL_law_73 : decode cL_law 73 = .ok (.iload_n 2, 1) := by decide +kernel
theorem dL_law_74 : decode cL_law 74 = .ok (.imul, 1) := by decide +kernel
theorem dL_law_75 : decode cL_law 75 = .ok (.iconst 1, 1) := by decide +kernel
theorem dL_law_76 : decode cL_law 76 = .ok (.iadd, 1) := by decide +kernel
theorem dL_law_77 : decode cL_law 77 = .ok (.invokestatic 92, 3) := by decide +kernel
theorem dL_law_80 : decode cL_law 80 = .ok (.istore 4, 2) := by decide +kernel
theorem dL_law_82 : decode cL_law 82 = .ok (.aload_n 1, 1) := by decide +kernel
theorem dL_law_83 : decode cL_law 83 = .ok (.bipush 8, 2) := by decide +kernel
theorem dL_law_85 : decode cL_law 85 = .ok (.invokevirtual 9, 3) := by decide +kernel
theorem dL_law_88 : decode cL_law 88 = .ok (.istore 5, 2) := by decide +kernel
theorem dL_law_90 : decode cL_law 90 = .ok (.aload_n 1, 1) := by decide +kernel
theorem dL_law_91 : decode cL_law 91 = .ok (.bipush 15, 2) := by decide +kernel
theorem dL_law_93 : decode cL_law 93 = .ok (.invokevirtual 9, 3) := by decide +kernel
theorem dL_law_96 : decode cL_law 96 = .ok (.istore 6, 2) := by decide +kernel
theorem dL_law_98 : decode cL_law 98 = .ok (.iload_n 2, 1) := by decide +kernel
theorem dL_law_99 : decode cL_law 99 = .ok (.iconst 4, 1) := by decide +kernel
theorem dL_law_100 : decode cL_law 100 = .ok (.if_icmp .ge 7, 3) := by decide +kernel
theorem dL_law_103 : decode cL_law 103 = .ok (.iconst 0, 1) := by decide +kernel
theorem dL_law_104 : decode cL_law 104 = .ok (.goto 9, 3) := by decide +kernel
theorem dL_law_107 : decode cL_law 107 = .ok (.iload_n 3, 1) := by decide +kernel
theorem dL_law_108 : decode cL_law 108 = .ok (.bipush 12, 2) := by decide +kernel
theorem dL_law_110 : decode cL_law 110 = .ok (.invokestatic 40, 3) := by decide +kernel
theorem dL_law_113 : decode cL_law 113 = .ok (.istore 7, 2) := by decide +kernel
theorem dL_law_115 : decode cL_law 115 = .ok (.iload 7, 2) := by decide +kernel
theorem dL_law_117 : decode cL_law 117 = .ok (.iconst 2, 1) := by decide +kernel
theorem dL_law_118 : decode cL_law 118 = .ok (.if_icmp .ge 233, 3) := by decide +kernel
theorem dL_law_121 : decode cL_law 121 = .ok (.iload 4, 2) := by decide +kernel
theorem dL_law_123 : decode cL_law 123 = .ok (.iconst 4, 1) := by decide +kernel
theorem dL_law_124 : decode cL_law 124 = .ok (.invokestatic 40, 3) := by decide +kernel
theorem dL_law_127 : decode cL_law 127 = .ok (.istore 8, 2) := by decide +kernel
theorem dL_law_129 : decode cL_law 129 = .ok (.iload 8, 2) := by decide +kernel
theorem dL_law_131 : decode cL_law 131 = .ok (.iconst 3, 1) := by decide +kernel
theorem dL_law_132 : decode cL_law 132 = .ok (.if_icmp .ne 7, 3) := by decide +kernel
theorem dL_law_135 : decode cL_law 135 = .ok (.iconst 0, 1) := by decide +kernel
theorem dL_law_136 : decode cL_law 136 = .ok (.goto 5, 3) := by decide +kernel
theorem dL_law_139 : decode cL_law 139 = .ok (.iload 8, 2) := by decide +kernel
theorem dL_law_141 : decode cL_law 141 = .ok (.istore 8, 2) := by decide +kernel
theorem dL_law_143 : decode cL_law 143 = .ok (.iconst 1, 1) := by decide +kernel
theorem dL_law_144 : decode cL_law 144 = .ok (.iload 4, 2) := by decide +kernel
theorem dL_law_146 : decode cL_law 146 = .ok (.iconst 2, 1) := by decide +kernel
theorem dL_law_147 : decode cL_law 147 = .ok (.ishr, 1) := by decide +kernel
theorem dL_law_148 : decode cL_law 148 = .ok (.iload 4, 2) := by decide +kernel
theorem dL_law_150 : decode cL_law 150 = .ok (.bipush 25, 2) := by decide +kernel
theorem dL_law_152 : decode cL_law 152 = .ok (.ishr, 1) := by decide +kernel
theorem dL_law_153 : decode cL_law 153 = .ok (.iconst 3, 1) := by decide +kernel
theorem dL_law_154 : decode cL_law 154 = .ok (.invokestatic 40, 3) := by decide +kernel
theorem dL_law_157 : decode cL_law 157 = .ok (.ifCond .ne 9, 3) := by decide +kernel
theorem dL_law_160 : decode cL_law 160 = .ok (.sipush 300, 3) := by decide +kernel
theorem dL_law_163 : decode cL_law 163 = .ok (.goto 5, 3) := by decide +kernel
theorem dL_law_166 : decode cL_law 166 = .ok (.bipush 30, 2) := by decide +kernel
theorem dL_law_168 : decode cL_law 168 = .ok (.invokestatic 40, 3) := by decide +kernel
theorem dL_law_171 : decode cL_law 171 = .ok (.iadd, 1) := by decide +kernel
theorem dL_law_172 : decode cL_law 172 = .ok (.istore 9, 2) := by decide +kernel
theorem dL_law_174 : decode cL_law 174 = .ok (.iload 8, 2) := by decide +kernel
theorem dL_law_176 : decode cL_law 176 = .ok (.iconst 1, 1) := by decide +kernel
theorem dL_law_177 : decode cL_law 177 = .ok (.if_icmp .ne 7, 3) := by decide +kernel
theorem dL_law_180 : decode cL_law 180 = .ok (.iconst 0, 1) := by decide +kernel
theorem dL_law_181 : decode cL_law 181 = .ok (.goto 16, 3) := by decide +kernel
theorem dL_law_184 : decode cL_law 184 = .ok (.bipush 60, 2) := by decide +kernel
theorem dL_law_186 : decode cL_law 186 = .ok (.iload 4, 2) := by decide +kernel
theorem dL_law_188 : decode cL_law 188 = .ok (.bipush 10, 2) := by decide +kernel
theorem dL_law_190 : decode cL_law 190 = .ok (.ishr, 1) := by decide +kernel
theorem dL_law_191 : decode cL_law 191 = .ok (.bipush 33, 2) := by decide +kernel
theorem dL_law_193 : decode cL_law 193 = .ok (.invokestatic 40, 3) := by decide +kernel
theorem dL_law_196 : decode cL_law 196 = .ok (.iadd, 1) := by decide +kernel
theorem dL_law_197 : decode cL_law 197 = .ok (.istore 10, 2) := by decide +kernel
theorem dL_law_199 : decode cL_law 199 = .ok (.iload 8, 2) := by decide +kernel
