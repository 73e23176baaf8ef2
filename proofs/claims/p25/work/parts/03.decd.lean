theorem dL_areLessonsSo_202 : decode cL_areLessonsSo 202 = .ok (.iconst 3, 1) := by decide +kernel
theorem dL_areLessonsSo_203 : decode cL_areLessonsSo 203 = .ok (.invokevirtual 36, 3) := by decide +kernel
theorem dL_areLessonsSo_206 : decode cL_areLessonsSo 206 = .ok (.if_icmp .ne 15, 3) := by decide +kernel
theorem dL_areLessonsSo_209 : decode cL_areLessonsSo 209 = .ok (.aload_n 0, 1) := by decide +kernel
theorem dL_areLessonsSo_210 : decode cL_areLessonsSo 210 = .ok (.invokevirtual 51, 3) := by decide +kernel
theorem dL_areLessonsSo_213 : decode cL_areLessonsSo 213 = .ok (.iload_n 3, 1) := by decide +kernel
theorem dL_areLessonsSo_214 : decode cL_areLessonsSo 214 = .ok (.if_icmp .ne 7, 3) := by decide +kernel
theorem dL_areLessonsSo_217 : decode cL_areLessonsSo 217 = .ok (.iconst 1, 1) := by decide +kernel
theorem dL_areLessonsSo_218 : decode cL_areLessonsSo 218 = .ok (.goto 4, 3) := by decide +kernel
theorem dL_areLessonsSo_221 : decode cL_areLessonsSo 221 = .ok (.iconst 0, 1) := by decide +kernel
theorem dL_areLessonsSo_222 : decode cL_areLessonsSo 222 = .ok (.ireturn, 1) := by decide +kernel
theorem dL_isBestSo_0 : decode cL_isBestSo 0 = .ok (.aload_n 0, 1) := by decide +kernel
theorem dL_isBestSo_1 : decode cL_isBestSo 1 = .ok (.iload_n 1, 1) := by decide +kernel
theorem dL_isBestSo_2 : decode cL_isBestSo 2 = .ok (.invokevirtual 55, 3) := by decide +kernel
theorem dL_isBestSo_5 : decode cL_isBestSo 5 = .ok (.istore_n 2, 1) := by decide +kernel
theorem dL_isBestSo_6 : decode cL_isBestSo 6 = .ok (.iload_n 2, 1) := by decide +kernel
theorem dL_isBestSo_7 : decode cL_isBestSo 7 = .ok (.bipush (-5), 2) := by decide +kernel
theorem dL_isBestSo_9 : decode cL_isBestSo 9 = .ok (.if_icmp .eq 21, 3) := by decide +kernel
theorem dL_isBestSo_12 : decode cL_isBestSo 12 = .ok (.aload_n 0, 1) := by decide +kernel
theorem dL_isBestSo_13 : decode cL_isBestSo 13 = .ok (.iload_n 2, 1) := by decide +kernel
theorem dL_isBestSo_14 : decode cL_isBestSo 14 = .ok (.iload_n 1, 1) := by decide +kernel
theorem dL_isBestSo_15 : decode cL_isBestSo 15 = .ok (.invokevirtual 58, 3) := by decide +kernel
theorem dL_isBestSo_18 : decode cL_isBestSo 18 = .ok (.ifCond .ne 16, 3) := by decide +kernel
theorem dL_isBestSo_21 : decode cL_isBestSo 21 = .ok (.aload_n 0, 1) := by decide +kernel
theorem dL_isBestSo_22 : decode cL_isBestSo 22 = .ok (.iload_n 2, 1) := by decide +kernel
theorem dL_isBestSo_23 : decode cL_isBestSo 23 = .ok (.iload_n 1, 1) := by decide +kernel
theorem dL_isBestSo_24 : decode cL_isBestSo 24 = .ok (.invokevirtual 61, 3) := by decide +kernel
theorem dL_isBestSo_27 : decode cL_isBestSo 27 = .ok (.ifCond .ne 7, 3) := by decide +kernel
theorem dL_isBestSo_30 : decode cL_isBestSo 30 = .ok (.iconst 1, 1) := by decide +kernel
theorem dL_isBestSo_31 : decode cL_isBestSo 31 = .ok (.goto 4, 3) := by decide +kernel
theorem dL_isBestSo_34 : decode cL_isBestSo 34 = .ok (.iconst 0, 1) := by decide +kernel
theorem dL_isBestSo_35 : decode cL_isBestSo 35 = .ok (.istore_n 3, 1) := by decide +kernel
theorem dL_isBestSo_36 : decode cL_isBestSo 36 = .ok (.iload_n 2, 1) := by decide +kernel
theorem dL_isBestSo_37 : decode cL_isBestSo 37 = .ok (.bipush (-5), 2) := by decide +kernel
theorem dL_isBestSo_39 : decode cL_isBestSo 39 = .ok (.if_icmp .ne 7, 3) := by decide +kernel
theorem dL_isBestSo_42 : decode cL_isBestSo 42 = .ok (.iconst 0, 1) := by decide +kernel
theorem dL_isBestSo_43 : decode cL_isBestSo 43 = .ok (.goto 23, 3) := by decide +kernel
theorem dL_isBestSo_46 : decode cL_isBestSo 46 = .ok (.aload_n 0, 1) := by decide +kernel
theorem dL_isBestSo_47 : decode cL_isBestSo 47 = .ok (.iload_n 2, 1) := by decide +kernel
theorem dL_isBestSo_48 : decode cL_isBestSo 48 = .ok (.iconst 1, 1) := by decide +kernel
theorem dL_isBestSo_49 : decode cL_isBestSo 49 = .ok (.invokevirtual 39, 3) := by decide +kernel
theorem dL_isBestSo_52 : decode cL_isBestSo 52 = .ok (.aload_n 0, 1) := by decide +kernel
theorem dL_isBestSo_53 : decode cL_isBestSo 53 = .ok (.iload_n 1, 1) := by decide +kernel
theorem dL_isBestSo_54 : decode cL_isBestSo 54 = .ok (.iconst 3, 1) := by decide +kernel
theorem dL_isBestSo_55 : decode cL_isBestSo 55 = .ok (.invokevirtual 42, 3) := by decide +kernel
theorem dL_isBestSo_58 : decode cL_isBestSo 58 = .ok (.if_icmp .le 7, 3) := by decide +kernel
theorem dL_isBestSo_61 : decode cL_isBestSo 61 = .ok (.iconst 1, 1) := by decide +kernel
theorem dL_isBestSo_62 : decode cL_isBestSo 62 = .ok (.goto 4, 3) := by decide +kernel
theorem dL_isBestSo_65 : decode cL_isBestSo 65 = .ok (.iconst 0, 1) := by decide +kernel
theorem dL_isBestSo_66 : decode cL_isBestSo 66 = .ok (.istore 4, 2) := by decide +kernel
theorem dL_isBestSo_68 : decode cL_isBestSo 68 = .ok (.iconst 0, 1) := by decide +kernel
theorem dL_isBestSo_69 : decode cL_isBestSo 69 = .ok (.istore 5, 2) := by decide +kernel
theorem dL_isBestSo_71 : decode cL_isBestSo 71 = .ok (.iload 5, 2) := by decide +kernel
theorem dL_isBestSo_73 : decode cL_isBestSo 73 = .ok (.bipush 10, 2) := by decide +kernel
theorem dL_isBestSo_75 : decode cL_isBestSo 75 = .ok (.if_icmp .ge 343, 3) := by decide +kernel
theorem dL_isBestSo_78 : decode cL_isBestSo 78 = .ok (.aload_n 0, 1) := by decide +kernel
theorem dL_isBestSo_79 : decode cL_isBestSo 79 = .ok (.iload 5, 2) := by decide +kernel
theorem dL_isBestSo_81 : decode cL_isBestSo 81 = .ok (.iload_n 1, 1) := by decide +kernel
theorem dL_isBestSo_82 : decode cL_isBestSo 82 = .ok (.invokevirtual 58, 3) := by decide +kernel
theorem dL_isBestSo_85 : decode cL_isBestSo 85 = .ok (.istore 6, 2) := by decide +kernel
theorem dL_isBestSo_87 : decode cL_isBestSo 87 = .ok (.aload_n 0, 1) := by decide +kernel
theorem dL_isBestSo_88 : decode cL_isBestSo 88 = .ok (.iload 5, 2) := by decide +kernel
theorem dL_isBestSo_90 : decode cL_isBestSo 90 = .ok (.iconst 1, 1) := by decide +kernel
theorem dL_isBestSo_91 : decode cL_isBestSo 91 = .ok (.invokevirtual 39, 3) := by decide +kernel
theorem dL_isBestSo_94 : decode cL_isBestSo 94 = .ok (.aload_n 0, 1) := by decide +kernel
theorem dL_isBestSo_95 : decode cL_isBestSo 95 = .ok (.iload_n 1, 1) := by decide +kernel
theorem dL_isBestSo_96 : decode cL_isBestSo 96 = .ok (.iconst 3, 1) := by decide +kernel
theorem dL_isBestSo_97 : decode cL_isBestSo 97 = .ok (.invokevirtual 42, 3) := by decide +kernel
theorem dL_isBestSo_100 : decode cL_isBestSo 100 = .ok (.if_icmp .le 7, 3) := by decide +kernel
theorem dL_isBestSo_103 : decode cL_isBestSo 103 = .ok (.iconst 1, 1) := by decide +kernel
theorem dL_isBestSo_104 : decode cL_isBestSo 104 = .ok (.goto 4, 3) := by decide +kernel
theorem dL_isBestSo_107 : decode cL_isBestSo 107 = .ok (.iconst 0, 1) := by decide +kernel
theorem dL_isBestSo_108 : decode cL_isBestSo 108 = .ok (.istore 7, 2) := by decide +kernel
theorem dL_isBestSo_110 : decode cL_isBestSo 110 = .ok (.aload_n 0, 1) := by decide +kernel
theorem dL_isBestSo_111 : decode cL_isBestSo 111 = .ok (.iload 5, 2) := by decide +kernel
theorem dL_isBestSo_113 : decode cL_isBestSo 113 = .ok (.iconst 0, 1) := by decide +kernel
theorem dL_isBestSo_114 : decode cL_isBestSo 114 = .ok (.invokevirtual 39, 3) := by decide +kernel
theorem dL_isBestSo_117 : decode cL_isBestSo 117 = .ok (.aload_n 0, 1) := by decide +kernel
theorem dL_isBestSo_118 : decode cL_isBestSo 118 = .ok (.iload_n 1, 1) := by decide +kernel
theorem dL_isBestSo_119 : decode cL_isBestSo 119 = .ok (.iconst 0, 1) := by decide +kernel
theorem dL_isBestSo_120 : decode cL_isBestSo 120 = .ok (.invokevirtual 42, 3) := by decide +kernel
theorem dL_isBestSo_123 : decode cL_isBestSo 123 = .ok (.if_icmp .lt 7, 3) := by decide +kernel
theorem dL_isBestSo_126 : decode cL_isBestSo 126 = .ok (.iconst 1, 1) := by decide +kernel
theorem dL_isBestSo_127 : decode cL_isBestSo 127 = .ok (.goto 4, 3) := by decide +kernel
theorem dL_isBestSo_130 : decode cL_isBestSo 130 = .ok (.iconst 0, 1) := by decide +kernel
theorem dL_isBestSo_131 : decode cL_isBestSo 131 = .ok (.istore 8, 2) := by decide +kernel
theorem dL_isBestSo_133 : decode cL_isBestSo 133 = .ok (.iload_n 3, 1) := by decide +kernel
theorem dL_isBestSo_134 : decode cL_isBestSo 134 = .ok (.ifCond .eq 127, 3) := by decide +kernel
theorem dL_isBestSo_137 : decode cL_isBestSo 137 = .ok (.iload 6, 2) := by decide +kernel
theorem dL_isBestSo_139 : decode cL_isBestSo 139 = .ok (.iconst 1, 1) := by decide +kernel
theorem dL_isBestSo_140 : decode cL_isBestSo 140 = .ok (.if_icmp .ne 13, 3) := by decide +kernel
theorem dL_isBestSo_143 : decode cL_isBestSo 143 = .ok (.aload_n 0, 1) := by decide +kernel
theorem dL_isBestSo_144 : decode cL_isBestSo 144 = .ok (.iload 5, 2) := by decide +kernel
theorem dL_isBestSo_146 : decode cL_isBestSo 146 = .ok (.iconst 5, 1) := by decide +kernel
theorem dL_isBestSo_147 : decode cL_isBestSo 147 = .ok (.invokevirtual 39, 3) := by decide +kernel
theorem dL_isBestSo_150 : decode cL_isBestSo 150 = .ok (.ifCond .le 111, 3) := by decide +kernel
theorem dL_isBestSo_153 : decode cL_isBestSo 153 = .ok (.iload 6, 2) := by decide +kernel
theorem dL_isBestSo_155 : decode cL_isBestSo 155 = .ok (.iconst 2, 1) := by decide +kernel
theorem dL_isBestSo_156 : decode cL_isBestSo 156 = .ok (.if_icmp .ne 14, 3) := by decide +kernel
theorem dL_isBestSo_159 : decode cL_isBestSo 159 = .ok (.aload_n 0, 1) := by decide +kernel
theorem dL_isBestSo_160 : decode cL_isBestSo 160 = .ok (.bipush 11, 2) := by decide +kernel
theorem dL_isBestSo_162 : decode cL_isBestSo 162 = .ok (.invokevirtual 36, 3) := by decide +kernel
theorem dL_isBestSo_165 : decode cL_isBestSo 165 = .ok (.iload 5, 2) := by decide +kernel
theorem dL_isBestSo_167 : decode cL_isBestSo 167 = .ok (.if_icmp .ne 94, 3) := by decide +kernel
theorem dL_isBestSo_170 : decode cL_isBestSo 170 = .ok (.iload 6, 2) := by decide +kernel
theorem dL_isBestSo_172 : decode cL_isBestSo 172 = .ok (.iconst 3, 1) := by decide +kernel
theorem dL_isBestSo_173 : decode cL_isBestSo 173 = .ok (.if_icmp .ne 19, 3) := by decide +kernel
theorem dL_isBestSo_176 : decode cL_isBestSo 176 = .ok (.aload_n 0, 1) := by decide +kernel
theorem dL_isBestSo_177 : decode cL_isBestSo 177 = .ok (.iload 5, 2) := by decide +kernel
theorem dL_isBestSo_179 : decode cL_isBestSo 179 = .ok (.iconst 3, 1) := by decide +kernel
theorem dL_isBestSo_180 : decode cL_isBestSo 180 = .ok (.invokevirtual 39, 3) := by decide +kernel
theorem dL_isBestSo_183 : decode cL_isBestSo 183 = .ok (.aload_n 0, 1) := by decide +kernel
theorem dL_isBestSo_184 : decode cL_isBestSo 184 = .ok (.bipush 13, 2) := by decide +kernel
theorem dL_isBestSo_186 : decode cL_isBestSo 186 = .ok (.invokevirtual 36, 3) := by decide +kernel
theorem dL_isBestSo_189 : decode cL_isBestSo 189 = .ok (.if_icmp .lt 72, 3) := by decide +kernel
theorem dL_isBestSo_192 : decode cL_isBestSo 192 = .ok (.iload 6, 2) := by decide +kernel
theorem dL_isBestSo_194 : decode cL_isBestSo 194 = .ok (.iconst 4, 1) := by decide +kernel
theorem dL_isBestSo_195 : decode cL_isBestSo 195 = .ok (.if_icmp .ne 19, 3) := by decide +kernel
theorem dL_isBestSo_198 : decode cL_isBestSo 198 = .ok (.aload_n 0, 1) := by decide +kernel
theorem dL_isBestSo_199 : decode cL_isBestSo 199 = .ok (.iload 5, 2) := by decide +kernel
theorem dL_isBestSo_201 : decode cL_isBestSo 201 = .ok (.iconst 2, 1) := by decide +kernel
theorem dL_isBestSo_202 : decode cL_isBestSo 202 = .ok (.invokevirtual 39, 3) := by decide +kernel
theorem dL_isBestSo_205 : decode cL_isBestSo 205 = .ok (.aload_n 0, 1) := by decide +kernel
theorem dL_isBestSo_206 : decode cL_isBestSo 206 = .ok (.bipush 12, 2) := by decide +kernel
theorem dL_isBestSo_208 : decode cL_isBestSo 208 = .ok (.invokevirtual 36, 3) := by decide +kernel
theorem dL_isBestSo_211 : decode cL_isBestSo 211 = .ok (.if_icmp .lt 50, 3) := by decide +kernel
theorem dL_isBestSo_214 : decode cL_isBestSo 214 = .ok (.iload 6, 2) := by decide +kernel
theorem dL_isBestSo_216 : decode cL_isBestSo 216 = .ok (.iconst 5, 1) := by decide +kernel
theorem dL_isBestSo_217 : decode cL_isBestSo 217 = .ok (.if_icmp .ne 8, 3) := by decide +kernel
theorem dL_isBestSo_220 : decode cL_isBestSo 220 = .ok (.iload 8, 2) := by decide +kernel
theorem dL_isBestSo_222 : decode cL_isBestSo 222 = .ok (.ifCond .ne 39, 3) := by decide +kernel
theorem dL_isBestSo_225 : decode cL_isBestSo 225 = .ok (.iload 6, 2) := by decide +kernel
theorem dL_isBestSo_227 : decode cL_isBestSo 227 = .ok (.ifCond .eq 13, 3) := by decide +kernel
theorem dL_isBestSo_230 : decode cL_isBestSo 230 = .ok (.aload_n 0, 1) := by decide +kernel
theorem dL_isBestSo_231 : decode cL_isBestSo 231 = .ok (.iload 5, 2) := by decide +kernel
theorem dL_isBestSo_233 : decode cL_isBestSo 233 = .ok (.iload_n 1, 1) := by decide +kernel
theorem dL_isBestSo_234 : decode cL_isBestSo 234 = .ok (.invokevirtual 61, 3) := by decide +kernel
theorem dL_isBestSo_237 : decode cL_isBestSo 237 = .ok (.ifCond .eq 24, 3) := by decide +kernel
theorem dL_isBestSo_240 : decode cL_isBestSo 240 = .ok (.iload 8, 2) := by decide +kernel
theorem dL_isBestSo_242 : decode cL_isBestSo 242 = .ok (.ifCond .ne 15, 3) := by decide +kernel
theorem dL_isBestSo_245 : decode cL_isBestSo 245 = .ok (.aload_n 0, 1) := by decide +kernel
theorem dL_isBestSo_246 : decode cL_isBestSo 246 = .ok (.iload 5, 2) := by decide +kernel
theorem dL_isBestSo_248 : decode cL_isBestSo 248 = .ok (.iload_n 1, 1) := by decide +kernel
theorem dL_isBestSo_249 : decode cL_isBestSo 249 = .ok (.invokevirtual 61, 3) := by decide +kernel
theorem dL_isBestSo_252 : decode cL_isBestSo 252 = .ok (.bipush (-5), 2) := by decide +kernel
theorem dL_isBestSo_254 : decode cL_isBestSo 254 = .ok (.if_icmp .ne 7, 3) := by decide +kernel
theorem dL_isBestSo_257 : decode cL_isBestSo 257 = .ok (.iconst 1, 1) := by decide +kernel
theorem dL_isBestSo_258 : decode cL_isBestSo 258 = .ok (.goto 4, 3) := by decide +kernel
theorem dL_isBestSo_261 : decode cL_isBestSo 261 = .ok (.iconst 0, 1) := by decide +kernel
theorem dL_isBestSo_262 : decode cL_isBestSo 262 = .ok (.istore_n 3, 1) := by decide +kernel
theorem dL_isBestSo_263 : decode cL_isBestSo 263 = .ok (.iload 6, 2) := by decide +kernel
theorem dL_isBestSo_265 : decode cL_isBestSo 265 = .ok (.ifCond .ne 147, 3) := by decide +kernel
theorem dL_isBestSo_268 : decode cL_isBestSo 268 = .ok (.iload 7, 2) := by decide +kernel
theorem dL_isBestSo_270 : decode cL_isBestSo 270 = .ok (.iload 4, 2) := by decide +kernel
theorem dL_isBestSo_272 : decode cL_isBestSo 272 = .ok (.isub, 1) := by decide +kernel
theorem dL_isBestSo_273 : decode cL_isBestSo 273 = .ok (.istore 9, 2) := by decide +kernel
theorem dL_isBestSo_275 : decode cL_isBestSo 275 = .ok (.iload 9, 2) := by decide +kernel
theorem dL_isBestSo_277 : decode cL_isBestSo 277 = .ok (.ifCond .ne 24, 3) := by decide +kernel
theorem dL_isBestSo_280 : decode cL_isBestSo 280 = .ok (.iload_n 2, 1) := by decide +kernel
theorem dL_isBestSo_281 : decode cL_isBestSo 281 = .ok (.ifCond .lt 20, 3) := by decide +kernel
theorem dL_isBestSo_284 : decode cL_isBestSo 284 = .ok (.aload_n 0, 1) := by decide +kernel
theorem dL_isBestSo_285 : decode cL_isBestSo 285 = .ok (.iload 5, 2) := by decide +kernel
theorem dL_isBestSo_287 : decode cL_isBestSo 287 = .ok (.iconst 2, 1) := by decide +kernel
theorem dL_isBestSo_288 : decode cL_isBestSo 288 = .ok (.invokevirtual 39, 3) := by decide +kernel
theorem dL_isBestSo_291 : decode cL_isBestSo 291 = .ok (.aload_n 0, 1) := by decide +kernel
theorem dL_isBestSo_292 : decode cL_isBestSo 292 = .ok (.iload_n 2, 1) := by decide +kernel
theorem dL_isBestSo_293 : decode cL_isBestSo 293 = .ok (.iconst 2, 1) := by decide +kernel
theorem dL_isBestSo_294 : decode cL_isBestSo 294 = .ok (.invokevirtual 39, 3) := by decide +kernel
theorem dL_isBestSo_297 : decode cL_isBestSo 297 = .ok (.isub, 1) := by decide +kernel
theorem dL_isBestSo_298 : decode cL_isBestSo 298 = .ok (.goto 5, 3) := by decide +kernel
theorem dL_isBestSo_301 : decode cL_isBestSo 301 = .ok (.iload 9, 2) := by decide +kernel
theorem dL_isBestSo_303 : decode cL_isBestSo 303 = .ok (.istore 9, 2) := by decide +kernel
theorem dL_isBestSo_305 : decode cL_isBestSo 305 = .ok (.iload 9, 2) := by decide +kernel
theorem dL_isBestSo_307 : decode cL_isBestSo 307 = .ok (.ifCond .ne 24, 3) := by decide +kernel
theorem dL_isBestSo_310 : decode cL_isBestSo 310 = .ok (.iload_n 2, 1) := by decide +kernel
theorem dL_isBestSo_311 : decode cL_isBestSo 311 = .ok (.ifCond .lt 20, 3) := by decide +kernel
theorem dL_isBestSo_314 : decode cL_isBestSo 314 = .ok (.aload_n 0, 1) := by decide +kernel
theorem dL_isBestSo_315 : decode cL_isBestSo 315 = .ok (.iload 5, 2) := by decide +kernel
theorem dL_isBestSo_317 : decode cL_isBestSo 317 = .ok (.iconst 0, 1) := by decide +kernel
theorem dL_isBestSo_318 : decode cL_isBestSo 318 = .ok (.invokevirtual 39, 3) := by decide +kernel
theorem dL_isBestSo_321 : decode cL_isBestSo 321 = .ok (.aload_n 0, 1) := by decide +kernel
theorem dL_isBestSo_322 : decode cL_isBestSo 322 = .ok (.iload_n 2, 1) := by decide +kernel
theorem dL_isBestSo_323 : decode cL_isBestSo 323 = .ok (.iconst 0, 1) := by decide +kernel
theorem dL_isBestSo_324 : decode cL_isBestSo 324 = .ok (.invokevirtual 39, 3) := by decide +kernel
theorem dL_isBestSo_327 : decode cL_isBestSo 327 = .ok (.isub, 1) := by decide +kernel
theorem dL_isBestSo_328 : decode cL_isBestSo 328 = .ok (.goto 5, 3) := by decide +kernel
theorem dL_isBestSo_331 : decode cL_isBestSo 331 = .ok (.iload 9, 2) := by decide +kernel
theorem dL_isBestSo_333 : decode cL_isBestSo 333 = .ok (.istore 9, 2) := by decide +kernel
theorem dL_isBestSo_335 : decode cL_isBestSo 335 = .ok (.iload_n 3, 1) := by decide +kernel
theorem dL_isBestSo_336 : decode cL_isBestSo 336 = .ok (.ifCond .eq 74, 3) := by decide +kernel
theorem dL_isBestSo_339 : decode cL_isBestSo 339 = .ok (.iload_n 2, 1) := by decide +kernel
theorem dL_isBestSo_340 : decode cL_isBestSo 340 = .ok (.ifCond .lt 70, 3) := by decide +kernel
theorem dL_isBestSo_343 : decode cL_isBestSo 343 = .ok (.iload 9, 2) := by decide +kernel
theorem dL_isBestSo_345 : decode cL_isBestSo 345 = .ok (.ifCond .gt 14, 3) := by decide +kernel
theorem dL_isBestSo_348 : decode cL_isBestSo 348 = .ok (.iload 9, 2) := by decide +kernel
theorem dL_isBestSo_350 : decode cL_isBestSo 350 = .ok (.ifCond .ne 60, 3) := by decide +kernel
theorem dL_isBestSo_353 : decode cL_isBestSo 353 = .ok (.iload 5, 2) := by decide +kernel
theorem dL_isBestSo_355 : decode cL_isBestSo 355 = .ok (.iload_n 2, 1) := by decide +kernel
theorem dL_isBestSo_356 : decode cL_isBestSo 356 = .ok (.if_icmp .lt 54, 3) := by decide +kernel
theorem dL_isBestSo_359 : decode cL_isBestSo 359 = .ok (.iload 8, 2) := by decide +kernel
theorem dL_isBestSo_361 : decode cL_isBestSo 361 = .ok (.ifCond .eq 49, 3) := by decide +kernel
theorem dL_isBestSo_364 : decode cL_isBestSo 364 = .ok (.aload_n 0, 1) := by decide +kernel
theorem dL_isBestSo_365 : decode cL_isBestSo 365 = .ok (.iload 5, 2) := by decide +kernel
theorem dL_isBestSo_367 : decode cL_isBestSo 367 = .ok (.iconst 5, 1) := by decide +kernel
theorem dL_isBestSo_368 : decode cL_isBestSo 368 = .ok (.invokevirtual 39, 3) := by decide +kernel
theorem dL_isBestSo_371 : decode cL_isBestSo 371 = .ok (.ifCond .ne 39, 3) := by decide +kernel
theorem dL_isBestSo_374 : decode cL_isBestSo 374 = .ok (.aload_n 0, 1) := by decide +kernel
theorem dL_isBestSo_375 : decode cL_isBestSo 375 = .ok (.iload 5, 2) := by decide +kernel
theorem dL_isBestSo_377 : decode cL_isBestSo 377 = .ok (.iconst 2, 1) := by decide +kernel
theorem dL_isBestSo_378 : decode cL_isBestSo 378 = .ok (.invokevirtual 39, 3) := by decide +kernel
theorem dL_isBestSo_381 : decode cL_isBestSo 381 = .ok (.aload_n 0, 1) := by decide +kernel
theorem dL_isBestSo_382 : decode cL_isBestSo 382 = .ok (.bipush 12, 2) := by decide +kernel
theorem dL_isBestSo_384 : decode cL_isBestSo 384 = .ok (.invokevirtual 36, 3) := by decide +kernel
theorem dL_isBestSo_387 : decode cL_isBestSo 387 = .ok (.if_icmp .ge 23, 3) := by decide +kernel
theorem dL_isBestSo_390 : decode cL_isBestSo 390 = .ok (.aload_n 0, 1) := by decide +kernel
theorem dL_isBestSo_391 : decode cL_isBestSo 391 = .ok (.iload 5, 2) := by decide +kernel
theorem dL_isBestSo_393 : decode cL_isBestSo 393 = .ok (.iconst 3, 1) := by decide +kernel
theorem dL_isBestSo_394 : decode cL_isBestSo 394 = .ok (.invokevirtual 39, 3) := by decide +kernel
theorem dL_isBestSo_397 : decode cL_isBestSo 397 = .ok (.aload_n 0, 1) := by decide +kernel
theorem dL_isBestSo_398 : decode cL_isBestSo 398 = .ok (.bipush 13, 2) := by decide +kernel
theorem dL_isBestSo_400 : decode cL_isBestSo 400 = .ok (.invokevirtual 36, 3) := by decide +kernel
theorem dL_isBestSo_403 : decode cL_isBestSo 403 = .ok (.if_icmp .ge 7, 3) := by decide +kernel
theorem dL_isBestSo_406 : decode cL_isBestSo 406 = .ok (.iconst 1, 1) := by decide +kernel
theorem dL_isBestSo_407 : decode cL_isBestSo 407 = .ok (.goto 4, 3) := by decide +kernel
theorem dL_isBestSo_410 : decode cL_isBestSo 410 = .ok (.iconst 0, 1) := by decide +kernel
theorem dL_isBestSo_411 : decode cL_isBestSo 411 = .ok (.istore_n 3, 1) := by decide +kernel
theorem dL_isBestSo_412 : decode cL_isBestSo 412 = .ok (.iinc 5 1, 3) := by decide +kernel
theorem dL_isBestSo_415 : decode cL_isBestSo 415 = .ok (.goto (-344), 3) := by decide +kernel
theorem dL_isBestSo_418 : decode cL_isBestSo 418 = .ok (.iconst 1, 1) := by decide +kernel
theorem dL_isBestSo_419 : decode cL_isBestSo 419 = .ok (.istore 5, 2) := by decide +kernel
theorem dL_isBestSo_421 : decode cL_isBestSo 421 = .ok (.iload 5, 2) := by decide +kernel
theorem dL_isBestSo_423 : decode cL_isBestSo 423 = .ok (.bipush 20, 2) := by decide +kernel
theorem dL_isBestSo_425 : decode cL_isBestSo 425 = .ok (.if_icmp .ge 65, 3) := by decide +kernel
theorem dL_isBestSo_428 : decode cL_isBestSo 428 = .ok (.aload_n 0, 1) := by decide +kernel
theorem dL_isBestSo_429 : decode cL_isBestSo 429 = .ok (.iload 5, 2) := by decide +kernel
theorem dL_isBestSo_431 : decode cL_isBestSo 431 = .ok (.iconst 0, 1) := by decide +kernel
theorem dL_isBestSo_432 : decode cL_isBestSo 432 = .ok (.invokevirtual 45, 3) := by decide +kernel
theorem dL_isBestSo_435 : decode cL_isBestSo 435 = .ok (.ifCond .lt 55, 3) := by decide +kernel
theorem dL_isBestSo_438 : decode cL_isBestSo 438 = .ok (.iload_n 3, 1) := by decide +kernel
theorem dL_isBestSo_439 : decode cL_isBestSo 439 = .ok (.ifCond .eq 43, 3) := by decide +kernel
theorem dL_isBestSo_442 : decode cL_isBestSo 442 = .ok (.aload_n 0, 1) := by decide +kernel
theorem dL_isBestSo_443 : decode cL_isBestSo 443 = .ok (.iload 5, 2) := by decide +kernel
theorem dL_isBestSo_445 : decode cL_isBestSo 445 = .ok (.iconst 0, 1) := by decide +kernel
theorem dL_isBestSo_446 : decode cL_isBestSo 446 = .ok (.invokevirtual 45, 3) := by decide +kernel
theorem dL_isBestSo_449 : decode cL_isBestSo 449 = .ok (.aload_n 0, 1) := by decide +kernel
theorem dL_isBestSo_450 : decode cL_isBestSo 450 = .ok (.iload 5, 2) := by decide +kernel
theorem dL_isBestSo_452 : decode cL_isBestSo 452 = .ok (.iconst 1, 1) := by decide +kernel
theorem dL_isBestSo_453 : decode cL_isBestSo 453 = .ok (.isub, 1) := by decide +kernel
theorem dL_isBestSo_454 : decode cL_isBestSo 454 = .ok (.iconst 0, 1) := by decide +kernel
theorem dL_isBestSo_455 : decode cL_isBestSo 455 = .ok (.invokevirtual 45, 3) := by decide +kernel
theorem dL_isBestSo_458 : decode cL_isBestSo 458 = .ok (.if_icmp .gt 24, 3) := by decide +kernel
theorem dL_isBestSo_461 : decode cL_isBestSo 461 = .ok (.aload_n 0, 1) := by decide +kernel
theorem dL_isBestSo_462 : decode cL_isBestSo 462 = .ok (.iload 5, 2) := by decide +kernel
theorem dL_isBestSo_464 : decode cL_isBestSo 464 = .ok (.iconst 1, 1) := by decide +kernel
theorem dL_isBestSo_465 : decode cL_isBestSo 465 = .ok (.isub, 1) := by decide +kernel
theorem dL_isBestSo_466 : decode cL_isBestSo 466 = .ok (.iconst 0, 1) := by decide +kernel
theorem dL_isBestSo_467 : decode cL_isBestSo 467 = .ok (.invokevirtual 45, 3) := by decide +kernel
theorem dL_isBestSo_470 : decode cL_isBestSo 470 = .ok (.aload_n 0, 1) := by decide +kernel
theorem dL_isBestSo_471 : decode cL_isBestSo 471 = .ok (.iconst 0, 1) := by decide +kernel
theorem dL_isBestSo_472 : decode cL_isBestSo 472 = .ok (.invokevirtual 36, 3) := by decide +kernel
theorem dL_isBestSo_475 : decode cL_isBestSo 475 = .ok (.if_icmp .ge 7, 3) := by decide +kernel
theorem dL_isBestSo_478 : decode cL_isBestSo 478 = .ok (.iconst 1, 1) := by decide +kernel
theorem dL_isBestSo_479 : decode cL_isBestSo 479 = .ok (.goto 4, 3) := by decide +kernel
theorem dL_isBestSo_482 : decode cL_isBestSo 482 = .ok (.iconst 0, 1) := by decide +kernel
theorem dL_isBestSo_483 : decode cL_isBestSo 483 = .ok (.istore_n 3, 1) := by decide +kernel
theorem dL_isBestSo_484 : decode cL_isBestSo 484 = .ok (.iinc 5 1, 3) := by decide +kernel
theorem dL_isBestSo_487 : decode cL_isBestSo 487 = .ok (.goto (-66), 3) := by decide +kernel
theorem dL_isBestSo_490 : decode cL_isBestSo 490 = .ok (.iload_n 3, 1) := by decide +kernel
theorem dL_isBestSo_491 : decode cL_isBestSo 491 = .ok (.ifCond .eq 49, 3) := by decide +kernel
theorem dL_isBestSo_494 : decode cL_isBestSo 494 = .ok (.aload_n 0, 1) := by decide +kernel
theorem dL_isBestSo_495 : decode cL_isBestSo 495 = .ok (.bipush 20, 2) := by decide +kernel
theorem dL_isBestSo_497 : decode cL_isBestSo 497 = .ok (.iconst 0, 1) := by decide +kernel
theorem dL_isBestSo_498 : decode cL_isBestSo 498 = .ok (.invokevirtual 45, 3) := by decide +kernel
theorem dL_isBestSo_501 : decode cL_isBestSo 501 = .ok (.bipush (-5), 2) := by decide +kernel
theorem dL_isBestSo_503 : decode cL_isBestSo 503 = .ok (.if_icmp .ne 37, 3) := by decide +kernel
theorem dL_isBestSo_506 : decode cL_isBestSo 506 = .ok (.aload_n 0, 1) := by decide +kernel
theorem dL_isBestSo_507 : decode cL_isBestSo 507 = .ok (.iconst 0, 1) := by decide +kernel
theorem dL_isBestSo_508 : decode cL_isBestSo 508 = .ok (.iconst 0, 1) := by decide +kernel
theorem dL_isBestSo_509 : decode cL_isBestSo 509 = .ok (.invokevirtual 45, 3) := by decide +kernel
theorem dL_isBestSo_512 : decode cL_isBestSo 512 = .ok (.ifCond .lt 7, 3) := by decide +kernel
theorem dL_isBestSo_515 : decode cL_isBestSo 515 = .ok (.iconst 1, 1) := by decide +kernel
theorem dL_isBestSo_516 : decode cL_isBestSo 516 = .ok (.goto 4, 3) := by decide +kernel
theorem dL_isBestSo_519 : decode cL_isBestSo 519 = .ok (.iconst 0, 1) := by decide +kernel
theorem dL_isBestSo_520 : decode cL_isBestSo 520 = .ok (.aload_n 0, 1) := by decide +kernel
theorem dL_isBestSo_521 : decode cL_isBestSo 521 = .ok (.iconst 5, 1) := by decide +kernel
theorem dL_isBestSo_522 : decode cL_isBestSo 522 = .ok (.invokevirtual 36, 3) := by decide +kernel
theorem dL_isBestSo_525 : decode cL_isBestSo 525 = .ok (.ifCond .le 7, 3) := by decide +kernel
theorem dL_isBestSo_528 : decode cL_isBestSo 528 = .ok (.iconst 1, 1) := by decide +kernel
theorem dL_isBestSo_529 : decode cL_isBestSo 529 = .ok (.goto 4, 3) := by decide +kernel
theorem dL_isBestSo_532 : decode cL_isBestSo 532 = .ok (.iconst 0, 1) := by decide +kernel
theorem dL_isBestSo_533 : decode cL_isBestSo 533 = .ok (.if_icmp .ne 7, 3) := by decide +kernel
theorem dL_isBestSo_536 : decode cL_isBestSo 536 = .ok (.iconst 1, 1) := by decide +kernel
theorem dL_isBestSo_537 : decode cL_isBestSo 537 = .ok (.goto 4, 3) := by decide +kernel
theorem dL_isBestSo_540 : decode cL_isBestSo 540 = .ok (.iconst 0, 1) := by decide +kernel
theorem dL_isBestSo_541 : decode cL_isBestSo 541 = .ok (.ireturn, 1) := by decide +kernel
theorem dL_law_0 : decode cL_law 0 = .ok (.new 15, 3) := by decide +kernel
theorem dL_law_3 : decode cL_law 3 = .ok (.dup, 1) := by decide +kernel
theorem dL_law_4 : decode cL_law 4 = .ok (.invokespecial 64, 3) := by decide +kernel
theorem dL_law_7 : decode cL_law 7 = .ok (.astore_n 1, 1) := by decide +kernel
theorem dL_law_8 : decode cL_law 8 = .ok (.new 15, 3) := by decide +kernel
theorem dL_law_11 : decode cL_law 11 = .ok (.dup, 1) := by decide +kernel
theorem dL_law_12 : decode cL_law 12 = .ok (.invokespecial 64, 3) := by decide +kernel
theorem dL_law_15 : decode cL_law 15 = .ok (.astore_n 2, 1) := by decide +kernel
theorem dL_law_16 : decode cL_law 16 = .ok (.iconst 0, 1) := by decide +kernel
theorem dL_law_17 : decode cL_law 17 = .ok (.istore_n 3, 1) := by decide +kernel
theorem dL_law_18 : decode cL_law 18 = .ok (.iload_n 3, 1) := by decide +kernel
theorem dL_law_19 : decode cL_law 19 = .ok (.bipush 46, 2) := by decide +kernel
theorem dL_law_21 : decode cL_law 21 = .ok (.if_icmp .ge 193, 3) := by decide +kernel
theorem dL_law_24 : decode cL_law 24 = .ok (.iload_n 3, 1) := by decide +kernel
theorem dL_law_25 : decode cL_law 25 = .ok (.iconst 5, 1) := by decide +kernel
theorem dL_law_26 : decode cL_law 26 = .ok (.if_icmp .ge 14, 3) := by decide +kernel
theorem dL_law_29 : decode cL_law 29 = .ok (.aload_n 0, 1) := by decide +kernel
theorem dL_law_30 : decode cL_law 30 = .ok (.iload_n 3, 1) := by decide +kernel
theorem dL_law_31 : decode cL_law 31 = .ok (.invokestatic 65, 3) := by decide +kernel
theorem dL_law_34 : decode cL_law 34 = .ok (.bipush (-16), 2) := by decide +kernel
theorem dL_law_36 : decode cL_law 36 = .ok (.iand, 1) := by decide +kernel
theorem dL_law_37 : decode cL_law 37 = .ok (.goto 8, 3) := by decide +kernel
theorem dL_law_40 : decode cL_law 40 = .ok (.aload_n 0, 1) := by decide +kernel
theorem dL_law_41 : decode cL_law 41 = .ok (.iload_n 3, 1) := by decide +kernel
theorem dL_law_42 : decode cL_law 42 = .ok (.invokestatic 65, 3) := by decide +kernel
theorem dL_law_45 : decode cL_law 45 = .ok (.istore 4, 2) := by decide +kernel
theorem dL_law_47 : decode cL_law 47 = .ok (.aload_n 1, 1) := by decide +kernel
theorem dL_law_48 : decode cL_law 48 = .ok (.bipush 17, 2) := by decide +kernel
theorem dL_law_50 : decode cL_law 50 = .ok (.invokevirtual 36, 3) := by decide +kernel
theorem dL_law_53 : decode cL_law 53 = .ok (.istore 5, 2) := by decide +kernel
theorem dL_law_55 : decode cL_law 55 = .ok (.aload_n 1, 1) := by decide +kernel
theorem dL_law_56 : decode cL_law 56 = .ok (.iload 4, 2) := by decide +kernel
theorem dL_law_58 : decode cL_law 58 = .ok (.invokestatic 69, 3) := by decide +kernel
theorem dL_law_61 : decode cL_law 61 = .ok (.istore 6, 2) := by decide +kernel
theorem dL_law_63 : decode cL_law 63 = .ok (.iload 6, 2) := by decide +kernel
theorem dL_law_65 : decode cL_law 65 = .ok (.ifCond .ge 24, 3) := by decide +kernel
theorem dL_law_68 : decode cL_law 68 = .ok (.aload_n 1, 1) := by decide +kernel
theorem dL_law_69 : decode cL_law 69 = .ok (.aload_n 2, 1) := by decide +kernel
theorem dL_law_70 : decode cL_law 70 = .ok (.invokestatic 73, 3) := by decide +kernel
theorem dL_law_73 : decode cL_law 73 = .ok (.ifCond .eq 14, 3) := by decide +kernel
theorem dL_law_76 : decode cL_law 76 = .ok (.aload_n 1, 1) := by decide +kernel
theorem dL_law_77 : decode cL_law 77 = .ok (.bipush 17, 2) := by decide +kernel
theorem dL_law_79 : decode cL_law 79 = .ok (.invokevirtual 36, 3) := by decide +kernel
theorem dL_law_82 : decode cL_law 82 = .ok (.iload 5, 2) := by decide +kernel
theorem dL_law_84 : decode cL_law 84 = .ok (.if_icmp .eq 5, 3) := by decide +kernel
theorem dL_law_87 : decode cL_law 87 = .ok (.iconst 0, 1) := by decide +kernel
theorem dL_law_88 : decode cL_law 88 = .ok (.ireturn, 1) := by decide +kernel
theorem dL_law_89 : decode cL_law 89 = .ok (.iload 6, 2) := by decide +kernel
theorem dL_law_91 : decode cL_law 91 = .ok (.ifCond .lt 57, 3) := by decide +kernel
theorem dL_law_94 : decode cL_law 94 = .ok (.iload 4, 2) := by decide +kernel
theorem dL_law_96 : decode cL_law 96 = .ok (.bipush 9, 2) := by decide +kernel
theorem dL_law_98 : decode cL_law 98 = .ok (.ishr, 1) := by decide +kernel
theorem dL_law_99 : decode cL_law 99 = .ok (.iconst 1, 1) := by decide +kernel
theorem dL_law_100 : decode cL_law 100 = .ok (.iand, 1) := by decide +kernel
theorem dL_law_101 : decode cL_law 101 = .ok (.ifCond .ne 47, 3) := by decide +kernel
theorem dL_law_104 : decode cL_law 104 = .ok (.aload_n 1, 1) := by decide +kernel
theorem dL_law_105 : decode cL_law 105 = .ok (.invokevirtual 77, 3) := by decide +kernel
theorem dL_law_108 : decode cL_law 108 = .ok (.istore 7, 2) := by decide +kernel
theorem dL_law_110 : decode cL_law 110 = .ok (.iload 7, 2) := by decide +kernel
theorem dL_law_112 : decode cL_law 112 = .ok (.iload 5, 2) := by decide +kernel
theorem dL_law_114 : decode cL_law 114 = .ok (.iconst 4, 1) := by decide +kernel
theorem dL_law_115 : decode cL_law 115 = .ok (.if_icmp .ne 7, 3) := by decide +kernel
theorem dL_law_118 : decode cL_law 118 = .ok (.iconst 3, 1) := by decide +kernel
theorem dL_law_119 : decode cL_law 119 = .ok (.goto 5, 3) := by decide +kernel
theorem dL_law_122 : decode cL_law 122 = .ok (.iload 5, 2) := by decide +kernel
theorem dL_law_124 : decode cL_law 124 = .ok (.if_icmp .ne 22, 3) := by decide +kernel
theorem dL_law_127 : decode cL_law 127 = .ok (.aload_n 1, 1) := by decide +kernel
theorem dL_law_128 : decode cL_law 128 = .ok (.aload_n 2, 1) := by decide +kernel
theorem dL_law_129 : decode cL_law 129 = .ok (.invokestatic 73, 3) := by decide +kernel
theorem dL_law_132 : decode cL_law 132 = .ok (.ifCond .eq 14, 3) := by decide +kernel
theorem dL_law_135 : decode cL_law 135 = .ok (.aload_n 1, 1) := by decide +kernel
theorem dL_law_136 : decode cL_law 136 = .ok (.iload 4, 2) := by decide +kernel
theorem dL_law_138 : decode cL_law 138 = .ok (.invokestatic 69, 3) := by decide +kernel
theorem dL_law_141 : decode cL_law 141 = .ok (.iload 6, 2) := by decide +kernel
theorem dL_law_143 : decode cL_law 143 = .ok (.if_icmp .eq 5, 3) := by decide +kernel
theorem dL_law_146 : decode cL_law 146 = .ok (.iconst 0, 1) := by decide +kernel
theorem dL_law_147 : decode cL_law 147 = .ok (.ireturn, 1) := by decide +kernel
theorem dL_law_148 : decode cL_law 148 = .ok (.aload_n 2, 1) := by decide +kernel
theorem dL_law_149 : decode cL_law 149 = .ok (.iload 4, 2) := by decide +kernel
theorem dL_law_151 : decode cL_law 151 = .ok (.invokestatic 69, 3) := by decide +kernel
theorem dL_law_154 : decode cL_law 154 = .ok (.iload 6, 2) := by decide +kernel
theorem dL_law_156 : decode cL_law 156 = .ok (.if_icmp .ne 11, 3) := by decide +kernel
theorem dL_law_159 : decode cL_law 159 = .ok (.aload_n 1, 1) := by decide +kernel
theorem dL_law_160 : decode cL_law 160 = .ok (.aload_n 2, 1) := by decide +kernel
theorem dL_law_161 : decode cL_law 161 = .ok (.invokestatic 73, 3) := by decide +kernel
theorem dL_law_164 : decode cL_law 164 = .ok (.ifCond .ne 5, 3) := by decide +kernel
theorem dL_law_167 : decode cL_law 167 = .ok (.iconst 0, 1) := by decide +kernel
theorem dL_law_168 : decode cL_law 168 = .ok (.ireturn, 1) := by decide +kernel
theorem dL_law_169 : decode cL_law 169 = .ok (.iload_n 3, 1) := by decide +kernel
theorem dL_law_170 : decode cL_law 170 = .ok (.iconst 4, 1) := by decide +kernel
theorem dL_law_171 : decode cL_law 171 = .ok (.irem, 1) := by decide +kernel
theorem dL_law_172 : decode cL_law 172 = .ok (.iconst 3, 1) := by decide +kernel
theorem dL_law_173 : decode cL_law 173 = .ok (.if_icmp .ne 35, 3) := by decide +kernel
theorem dL_law_176 : decode cL_law 176 = .ok (.aload_n 1, 1) := by decide +kernel
theorem dL_law_177 : decode cL_law 177 = .ok (.invokestatic 80, 3) := by decide +kernel
theorem dL_law_180 : decode cL_law 180 = .ok (.ifCond .eq 26, 3) := by decide +kernel
theorem dL_law_183 : decode cL_law 183 = .ok (.aload_n 1, 1) := by decide +kernel
theorem dL_law_184 : decode cL_law 184 = .ok (.invokestatic 84, 3) := by decide +kernel
theorem dL_law_187 : decode cL_law 187 = .ok (.ifCond .eq 19, 3) := by decide +kernel
theorem dL_law_190 : decode cL_law 190 = .ok (.aload_n 1, 1) := by decide +kernel
theorem dL_law_191 : decode cL_law 191 = .ok (.iload 4, 2) := by decide +kernel
theorem dL_law_193 : decode cL_law 193 = .ok (.iconst 5, 1) := by decide +kernel
theorem dL_law_194 : decode cL_law 194 = .ok (.ishr, 1) := by decide +kernel
theorem dL_law_195 : decode cL_law 195 = .ok (.bipush 12, 2) := by decide +kernel
theorem dL_law_197 : decode cL_law 197 = .ok (.invokestatic 8, 3) := by decide +kernel
theorem dL_law_200 : decode cL_law 200 = .ok (.invokestatic 87, 3) := by decide +kernel
theorem dL_law_203 : decode cL_law 203 = .ok (.ifCond .ne 5, 3) := by decide +kernel
theorem dL_law_206 : decode cL_law 206 = .ok (.iconst 0, 1) := by decide +kernel
theorem dL_law_207 : decode cL_law 207 = .ok (.ireturn, 1) := by decide +kernel
theorem dL_law_208 : decode cL_law 208 = .ok (.iinc 3 1, 3) := by decide +kernel
theorem dL_law_211 : decode cL_law 211 = .ok (.goto (-193), 3) := by decide +kernel
theorem dL_law_214 : decode cL_law 214 = .ok (.aload_n 1, 1) := by decide +kernel
theorem dL_law_215 : decode cL_law 215 = .ok (.invokestatic 80, 3) := by decide +kernel
theorem dL_law_218 : decode cL_law 218 = .ok (.ireturn, 1) := by decide +kernel
