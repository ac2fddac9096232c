theorem dX8_init_0 : decode cX8_init 0 = .ok (.aload_n 0, 1) := by decide +kernel
theorem dX8_init_1 : decode cX8_init 1 = .ok (.invokespecial 1, 3) := by decide +kernel
theorem dX8_init_4 : decode cX8_init 4 = .ok (.aload_n 0, 1) := by decide +kernel
theorem dX8_init_5 : decode cX8_init 5 = .ok (.bipush 64, 2) := by decide +kernel
theorem dX8_init_7 : decode cX8_init 7 = .ok (.newarray .int, 2) := by decide +kernel
theorem dX8_init_9 : decode cX8_init 9 = .ok (.dup, 1) := by decide +kernel
theorem dX8_init_10 : decode cX8_init 10 = .ok (.iconst 0, 1) := by decide +kernel
theorem dX8_init_11 : decode cX8_init 11 = .ok (.ldc 7, 2) := by decide +kernel
theorem dX8_init_13 : decode cX8_init 13 = .ok (.iastore, 1) := by decide +kernel
theorem dX8_init_14 : decode cX8_init 14 = .ok (.dup, 1) := by decide +kernel
theorem dX8_init_15 : decode cX8_init 15 = .ok (.iconst 1, 1) := by decide +kernel
theorem dX8_init_16 : decode cX8_init 16 = .ok (.ldc 8, 2) := by decide +kernel
theorem dX8_init_18 : decode cX8_init 18 = .ok (.iastore, 1) := by decide +kernel
theorem dX8_init_19 : decode cX8_init 19 = .ok (.dup, 1) := by decide +kernel
theorem dX8_init_20 : decode cX8_init 20 = .ok (.iconst 2, 1) := by decide +kernel
theorem dX8_init_21 : decode cX8_init 21 = .ok (.ldc 9, 2) := by decide +kernel
theorem dX8_init_23 : decode cX8_init 23 = .ok (.iastore, 1) := by decide +kernel
theorem dX8_init_24 : decode cX8_init 24 = .ok (.dup, 1) := by decide +kernel
theorem dX8_init_25 : decode cX8_init 25 = .ok (.iconst 3, 1) := by decide +kernel
theorem dX8_init_26 : decode cX8_init 26 = .ok (.ldc 10, 2) := by decide +kernel
theorem dX8_init_28 : decode cX8_init 28 = .ok (.iastore, 1) := by decide +kernel
theorem dX8_init_29 : decode cX8_init 29 = .ok (.dup, 1) := by decide +kernel
theorem dX8_init_30 : decode cX8_init 30 = .ok (.iconst 4, 1) := by decide +kernel
theorem dX8_init_31 : decode cX8_init 31 = .ok (.ldc 11, 2) := by decide +kernel
theorem dX8_init_33 : decode cX8_init 33 = .ok (.iastore, 1) := by decide +kernel
theorem dX8_init_34 : decode cX8_init 34 = .ok (.dup, 1) := by decide +kernel
theorem dX8_init_35 : decode cX8_init 35 = .ok (.iconst 5, 1) := by decide +kernel
theorem dX8_init_36 : decode cX8_init 36 = .ok (.ldc 12, 2) := by decide +kernel
theorem dX8_init_38 : decode cX8_init 38 = .ok (.iastore, 1) := by decide +kernel
theorem dX8_init_39 : decode cX8_init 39 = .ok (.dup, 1) := by decide +kernel
theorem dX8_init_40 : decode cX8_init 40 = .ok (.bipush 6, 2) := by decide +kernel
theorem dX8_init_42 : decode cX8_init 42 = .ok (.ldc 13, 2) := by decide +kernel
theorem dX8_init_44 : decode cX8_init 44 = .ok (.iastore, 1) := by decide +kernel
theorem dX8_init_45 : decode cX8_init 45 = .ok (.dup, 1) := by decide +kernel
theorem dX8_init_46 : decode cX8_init 46 = .ok (.bipush 7, 2) := by decide +kernel
theorem dX8_init_48 : decode cX8_init 48 = .ok (.ldc 14, 2) := by decide +kernel
theorem dX8_init_50 : decode cX8_init 50 = .ok (.iastore, 1) := by decide +kernel
theorem dX8_init_51 : decode cX8_init 51 = .ok (.dup, 1) := by decide +kernel
theorem dX8_init_52 : decode cX8_init 52 = .ok (.bipush 8, 2) := by decide +kernel
theorem dX8_init_54 : decode cX8_init 54 = .ok (.ldc 15, 2) := by decide +kernel
theorem dX8_init_56 : decode cX8_init 56 = .ok (.iastore, 1) := by decide +kernel
theorem dX8_init_57 : decode cX8_init 57 = .ok (.dup, 1) := by decide +kernel
theorem dX8_init_58 : decode cX8_init 58 = .ok (.bipush 9, 2) := by decide +kernel
theorem dX8_init_60 : decode cX8_init 60 = .ok (.ldc 16, 2) := by decide +kernel
theorem dX8_init_62 : decode cX8_init 62 = .ok (.iastore, 1) := by decide +kernel
theorem dX8_init_63 : decode cX8_init 63 = .ok (.dup, 1) := by decide +kernel
theorem dX8_init_64 : decode cX8_init 64 = .ok (.bipush 10, 2) := by decide +kernel
theorem dX8_init_66 : decode cX8_init 66 = .ok (.ldc 17, 2) := by decide +kernel
theorem dX8_init_68 : decode cX8_init 68 = .ok (.iastore, 1) := by decide +kernel
theorem dX8_init_69 : decode cX8_init 69 = .ok (.dup, 1) := by decide +kernel
theorem dX8_init_70 : decode cX8_init 70 = .ok (.bipush 11, 2) := by decide +kernel
theorem dX8_init_72 : decode cX8_init 72 = .ok (.ldc 18, 2) := by decide +kernel
theorem dX8_init_74 : decode cX8_init 74 = .ok (.iastore, 1) := by decide +kernel
theorem dX8_init_75 : decode cX8_init 75 = .ok (.dup, 1) := by decide +kernel
theorem dX8_init_76 : decode cX8_init 76 = .ok (.bipush 12, 2) := by decide +kernel
theorem dX8_init_78 : decode cX8_init 78 = .ok (.ldc 19, 2) := by decide +kernel
theorem dX8_init_80 : decode cX8_init 80 = .ok (.iastore, 1) := by decide +kernel
theorem dX8_init_81 : decode cX8_init 81 = .ok (.dup, 1) := by decide +kernel
theorem dX8_init_82 : decode cX8_init 82 = .ok (.bipush 13, 2) := by decide +kernel
theorem dX8_init_84 : decode cX8_init 84 = .ok (.ldc 20, 2) := by decide +kernel
theorem dX8_init_86 : decode cX8_init 86 = .ok (.iastore, 1) := by decide +kernel
theorem dX8_init_87 : decode cX8_init 87 = .ok (.dup, 1) := by decide +kernel
theorem dX8_init_88 : decode cX8_init 88 = .ok (.bipush 14, 2) := by decide +kernel
theorem dX8_init_90 : decode cX8_init 90 = .ok (.ldc 21, 2) := by decide +kernel
theorem dX8_init_92 : decode cX8_init 92 = .ok (.iastore, 1) := by decide +kernel
theorem dX8_init_93 : decode cX8_init 93 = .ok (.dup, 1) := by decide +kernel
theorem dX8_init_94 : decode cX8_init 94 = .ok (.bipush 15, 2) := by decide +kernel
theorem dX8_init_96 : decode cX8_init 96 = .ok (.ldc 22, 2) := by decide +kernel
theorem dX8_init_98 : decode cX8_init 98 = .ok (.iastore, 1) := by decide +kernel
theorem dX8_init_99 : decode cX8_init 99 = .ok (.dup, 1) := by decide +kernel
theorem dX8_init_100 : decode cX8_init 100 = .ok (.bipush 16, 2) := by decide +kernel
theorem dX8_init_102 : decode cX8_init 102 = .ok (.ldc 23, 2) := by decide +kernel
theorem dX8_init_104 : decode cX8_init 104 = .ok (.iastore, 1) := by decide +kernel
theorem dX8_init_105 : decode cX8_init 105 = .ok (.dup, 1) := by decide +kernel
theorem dX8_init_106 : decode cX8_init 106 = .ok (.bipush 17, 2) := by decide +kernel
theorem dX8_init_108 : decode cX8_init 108 = .ok (.ldc 24, 2) := by decide +kernel
theorem dX8_init_110 : decode cX8_init 110 = .ok (.iastore, 1) := by decide +kernel
theorem dX8_init_111 : decode cX8_init 111 = .ok (.dup, 1) := by decide +kernel
theorem dX8_init_112 : decode cX8_init 112 = .ok (.bipush 18, 2) := by decide +kernel
theorem dX8_init_114 : decode cX8_init 114 = .ok (.ldc 25, 2) := by decide +kernel
theorem dX8_init_116 : decode cX8_init 116 = .ok (.iastore, 1) := by decide +kernel
theorem dX8_init_117 : decode cX8_init 117 = .ok (.dup, 1) := by decide +kernel
theorem dX8_init_118 : decode cX8_init 118 = .ok (.bipush 19, 2) := by decide +kernel
theorem dX8_init_120 : decode cX8_init 120 = .ok (.ldc 26, 2) := by decide +kernel
theorem dX8_init_122 : decode cX8_init 122 = .ok (.iastore, 1) := by decide +kernel
theorem dX8_init_123 : decode cX8_init 123 = .ok (.dup, 1) := by decide +kernel
theorem dX8_init_124 : decode cX8_init 124 = .ok (.bipush 20, 2) := by decide +kernel
theorem dX8_init_126 : decode cX8_init 126 = .ok (.ldc 27, 2) := by decide +kernel
theorem dX8_init_128 : decode cX8_init 128 = .ok (.iastore, 1) := by decide +kernel
theorem dX8_init_129 : decode cX8_init 129 = .ok (.dup, 1) := by decide +kernel
theorem dX8_init_130 : decode cX8_init 130 = .ok (.bipush 21, 2) := by decide +kernel
theorem dX8_init_132 : decode cX8_init 132 = .ok (.ldc 28, 2) := by decide +kernel
theorem dX8_init_134 : decode cX8_init 134 = .ok (.iastore, 1) := by decide +kernel
theorem dX8_init_135 : decode cX8_init 135 = .ok (.dup, 1) := by decide +kernel
theorem dX8_init_136 : decode cX8_init 136 = .ok (.bipush 22, 2) := by decide +kernel
theorem dX8_init_138 : decode cX8_init 138 = .ok (.ldc 29, 2) := by decide +kernel
theorem dX8_init_140 : decode cX8_init 140 = .ok (.iastore, 1) := by decide +kernel
theorem dX8_init_141 : decode cX8_init 141 = .ok (.dup, 1) := by decide +kernel
theorem dX8_init_142 : decode cX8_init 142 = .ok (.bipush 23, 2) := by decide +kernel
theorem dX8_init_144 : decode cX8_init 144 = .ok (.ldc 30, 2) := by decide +kernel
theorem dX8_init_146 : decode cX8_init 146 = .ok (.iastore, 1) := by decide +kernel
theorem dX8_init_147 : decode cX8_init 147 = .ok (.dup, 1) := by decide +kernel
theorem dX8_init_148 : decode cX8_init 148 = .ok (.bipush 24, 2) := by decide +kernel
theorem dX8_init_150 : decode cX8_init 150 = .ok (.ldc 31, 2) := by decide +kernel
theorem dX8_init_152 : decode cX8_init 152 = .ok (.iastore, 1) := by decide +kernel
theorem dX8_init_153 : decode cX8_init 153 = .ok (.dup, 1) := by decide +kernel
theorem dX8_init_154 : decode cX8_init 154 = .ok (.bipush 25, 2) := by decide +kernel
theorem dX8_init_156 : decode cX8_init 156 = .ok (.ldc 32, 2) := by decide +kernel
theorem dX8_init_158 : decode cX8_init 158 = .ok (.iastore, 1) := by decide +kernel
theorem dX8_init_159 : decode cX8_init 159 = .ok (.dup, 1) := by decide +kernel
theorem dX8_init_160 : decode cX8_init 160 = .ok (.bipush 26, 2) := by decide +kernel
theorem dX8_init_162 : decode cX8_init 162 = .ok (.ldc 33, 2) := by decide +kernel
theorem dX8_init_164 : decode cX8_init 164 = .ok (.iastore, 1) := by decide +kernel
theorem dX8_init_165 : decode cX8_init 165 = .ok (.dup, 1) := by decide +kernel
theorem dX8_init_166 : decode cX8_init 166 = .ok (.bipush 27, 2) := by decide +kernel
theorem dX8_init_168 : decode cX8_init 168 = .ok (.ldc 34, 2) := by decide +kernel
theorem dX8_init_170 : decode cX8_init 170 = .ok (.iastore, 1) := by decide +kernel
theorem dX8_init_171 : decode cX8_init 171 = .ok (.dup, 1) := by decide +kernel
theorem dX8_init_172 : decode cX8_init 172 = .ok (.bipush 28, 2) := by decide +kernel
theorem dX8_init_174 : decode cX8_init 174 = .ok (.ldc 35, 2) := by decide +kernel
theorem dX8_init_176 : decode cX8_init 176 = .ok (.iastore, 1) := by decide +kernel
theorem dX8_init_177 : decode cX8_init 177 = .ok (.dup, 1) := by decide +kernel
theorem dX8_init_178 : decode cX8_init 178 = .ok (.bipush 29, 2) := by decide +kernel
theorem dX8_init_180 : decode cX8_init 180 = .ok (.ldc 36, 2) := by decide +kernel
theorem dX8_init_182 : decode cX8_init 182 = .ok (.iastore, 1) := by decide +kernel
theorem dX8_init_183 : decode cX8_init 183 = .ok (.dup, 1) := by decide +kernel
theorem dX8_init_184 : decode cX8_init 184 = .ok (.bipush 30, 2) := by decide +kernel
theorem dX8_init_186 : decode cX8_init 186 = .ok (.ldc 37, 2) := by decide +kernel
theorem dX8_init_188 : decode cX8_init 188 = .ok (.iastore, 1) := by decide +kernel
theorem dX8_init_189 : decode cX8_init 189 = .ok (.dup, 1) := by decide +kernel
theorem dX8_init_190 : decode cX8_init 190 = .ok (.bipush 31, 2) := by decide +kernel
theorem dX8_init_192 : decode cX8_init 192 = .ok (.ldc 38, 2) := by decide +kernel
theorem dX8_init_194 : decode cX8_init 194 = .ok (.iastore, 1) := by decide +kernel
theorem dX8_init_195 : decode cX8_init 195 = .ok (.dup, 1) := by decide +kernel
theorem dX8_init_196 : decode cX8_init 196 = .ok (.bipush 32, 2) := by decide +kernel
theorem dX8_init_198 : decode cX8_init 198 = .ok (.ldc 39, 2) := by decide +kernel
theorem dX8_init_200 : decode cX8_init 200 = .ok (.iastore, 1) := by decide +kernel
theorem dX8_init_201 : decode cX8_init 201 = .ok (.dup, 1) := by decide +kernel
theorem dX8_init_202 : decode cX8_init 202 = .ok (.bipush 33, 2) := by decide +kernel
theorem dX8_init_204 : decode cX8_init 204 = .ok (.ldc 40, 2) := by decide +kernel
theorem dX8_init_206 : decode cX8_init 206 = .ok (.iastore, 1) := by decide +kernel
theorem dX8_init_207 : decode cX8_init 207 = .ok (.dup, 1) := by decide +kernel
theorem dX8_init_208 : decode cX8_init 208 = .ok (.bipush 34, 2) := by decide +kernel
theorem dX8_init_210 : decode cX8_init 210 = .ok (.ldc 41, 2) := by decide +kernel
theorem dX8_init_212 : decode cX8_init 212 = .ok (.iastore, 1) := by decide +kernel
theorem dX8_init_213 : decode cX8_init 213 = .ok (.dup, 1) := by decide +kernel
theorem dX8_init_214 : decode cX8_init 214 = .ok (.bipush 35, 2) := by decide +kernel
theorem dX8_init_216 : decode cX8_init 216 = .ok (.ldc 42, 2) := by decide +kernel
theorem dX8_init_218 : decode cX8_init 218 = .ok (.iastore, 1) := by decide +kernel
theorem dX8_init_219 : decode cX8_init 219 = .ok (.dup, 1) := by decide +kernel
theorem dX8_init_220 : decode cX8_init 220 = .ok (.bipush 36, 2) := by decide +kernel
theorem dX8_init_222 : decode cX8_init 222 = .ok (.ldc 43, 2) := by decide +kernel
theorem dX8_init_224 : decode cX8_init 224 = .ok (.iastore, 1) := by decide +kernel
theorem dX8_init_225 : decode cX8_init 225 = .ok (.dup, 1) := by decide +kernel
theorem dX8_init_226 : decode cX8_init 226 = .ok (.bipush 37, 2) := by decide +kernel
theorem dX8_init_228 : decode cX8_init 228 = .ok (.ldc 44, 2) := by decide +kernel
theorem dX8_init_230 : decode cX8_init 230 = .ok (.iastore, 1) := by decide +kernel
theorem dX8_init_231 : decode cX8_init 231 = .ok (.dup, 1) := by decide +kernel
theorem dX8_init_232 : decode cX8_init 232 = .ok (.bipush 38, 2) := by decide +kernel
theorem dX8_init_234 : decode cX8_init 234 = .ok (.ldc 45, 2) := by decide +kernel
theorem dX8_init_236 : decode cX8_init 236 = .ok (.iastore, 1) := by decide +kernel
theorem dX8_init_237 : decode cX8_init 237 = .ok (.dup, 1) := by decide +kernel
theorem dX8_init_238 : decode cX8_init 238 = .ok (.bipush 39, 2) := by decide +kernel
theorem dX8_init_240 : decode cX8_init 240 = .ok (.ldc 46, 2) := by decide +kernel
theorem dX8_init_242 : decode cX8_init 242 = .ok (.iastore, 1) := by decide +kernel
theorem dX8_init_243 : decode cX8_init 243 = .ok (.dup, 1) := by decide +kernel
theorem dX8_init_244 : decode cX8_init 244 = .ok (.bipush 40, 2) := by decide +kernel
theorem dX8_init_246 : decode cX8_init 246 = .ok (.ldc 47, 2) := by decide +kernel
theorem dX8_init_248 : decode cX8_init 248 = .ok (.iastore, 1) := by decide +kernel
theorem dX8_init_249 : decode cX8_init 249 = .ok (.dup, 1) := by decide +kernel
theorem dX8_init_250 : decode cX8_init 250 = .ok (.bipush 41, 2) := by decide +kernel
theorem dX8_init_252 : decode cX8_init 252 = .ok (.ldc 48, 2) := by decide +kernel
theorem dX8_init_254 : decode cX8_init 254 = .ok (.iastore, 1) := by decide +kernel
theorem dX8_init_255 : decode cX8_init 255 = .ok (.dup, 1) := by decide +kernel
theorem dX8_init_256 : decode cX8_init 256 = .ok (.bipush 42, 2) := by decide +kernel
theorem dX8_init_258 : decode cX8_init 258 = .ok (.ldc 49, 2) := by decide +kernel
theorem dX8_init_260 : decode cX8_init 260 = .ok (.iastore, 1) := by decide +kernel
theorem dX8_init_261 : decode cX8_init 261 = .ok (.dup, 1) := by decide +kernel
theorem dX8_init_262 : decode cX8_init 262 = .ok (.bipush 43, 2) := by decide +kernel
theorem dX8_init_264 : decode cX8_init 264 = .ok (.ldc 50, 2) := by decide +kernel
theorem dX8_init_266 : decode cX8_init 266 = .ok (.iastore, 1) := by decide +kernel
theorem dX8_init_267 : decode cX8_init 267 = .ok (.dup, 1) := by decide +kernel
theorem dX8_init_268 : decode cX8_init 268 = .ok (.bipush 44, 2) := by decide +kernel
theorem dX8_init_270 : decode cX8_init 270 = .ok (.ldc 51, 2) := by decide +kernel
theorem dX8_init_272 : decode cX8_init 272 = .ok (.iastore, 1) := by decide +kernel
theorem dX8_init_273 : decode cX8_init 273 = .ok (.dup, 1) := by decide +kernel
theorem dX8_init_274 : decode cX8_init 274 = .ok (.bipush 45, 2) := by decide +kernel
theorem dX8_init_276 : decode cX8_init 276 = .ok (.ldc 52, 2) := by decide +kernel
theorem dX8_init_278 : decode cX8_init 278 = .ok (.iastore, 1) := by decide +kernel
theorem dX8_init_279 : decode cX8_init 279 = .ok (.dup, 1) := by decide +kernel
theorem dX8_init_280 : decode cX8_init 280 = .ok (.bipush 46, 2) := by decide +kernel
theorem dX8_init_282 : decode cX8_init 282 = .ok (.ldc 53, 2) := by decide +kernel
theorem dX8_init_284 : decode cX8_init 284 = .ok (.iastore, 1) := by decide +kernel
theorem dX8_init_285 : decode cX8_init 285 = .ok (.dup, 1) := by decide +kernel
theorem dX8_init_286 : decode cX8_init 286 = .ok (.bipush 47, 2) := by decide +kernel
theorem dX8_init_288 : decode cX8_init 288 = .ok (.ldc 54, 2) := by decide +kernel
theorem dX8_init_290 : decode cX8_init 290 = .ok (.iastore, 1) := by decide +kernel
theorem dX8_init_291 : decode cX8_init 291 = .ok (.dup, 1) := by decide +kernel
theorem dX8_init_292 : decode cX8_init 292 = .ok (.bipush 48, 2) := by decide +kernel
theorem dX8_init_294 : decode cX8_init 294 = .ok (.ldc 55, 2) := by decide +kernel
theorem dX8_init_296 : decode cX8_init 296 = .ok (.iastore, 1) := by decide +kernel
theorem dX8_init_297 : decode cX8_init 297 = .ok (.dup, 1) := by decide +kernel
theorem dX8_init_298 : decode cX8_init 298 = .ok (.bipush 49, 2) := by decide +kernel
theorem dX8_init_300 : decode cX8_init 300 = .ok (.ldc 56, 2) := by decide +kernel
theorem dX8_init_302 : decode cX8_init 302 = .ok (.iastore, 1) := by decide +kernel
theorem dX8_init_303 : decode cX8_init 303 = .ok (.dup, 1) := by decide +kernel
theorem dX8_init_304 : decode cX8_init 304 = .ok (.bipush 50, 2) := by decide +kernel
theorem dX8_init_306 : decode cX8_init 306 = .ok (.ldc 57, 2) := by decide +kernel
theorem dX8_init_308 : decode cX8_init 308 = .ok (.iastore, 1) := by decide +kernel
theorem dX8_init_309 : decode cX8_init 309 = .ok (.dup, 1) := by decide +kernel
theorem dX8_init_310 : decode cX8_init 310 = .ok (.bipush 51, 2) := by decide +kernel
theorem dX8_init_312 : decode cX8_init 312 = .ok (.ldc 58, 2) := by decide +kernel
theorem dX8_init_314 : decode cX8_init 314 = .ok (.iastore, 1) := by decide +kernel
theorem dX8_init_315 : decode cX8_init 315 = .ok (.dup, 1) := by decide +kernel
theorem dX8_init_316 : decode cX8_init 316 = .ok (.bipush 52, 2) := by decide +kernel
theorem dX8_init_318 : decode cX8_init 318 = .ok (.ldc 59, 2) := by decide +kernel
theorem dX8_init_320 : decode cX8_init 320 = .ok (.iastore, 1) := by decide +kernel
theorem dX8_init_321 : decode cX8_init 321 = .ok (.dup, 1) := by decide +kernel
theorem dX8_init_322 : decode cX8_init 322 = .ok (.bipush 53, 2) := by decide +kernel
theorem dX8_init_324 : decode cX8_init 324 = .ok (.ldc 60, 2) := by decide +kernel
theorem dX8_init_326 : decode cX8_init 326 = .ok (.iastore, 1) := by decide +kernel
theorem dX8_init_327 : decode cX8_init 327 = .ok (.dup, 1) := by decide +kernel
theorem dX8_init_328 : decode cX8_init 328 = .ok (.bipush 54, 2) := by decide +kernel
theorem dX8_init_330 : decode cX8_init 330 = .ok (.ldc 61, 2) := by decide +kernel
theorem dX8_init_332 : decode cX8_init 332 = .ok (.iastore, 1) := by decide +kernel
theorem dX8_init_333 : decode cX8_init 333 = .ok (.dup, 1) := by decide +kernel
theorem dX8_init_334 : decode cX8_init 334 = .ok (.bipush 55, 2) := by decide +kernel
theorem dX8_init_336 : decode cX8_init 336 = .ok (.ldc 62, 2) := by decide +kernel
theorem dX8_init_338 : decode cX8_init 338 = .ok (.iastore, 1) := by decide +kernel
theorem dX8_init_339 : decode cX8_init 339 = .ok (.dup, 1) := by decide +kernel
theorem dX8_init_340 : decode cX8_init 340 = .ok (.bipush 56, 2) := by decide +kernel
theorem dX8_init_342 : decode cX8_init 342 = .ok (.ldc 63, 2) := by decide +kernel
theorem dX8_init_344 : decode cX8_init 344 = .ok (.iastore, 1) := by decide +kernel
theorem dX8_init_345 : decode cX8_init 345 = .ok (.dup, 1) := by decide +kernel
theorem dX8_init_346 : decode cX8_init 346 = .ok (.bipush 57, 2) := by decide +kernel
theorem dX8_init_348 : decode cX8_init 348 = .ok (.ldc 64, 2) := by decide +kernel
theorem dX8_init_350 : decode cX8_init 350 = .ok (.iastore, 1) := by decide +kernel
theorem dX8_init_351 : decode cX8_init 351 = .ok (.dup, 1) := by decide +kernel
theorem dX8_init_352 : decode cX8_init 352 = .ok (.bipush 58, 2) := by decide +kernel
theorem dX8_init_354 : decode cX8_init 354 = .ok (.ldc 65, 2) := by decide +kernel
theorem dX8_init_356 : decode cX8_init 356 = .ok (.iastore, 1) := by decide +kernel
theorem dX8_init_357 : decode cX8_init 357 = .ok (.dup, 1) := by decide +kernel
theorem dX8_init_358 : decode cX8_init 358 = .ok (.bipush 59, 2) := by decide +kernel
theorem dX8_init_360 : decode cX8_init 360 = .ok (.ldc 66, 2) := by decide +kernel
theorem dX8_init_362 : decode cX8_init 362 = .ok (.iastore, 1) := by decide +kernel
theorem dX8_init_363 : decode cX8_init 363 = .ok (.dup, 1) := by decide +kernel
theorem dX8_init_364 : decode cX8_init 364 = .ok (.bipush 60, 2) := by decide +kernel
theorem dX8_init_366 : decode cX8_init 366 = .ok (.ldc 67, 2) := by decide +kernel
theorem dX8_init_368 : decode cX8_init 368 = .ok (.iastore, 1) := by decide +kernel
theorem dX8_init_369 : decode cX8_init 369 = .ok (.dup, 1) := by decide +kernel
theorem dX8_init_370 : decode cX8_init 370 = .ok (.bipush 61, 2) := by decide +kernel
theorem dX8_init_372 : decode cX8_init 372 = .ok (.ldc 68, 2) := by decide +kernel
theorem dX8_init_374 : decode cX8_init 374 = .ok (.iastore, 1) := by decide +kernel
theorem dX8_init_375 : decode cX8_init 375 = .ok (.dup, 1) := by decide +kernel
theorem dX8_init_376 : decode cX8_init 376 = .ok (.bipush 62, 2) := by decide +kernel
theorem dX8_init_378 : decode cX8_init 378 = .ok (.ldc 69, 2) := by decide +kernel
theorem dX8_init_380 : decode cX8_init 380 = .ok (.iastore, 1) := by decide +kernel
theorem dX8_init_381 : decode cX8_init 381 = .ok (.dup, 1) := by decide +kernel
theorem dX8_init_382 : decode cX8_init 382 = .ok (.bipush 63, 2) := by decide +kernel
theorem dX8_init_384 : decode cX8_init 384 = .ok (.ldc 70, 2) := by decide +kernel
theorem dX8_init_386 : decode cX8_init 386 = .ok (.iastore, 1) := by decide +kernel
theorem dX8_init_387 : decode cX8_init 387 = .ok (.putfield 71, 3) := by decide +kernel
theorem dX8_init_390 : decode cX8_init 390 = .ok (.aload_n 0, 1) := by decide +kernel
theorem dX8_init_391 : decode cX8_init 391 = .ok (.bipush 8, 2) := by decide +kernel
theorem dX8_init_393 : decode cX8_init 393 = .ok (.newarray .int, 2) := by decide +kernel
theorem dX8_init_395 : decode cX8_init 395 = .ok (.dup, 1) := by decide +kernel
theorem dX8_init_396 : decode cX8_init 396 = .ok (.iconst 0, 1) := by decide +kernel
theorem dX8_init_397 : decode cX8_init 397 = .ok (.ldc 77, 2) := by decide +kernel
theorem dX8_init_399 : decode cX8_init 399 = .ok (.iastore, 1) := by decide +kernel
theorem dX8_init_400 : decode cX8_init 400 = .ok (.dup, 1) := by decide +kernel
theorem dX8_init_401 : decode cX8_init 401 = .ok (.iconst 1, 1) := by decide +kernel
theorem dX8_init_402 : decode cX8_init 402 = .ok (.ldc 78, 2) := by decide +kernel
theorem dX8_init_404 : decode cX8_init 404 = .ok (.iastore, 1) := by decide +kernel
theorem dX8_init_405 : decode cX8_init 405 = .ok (.dup, 1) := by decide +kernel
theorem dX8_init_406 : decode cX8_init 406 = .ok (.iconst 2, 1) := by decide +kernel
theorem dX8_init_407 : decode cX8_init 407 = .ok (.ldc 79, 2) := by decide +kernel
theorem dX8_init_409 : decode cX8_init 409 = .ok (.iastore, 1) := by decide +kernel
theorem dX8_init_410 : decode cX8_init 410 = .ok (.dup, 1) := by decide +kernel
theorem dX8_init_411 : decode cX8_init 411 = .ok (.iconst 3, 1) := by decide +kernel
theorem dX8_init_412 : decode cX8_init 412 = .ok (.ldc 80, 2) := by decide +kernel
theorem dX8_init_414 : decode cX8_init 414 = .ok (.iastore, 1) := by decide +kernel
theorem dX8_init_415 : decode cX8_init 415 = .ok (.dup, 1) := by decide +kernel
theorem dX8_init_416 : decode cX8_init 416 = .ok (.iconst 4, 1) := by decide +kernel
theorem dX8_init_417 : decode cX8_init 417 = .ok (.ldc 81, 2) := by decide +kernel
theorem dX8_init_419 : decode cX8_init 419 = .ok (.iastore, 1) := by decide +kernel
theorem dX8_init_420 : decode cX8_init 420 = .ok (.dup, 1) := by decide +kernel
theorem dX8_init_421 : decode cX8_init 421 = .ok (.iconst 5, 1) := by decide +kernel
theorem dX8_init_422 : decode cX8_init 422 = .ok (.ldc 82, 2) := by decide +kernel
theorem dX8_init_424 : decode cX8_init 424 = .ok (.iastore, 1) := by decide +kernel
theorem dX8_init_425 : decode cX8_init 425 = .ok (.dup, 1) := by decide +kernel
theorem dX8_init_426 : decode cX8_init 426 = .ok (.bipush 6, 2) := by decide +kernel
theorem dX8_init_428 : decode cX8_init 428 = .ok (.ldc 83, 2) := by decide +kernel
theorem dX8_init_430 : decode cX8_init 430 = .ok (.iastore, 1) := by decide +kernel
theorem dX8_init_431 : decode cX8_init 431 = .ok (.dup, 1) := by decide +kernel
theorem dX8_init_432 : decode cX8_init 432 = .ok (.bipush 7, 2) := by decide +kernel
theorem dX8_init_434 : decode cX8_init 434 = .ok (.ldc 84, 2) := by decide +kernel
theorem dX8_init_436 : decode cX8_init 436 = .ok (.iastore, 1) := by decide +kernel
theorem dX8_init_437 : decode cX8_init 437 = .ok (.putfield 85, 3) := by decide +kernel
theorem dX8_init_440 : decode cX8_init 440 = .ok (.aload_n 0, 1) := by decide +kernel
theorem dX8_init_441 : decode cX8_init 441 = .ok (.bipush 8, 2) := by decide +kernel
theorem dX8_init_443 : decode cX8_init 443 = .ok (.newarray .int, 2) := by decide +kernel
theorem dX8_init_445 : decode cX8_init 445 = .ok (.putfield 88, 3) := by decide +kernel
theorem dX8_init_448 : decode cX8_init 448 = .ok (.aload_n 0, 1) := by decide +kernel
theorem dX8_init_449 : decode cX8_init 449 = .ok (.bipush 64, 2) := by decide +kernel
theorem dX8_init_451 : decode cX8_init 451 = .ok (.newarray .int, 2) := by decide +kernel
theorem dX8_init_453 : decode cX8_init 453 = .ok (.putfield 91, 3) := by decide +kernel
theorem dX8_init_456 : decode cX8_init 456 = .ok (.aload_n 0, 1) := by decide +kernel
theorem dX8_init_457 : decode cX8_init 457 = .ok (.sipush 256, 3) := by decide +kernel
theorem dX8_init_460 : decode cX8_init 460 = .ok (.newarray .int, 2) := by decide +kernel
theorem dX8_init_462 : decode cX8_init 462 = .ok (.putfield 94, 3) := by decide +kernel
theorem dX8_init_465 : decode cX8_init 465 = .ok (.aload_n 0, 1) := by decide +kernel
theorem dX8_init_466 : decode cX8_init 466 = .ok (.bipush 32, 2) := by decide +kernel
theorem dX8_init_468 : decode cX8_init 468 = .ok (.newarray .int, 2) := by decide +kernel
theorem dX8_init_470 : decode cX8_init 470 = .ok (.putfield 97, 3) := by decide +kernel
theorem dX8_init_473 : decode cX8_init 473 = .ok (.aload_n 0, 1) := by decide +kernel
theorem dX8_init_474 : decode cX8_init 474 = .ok (.bipush 64, 2) := by decide +kernel
theorem dX8_init_476 : decode cX8_init 476 = .ok (.newarray .int, 2) := by decide +kernel
theorem dX8_init_478 : decode cX8_init 478 = .ok (.putfield 100, 3) := by decide +kernel
theorem dX8_init_481 : decode cX8_init 481 = .ok (.aload_n 0, 1) := by decide +kernel
theorem dX8_init_482 : decode cX8_init 482 = .ok (.bipush 64, 2) := by decide +kernel
theorem dX8_init_484 : decode cX8_init 484 = .ok (.newarray .int, 2) := by decide +kernel
theorem dX8_init_486 : decode cX8_init 486 = .ok (.putfield 103, 3) := by decide +kernel
theorem dX8_init_489 : decode cX8_init 489 = .ok (.aload_n 0, 1) := by decide +kernel
theorem dX8_init_490 : decode cX8_init 490 = .ok (.ldc2_w 106, 3) := by decide +kernel
theorem dX8_init_493 : decode cX8_init 493 = .ok (.putfield 108, 3) := by decide +kernel
theorem dX8_init_496 : decode cX8_init 496 = .ok (.aload_n 0, 1) := by decide +kernel
theorem dX8_init_497 : decode cX8_init 497 = .ok (.ldc2_w 106, 3) := by decide +kernel
theorem dX8_init_500 : decode cX8_init 500 = .ok (.putfield 112, 3) := by decide +kernel
theorem dX8_init_503 : decode cX8_init 503 = .ok (.aload_n 0, 1) := by decide +kernel
theorem dX8_init_504 : decode cX8_init 504 = .ok (.ldc2_w 106, 3) := by decide +kernel
theorem dX8_init_507 : decode cX8_init 507 = .ok (.putfield 115, 3) := by decide +kernel
theorem dX8_init_510 : decode cX8_init 510 = .ok (.aload_n 0, 1) := by decide +kernel
theorem dX8_init_511 : decode cX8_init 511 = .ok (.iconst 1, 1) := by decide +kernel
theorem dX8_init_512 : decode cX8_init 512 = .ok (.putfield 118, 3) := by decide +kernel
theorem dX8_init_515 : decode cX8_init 515 = .ok (.aload_n 0, 1) := by decide +kernel
theorem dX8_init_516 : decode cX8_init 516 = .ok (.iconst 5, 1) := by decide +kernel
theorem dX8_init_517 : decode cX8_init 517 = .ok (.newarray .int, 2) := by decide +kernel
theorem dX8_init_519 : decode cX8_init 519 = .ok (.putfield 122, 3) := by decide +kernel
theorem dX8_init_522 : decode cX8_init 522 = .ok (.aload_n 0, 1) := by decide +kernel
theorem dX8_init_523 : decode cX8_init 523 = .ok (.bipush 80, 2) := by decide +kernel
theorem dX8_init_525 : decode cX8_init 525 = .ok (.newarray .int, 2) := by decide +kernel
theorem dX8_init_527 : decode cX8_init 527 = .ok (.putfield 125, 3) := by decide +kernel
theorem dX8_init_530 : decode cX8_init 530 = .ok (.aload_n 0, 1) := by decide +kernel
theorem dX8_init_531 : decode cX8_init 531 = .ok (.iconst 5, 1) := by decide +kernel
theorem dX8_init_532 : decode cX8_init 532 = .ok (.newarray .long, 2) := by decide +kernel
theorem dX8_init_534 : decode cX8_init 534 = .ok (.putfield 128, 3) := by decide +kernel
theorem dX8_init_537 : decode cX8_init 537 = .ok (.aload_n 0, 1) := by decide +kernel
theorem dX8_init_538 : decode cX8_init 538 = .ok (.bipush 8, 2) := by decide +kernel
theorem dX8_init_540 : decode cX8_init 540 = .ok (.newarray .boolean, 2) := by decide +kernel
theorem dX8_init_542 : decode cX8_init 542 = .ok (.putfield 132, 3) := by decide +kernel
theorem dX8_init_545 : decode cX8_init 545 = .ok (.aload_n 0, 1) := by decide +kernel
theorem dX8_init_546 : decode cX8_init 546 = .ok (.bipush 8, 2) := by decide +kernel
theorem dX8_init_548 : decode cX8_init 548 = .ok (.newarray .int, 2) := by decide +kernel
theorem dX8_init_550 : decode cX8_init 550 = .ok (.putfield 136, 3) := by decide +kernel
theorem dX8_init_553 : decode cX8_init 553 = .ok (.aload_n 0, 1) := by decide +kernel
theorem dX8_init_554 : decode cX8_init 554 = .ok (.bipush 8, 2) := by decide +kernel
theorem dX8_init_556 : decode cX8_init 556 = .ok (.newarray .int, 2) := by decide +kernel
theorem dX8_init_558 : decode cX8_init 558 = .ok (.putfield 139, 3) := by decide +kernel
theorem dX8_init_561 : decode cX8_init 561 = .ok (.aload_n 0, 1) := by decide +kernel
theorem dX8_init_562 : decode cX8_init 562 = .ok (.bipush 8, 2) := by decide +kernel
theorem dX8_init_564 : decode cX8_init 564 = .ok (.newarray .boolean, 2) := by decide +kernel
theorem dX8_init_566 : decode cX8_init 566 = .ok (.putfield 142, 3) := by decide +kernel
theorem dX8_init_569 : decode cX8_init 569 = .ok (.aload_n 0, 1) := by decide +kernel
theorem dX8_init_570 : decode cX8_init 570 = .ok (.bipush 8, 2) := by decide +kernel
theorem dX8_init_572 : decode cX8_init 572 = .ok (.newarray .int, 2) := by decide +kernel
theorem dX8_init_574 : decode cX8_init 574 = .ok (.putfield 145, 3) := by decide +kernel
theorem dX8_init_577 : decode cX8_init 577 = .ok (.aload_n 0, 1) := by decide +kernel
theorem dX8_init_578 : decode cX8_init 578 = .ok (.bipush 8, 2) := by decide +kernel
theorem dX8_init_580 : decode cX8_init 580 = .ok (.newarray .long, 2) := by decide +kernel
theorem dX8_init_582 : decode cX8_init 582 = .ok (.putfield 148, 3) := by decide +kernel
theorem dX8_init_585 : decode cX8_init 585 = .ok (.aload_n 0, 1) := by decide +kernel
theorem dX8_init_586 : decode cX8_init 586 = .ok (.bipush 8, 2) := by decide +kernel
theorem dX8_init_588 : decode cX8_init 588 = .ok (.newarray .long, 2) := by decide +kernel
theorem dX8_init_590 : decode cX8_init 590 = .ok (.putfield 151, 3) := by decide +kernel
theorem dX8_init_593 : decode cX8_init 593 = .ok (.aload_n 0, 1) := by decide +kernel
theorem dX8_init_594 : decode cX8_init 594 = .ok (.bipush 8, 2) := by decide +kernel
theorem dX8_init_596 : decode cX8_init 596 = .ok (.newarray .long, 2) := by decide +kernel
theorem dX8_init_598 : decode cX8_init 598 = .ok (.putfield 154, 3) := by decide +kernel
theorem dX8_init_601 : decode cX8_init 601 = .ok (.aload_n 0, 1) := by decide +kernel
theorem dX8_init_602 : decode cX8_init 602 = .ok (.iconst 2, 1) := by decide +kernel
theorem dX8_init_603 : decode cX8_init 603 = .ok (.newarray .int, 2) := by decide +kernel
theorem dX8_init_605 : decode cX8_init 605 = .ok (.putfield 157, 3) := by decide +kernel
theorem dX8_init_608 : decode cX8_init 608 = .ok (.aload_n 0, 1) := by decide +kernel
theorem dX8_init_609 : decode cX8_init 609 = .ok (.bipush 80, 2) := by decide +kernel
theorem dX8_init_611 : decode cX8_init 611 = .ok (.newarray .int, 2) := by decide +kernel
theorem dX8_init_613 : decode cX8_init 613 = .ok (.putfield 160, 3) := by decide +kernel
theorem dX8_init_616 : decode cX8_init 616 = .ok (.aload_n 0, 1) := by decide +kernel
theorem dX8_init_617 : decode cX8_init 617 = .ok (.bipush 24, 2) := by decide +kernel
theorem dX8_init_619 : decode cX8_init 619 = .ok (.newarray .int, 2) := by decide +kernel
theorem dX8_init_621 : decode cX8_init 621 = .ok (.putfield 163, 3) := by decide +kernel
theorem dX8_init_624 : decode cX8_init 624 = .ok (.return_, 1) := by decide +kernel
