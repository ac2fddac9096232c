theorem dX8_block_0 : decode cX8_block 0 = .ok (.iconst 0, 1) := by decide +kernel
theorem dX8_block_1 : decode cX8_block 1 = .ok (.istore_n 2, 1) := by decide +kernel
theorem dX8_block_2 : decode cX8_block 2 = .ok (.iload_n 2, 1) := by decide +kernel
theorem dX8_block_3 : decode cX8_block 3 = .ok (.bipush 16, 2) := by decide +kernel
theorem dX8_block_5 : decode cX8_block 5 = .ok (.if_icmp .ge 63, 3) := by decide +kernel
theorem dX8_block_8 : decode cX8_block 8 = .ok (.iload_n 1, 1) := by decide +kernel
theorem dX8_block_9 : decode cX8_block 9 = .ok (.iconst 4, 1) := by decide +kernel
theorem dX8_block_10 : decode cX8_block 10 = .ok (.iload_n 2, 1) := by decide +kernel
theorem dX8_block_11 : decode cX8_block 11 = .ok (.imul, 1) := by decide +kernel
theorem dX8_block_12 : decode cX8_block 12 = .ok (.iadd, 1) := by decide +kernel
theorem dX8_block_13 : decode cX8_block 13 = .ok (.istore_n 3, 1) := by decide +kernel
theorem dX8_block_14 : decode cX8_block 14 = .ok (.aload_n 0, 1) := by decide +kernel
theorem dX8_block_15 : decode cX8_block 15 = .ok (.getfield 91, 3) := by decide +kernel
theorem dX8_block_18 : decode cX8_block 18 = .ok (.iload_n 2, 1) := by decide +kernel
theorem dX8_block_19 : decode cX8_block 19 = .ok (.aload_n 0, 1) := by decide +kernel
theorem dX8_block_20 : decode cX8_block 20 = .ok (.getfield 94, 3) := by decide +kernel
theorem dX8_block_23 : decode cX8_block 23 = .ok (.iload_n 3, 1) := by decide +kernel
theorem dX8_block_24 : decode cX8_block 24 = .ok (.iaload, 1) := by decide +kernel
theorem dX8_block_25 : decode cX8_block 25 = .ok (.bipush 24, 2) := by decide +kernel
theorem dX8_block_27 : decode cX8_block 27 = .ok (.ishl, 1) := by decide +kernel
theorem dX8_block_28 : decode cX8_block 28 = .ok (.aload_n 0, 1) := by decide +kernel
theorem dX8_block_29 : decode cX8_block 29 = .ok (.getfield 94, 3) := by decide +kernel
theorem dX8_block_32 : decode cX8_block 32 = .ok (.iload_n 3, 1) := by decide +kernel
theorem dX8_block_33 : decode cX8_block 33 = .ok (.iconst 1, 1) := by decide +kernel
theorem dX8_block_34 : decode cX8_block 34 = .ok (.iadd, 1) := by decide +kernel
theorem dX8_block_35 : decode cX8_block 35 = .ok (.iaload, 1) := by decide +kernel
theorem dX8_block_36 : decode cX8_block 36 = .ok (.bipush 16, 2) := by decide +kernel
theorem dX8_block_38 : decode cX8_block 38 = .ok (.ishl, 1) := by decide +kernel
theorem dX8_block_39 : decode cX8_block 39 = .ok (.ior, 1) := by decide +kernel
theorem dX8_block_40 : decode cX8_block 40 = .ok (.aload_n 0, 1) := by decide +kernel
theorem dX8_block_41 : decode cX8_block 41 = .ok (.getfield 94, 3) := by decide +kernel
theorem dX8_block_44 : decode cX8_block 44 = .ok (.iload_n 3, 1) := by decide +kernel
theorem dX8_block_45 : decode cX8_block 45 = .ok (.iconst 2, 1) := by decide +kernel
theorem dX8_block_46 : decode cX8_block 46 = .ok (.iadd, 1) := by decide +kernel
theorem dX8_block_47 : decode cX8_block 47 = .ok (.iaload, 1) := by decide +kernel
theorem dX8_block_48 : decode cX8_block 48 = .ok (.bipush 8, 2) := by decide +kernel
theorem dX8_block_50 : decode cX8_block 50 = .ok (.ishl, 1) := by decide +kernel
theorem dX8_block_51 : decode cX8_block 51 = .ok (.ior, 1) := by decide +kernel
theorem dX8_block_52 : decode cX8_block 52 = .ok (.aload_n 0, 1) := by decide +kernel
theorem dX8_block_53 : decode cX8_block 53 = .ok (.getfield 94, 3) := by decide +kernel
theorem dX8_block_56 : decode cX8_block 56 = .ok (.iload_n 3, 1) := by decide +kernel
theorem dX8_block_57 : decode cX8_block 57 = .ok (.iconst 3, 1) := by decide +kernel
theorem dX8_block_58 : decode cX8_block 58 = .ok (.iadd, 1) := by decide +kernel
theorem dX8_block_59 : decode cX8_block 59 = .ok (.iaload, 1) := by decide +kernel
theorem dX8_block_60 : decode cX8_block 60 = .ok (.ior, 1) := by decide +kernel
theorem dX8_block_61 : decode cX8_block 61 = .ok (.iastore, 1) := by decide +kernel
theorem dX8_block_62 : decode cX8_block 62 = .ok (.iinc 2 1, 3) := by decide +kernel
theorem dX8_block_65 : decode cX8_block 65 = .ok (.goto (-63), 3) := by decide +kernel
theorem dX8_block_68 : decode cX8_block 68 = .ok (.bipush 16, 2) := by decide +kernel
theorem dX8_block_70 : decode cX8_block 70 = .ok (.istore_n 2, 1) := by decide +kernel
theorem dX8_block_71 : decode cX8_block 71 = .ok (.iload_n 2, 1) := by decide +kernel
theorem dX8_block_72 : decode cX8_block 72 = .ok (.bipush 64, 2) := by decide +kernel
theorem dX8_block_74 : decode cX8_block 74 = .ok (.if_icmp .ge 94, 3) := by decide +kernel
theorem dX8_block_77 : decode cX8_block 77 = .ok (.aload_n 0, 1) := by decide +kernel
theorem dX8_block_78 : decode cX8_block 78 = .ok (.getfield 91, 3) := by decide +kernel
theorem dX8_block_81 : decode cX8_block 81 = .ok (.iload_n 2, 1) := by decide +kernel
theorem dX8_block_82 : decode cX8_block 82 = .ok (.bipush 15, 2) := by decide +kernel
theorem dX8_block_84 : decode cX8_block 84 = .ok (.isub, 1) := by decide +kernel
theorem dX8_block_85 : decode cX8_block 85 = .ok (.iaload, 1) := by decide +kernel
theorem dX8_block_86 : decode cX8_block 86 = .ok (.istore_n 3, 1) := by decide +kernel
theorem dX8_block_87 : decode cX8_block 87 = .ok (.aload_n 0, 1) := by decide +kernel
theorem dX8_block_88 : decode cX8_block 88 = .ok (.getfield 91, 3) := by decide +kernel
theorem dX8_block_91 : decode cX8_block 91 = .ok (.iload_n 2, 1) := by decide +kernel
theorem dX8_block_92 : decode cX8_block 92 = .ok (.iconst 2, 1) := by decide +kernel
theorem dX8_block_93 : decode cX8_block 93 = .ok (.isub, 1) := by decide +kernel
theorem dX8_block_94 : decode cX8_block 94 = .ok (.iaload, 1) := by decide +kernel
theorem dX8_block_95 : decode cX8_block 95 = .ok (.istore 4, 2) := by decide +kernel
theorem dX8_block_97 : decode cX8_block 97 = .ok (.aload_n 0, 1) := by decide +kernel
theorem dX8_block_98 : decode cX8_block 98 = .ok (.getfield 91, 3) := by decide +kernel
theorem dX8_block_101 : decode cX8_block 101 = .ok (.iload_n 2, 1) := by decide +kernel
theorem dX8_block_102 : decode cX8_block 102 = .ok (.aload_n 0, 1) := by decide +kernel
theorem dX8_block_103 : decode cX8_block 103 = .ok (.getfield 91, 3) := by decide +kernel
theorem dX8_block_106 : decode cX8_block 106 = .ok (.iload_n 2, 1) := by decide +kernel
theorem dX8_block_107 : decode cX8_block 107 = .ok (.bipush 16, 2) := by decide +kernel
theorem dX8_block_109 : decode cX8_block 109 = .ok (.isub, 1) := by decide +kernel
theorem dX8_block_110 : decode cX8_block 110 = .ok (.iaload, 1) := by decide +kernel
theorem dX8_block_111 : decode cX8_block 111 = .ok (.iload_n 3, 1) := by decide +kernel
theorem dX8_block_112 : decode cX8_block 112 = .ok (.bipush 7, 2) := by decide +kernel
theorem dX8_block_114 : decode cX8_block 114 = .ok (.invokestatic 169, 3) := by decide +kernel
theorem dX8_block_117 : decode cX8_block 117 = .ok (.iload_n 3, 1) := by decide +kernel
theorem dX8_block_118 : decode cX8_block 118 = .ok (.bipush 18, 2) := by decide +kernel
theorem dX8_block_120 : decode cX8_block 120 = .ok (.invokestatic 169, 3) := by decide +kernel
theorem dX8_block_123 : decode cX8_block 123 = .ok (.ixor, 1) := by decide +kernel
theorem dX8_block_124 : decode cX8_block 124 = .ok (.iload_n 3, 1) := by decide +kernel
theorem dX8_block_125 : decode cX8_block 125 = .ok (.iconst 3, 1) := by decide +kernel
theorem dX8_block_126 : decode cX8_block 126 = .ok (.iushr, 1) := by decide +kernel
theorem dX8_block_127 : decode cX8_block 127 = .ok (.ixor, 1) := by decide +kernel
theorem dX8_block_128 : decode cX8_block 128 = .ok (.iadd, 1) := by decide +kernel
theorem dX8_block_129 : decode cX8_block 129 = .ok (.aload_n 0, 1) := by decide +kernel
theorem dX8_block_130 : decode cX8_block 130 = .ok (.getfield 91, 3) := by decide +kernel
theorem dX8_block_133 : decode cX8_block 133 = .ok (.iload_n 2, 1) := by decide +kernel
theorem dX8_block_134 : decode cX8_block 134 = .ok (.bipush 7, 2) := by decide +kernel
theorem dX8_block_136 : decode cX8_block 136 = .ok (.isub, 1) := by decide +kernel
theorem dX8_block_137 : decode cX8_block 137 = .ok (.iaload, 1) := by decide +kernel
theorem dX8_block_138 : decode cX8_block 138 = .ok (.iadd, 1) := by decide +kernel
theorem dX8_block_139 : decode cX8_block 139 = .ok (.iload 4, 2) := by decide +kernel
theorem dX8_block_141 : decode cX8_block 141 = .ok (.bipush 17, 2) := by decide +kernel
theorem dX8_block_143 : decode cX8_block 143 = .ok (.invokestatic 169, 3) := by decide +kernel
theorem dX8_block_146 : decode cX8_block 146 = .ok (.iload 4, 2) := by decide +kernel
theorem dX8_block_148 : decode cX8_block 148 = .ok (.bipush 19, 2) := by decide +kernel
theorem dX8_block_150 : decode cX8_block 150 = .ok (.invokestatic 169, 3) := by decide +kernel
theorem dX8_block_153 : decode cX8_block 153 = .ok (.ixor, 1) := by decide +kernel
theorem dX8_block_154 : decode cX8_block 154 = .ok (.iload 4, 2) := by decide +kernel
theorem dX8_block_156 : decode cX8_block 156 = .ok (.bipush 10, 2) := by decide +kernel
theorem dX8_block_158 : decode cX8_block 158 = .ok (.iushr, 1) := by decide +kernel
theorem dX8_block_159 : decode cX8_block 159 = .ok (.ixor, 1) := by decide +kernel
theorem dX8_block_160 : decode cX8_block 160 = .ok (.iadd, 1) := by decide +kernel
theorem dX8_block_161 : decode cX8_block 161 = .ok (.iastore, 1) := by decide +kernel
theorem dX8_block_162 : decode cX8_block 162 = .ok (.iinc 2 1, 3) := by decide +kernel
theorem dX8_block_165 : decode cX8_block 165 = .ok (.goto (-94), 3) := by decide +kernel
theorem dX8_block_168 : decode cX8_block 168 = .ok (.aload_n 0, 1) := by decide +kernel
theorem dX8_block_169 : decode cX8_block 169 = .ok (.getfield 88, 3) := by decide +kernel
theorem dX8_block_172 : decode cX8_block 172 = .ok (.iconst 0, 1) := by decide +kernel
theorem dX8_block_173 : decode cX8_block 173 = .ok (.iaload, 1) := by decide +kernel
theorem dX8_block_174 : decode cX8_block 174 = .ok (.istore_n 2, 1) := by decide +kernel
theorem dX8_block_175 : decode cX8_block 175 = .ok (.aload_n 0, 1) := by decide +kernel
theorem dX8_block_176 : decode cX8_block 176 = .ok (.getfield 88, 3) := by decide +kernel
theorem dX8_block_179 : decode cX8_block 179 = .ok (.iconst 1, 1) := by decide +kernel
theorem dX8_block_180 : decode cX8_block 180 = .ok (.iaload, 1) := by decide +kernel
theorem dX8_block_181 : decode cX8_block 181 = .ok (.istore_n 3, 1) := by decide +kernel
theorem dX8_block_182 : decode cX8_block 182 = .ok (.aload_n 0, 1) := by decide +kernel
theorem dX8_block_183 : decode cX8_block 183 = .ok (.getfield 88, 3) := by decide +kernel
theorem dX8_block_186 : decode cX8_block 186 = .ok (.iconst 2, 1) := by decide +kernel
theorem dX8_block_187 : decode cX8_block 187 = .ok (.iaload, 1) := by decide +kernel
theorem dX8_block_188 : decode cX8_block 188 = .ok (.istore 4, 2) := by decide +kernel
theorem dX8_block_190 : decode cX8_block 190 = .ok (.aload_n 0, 1) := by decide +kernel
theorem dX8_block_191 : decode cX8_block 191 = .ok (.getfield 88, 3) := by decide +kernel
theorem dX8_block_194 : decode cX8_block 194 = .ok (.iconst 3, 1) := by decide +kernel
theorem dX8_block_195 : decode cX8_block 195 = .ok (.iaload, 1) := by decide +kernel
theorem dX8_block_196 : decode cX8_block 196 = .ok (.istore 5, 2) := by decide +kernel
theorem dX8_block_198 : decode cX8_block 198 = .ok (.aload_n 0, 1) := by decide +kernel
theorem dX8_block_199 : decode cX8_block 199 = .ok (.getfield 88, 3) := by decide +kernel
theorem dX8_block_202 : decode cX8_block 202 = .ok (.iconst 4, 1) := by decide +kernel
theorem dX8_block_203 : decode cX8_block 203 = .ok (.iaload, 1) := by decide +kernel
theorem dX8_block_204 : decode cX8_block 204 = .ok (.istore 6, 2) := by decide +kernel
theorem dX8_block_206 : decode cX8_block 206 = .ok (.aload_n 0, 1) := by decide +kernel
theorem dX8_block_207 : decode cX8_block 207 = .ok (.getfield 88, 3) := by decide +kernel
theorem dX8_block_210 : decode cX8_block 210 = .ok (.iconst 5, 1) := by decide +kernel
theorem dX8_block_211 : decode cX8_block 211 = .ok (.iaload, 1) := by decide +kernel
theorem dX8_block_212 : decode cX8_block 212 = .ok (.istore 7, 2) := by decide +kernel
theorem dX8_block_214 : decode cX8_block 214 = .ok (.aload_n 0, 1) := by decide +kernel
theorem dX8_block_215 : decode cX8_block 215 = .ok (.getfield 88, 3) := by decide +kernel
theorem dX8_block_218 : decode cX8_block 218 = .ok (.bipush 6, 2) := by decide +kernel
theorem dX8_block_220 : decode cX8_block 220 = .ok (.iaload, 1) := by decide +kernel
theorem dX8_block_221 : decode cX8_block 221 = .ok (.istore 8, 2) := by decide +kernel
theorem dX8_block_223 : decode cX8_block 223 = .ok (.aload_n 0, 1) := by decide +kernel
theorem dX8_block_224 : decode cX8_block 224 = .ok (.getfield 88, 3) := by decide +kernel
theorem dX8_block_227 : decode cX8_block 227 = .ok (.bipush 7, 2) := by decide +kernel
theorem dX8_block_229 : decode cX8_block 229 = .ok (.iaload, 1) := by decide +kernel
theorem dX8_block_230 : decode cX8_block 230 = .ok (.istore 9, 2) := by decide +kernel
theorem dX8_block_232 : decode cX8_block 232 = .ok (.iconst 0, 1) := by decide +kernel
theorem dX8_block_233 : decode cX8_block 233 = .ok (.istore 10, 2) := by decide +kernel
theorem dX8_block_235 : decode cX8_block 235 = .ok (.iload 10, 2) := by decide +kernel
theorem dX8_block_237 : decode cX8_block 237 = .ok (.bipush 64, 2) := by decide +kernel
theorem dX8_block_239 : decode cX8_block 239 = .ok (.if_icmp .ge 136, 3) := by decide +kernel
theorem dX8_block_242 : decode cX8_block 242 = .ok (.iload 9, 2) := by decide +kernel
theorem dX8_block_244 : decode cX8_block 244 = .ok (.iload 6, 2) := by decide +kernel
theorem dX8_block_246 : decode cX8_block 246 = .ok (.bipush 6, 2) := by decide +kernel
theorem dX8_block_248 : decode cX8_block 248 = .ok (.invokestatic 169, 3) := by decide +kernel
theorem dX8_block_251 : decode cX8_block 251 = .ok (.iload 6, 2) := by decide +kernel
theorem dX8_block_253 : decode cX8_block 253 = .ok (.bipush 11, 2) := by decide +kernel
theorem dX8_block_255 : decode cX8_block 255 = .ok (.invokestatic 169, 3) := by decide +kernel
theorem dX8_block_258 : decode cX8_block 258 = .ok (.ixor, 1) := by decide +kernel
theorem dX8_block_259 : decode cX8_block 259 = .ok (.iload 6, 2) := by decide +kernel
theorem dX8_block_261 : decode cX8_block 261 = .ok (.bipush 25, 2) := by decide +kernel
theorem dX8_block_263 : decode cX8_block 263 = .ok (.invokestatic 169, 3) := by decide +kernel
theorem dX8_block_266 : decode cX8_block 266 = .ok (.ixor, 1) := by decide +kernel
theorem dX8_block_267 : decode cX8_block 267 = .ok (.iadd, 1) := by decide +kernel
theorem dX8_block_268 : decode cX8_block 268 = .ok (.iload 6, 2) := by decide +kernel
theorem dX8_block_270 : decode cX8_block 270 = .ok (.iload 7, 2) := by decide +kernel
theorem dX8_block_272 : decode cX8_block 272 = .ok (.iand, 1) := by decide +kernel
theorem dX8_block_273 : decode cX8_block 273 = .ok (.iload 6, 2) := by decide +kernel
theorem dX8_block_275 : decode cX8_block 275 = .ok (.iconst (-1), 1) := by decide +kernel
theorem dX8_block_276 : decode cX8_block 276 = .ok (.ixor, 1) := by decide +kernel
theorem dX8_block_277 : decode cX8_block 277 = .ok (.iload 8, 2) := by decide +kernel
theorem dX8_block_279 : decode cX8_block 279 = .ok (.iand, 1) := by decide +kernel
theorem dX8_block_280 : decode cX8_block 280 = .ok (.ixor, 1) := by decide +kernel
theorem dX8_block_281 : decode cX8_block 281 = .ok (.iadd, 1) := by decide +kernel
theorem dX8_block_282 : decode cX8_block 282 = .ok (.aload_n 0, 1) := by decide +kernel
theorem dX8_block_283 : decode cX8_block 283 = .ok (.getfield 71, 3) := by decide +kernel
theorem dX8_block_286 : decode cX8_block 286 = .ok (.iload 10, 2) := by decide +kernel
theorem dX8_block_288 : decode cX8_block 288 = .ok (.iaload, 1) := by decide +kernel
theorem dX8_block_289 : decode cX8_block 289 = .ok (.iadd, 1) := by decide +kernel
theorem dX8_block_290 : decode cX8_block 290 = .ok (.aload_n 0, 1) := by decide +kernel
theorem dX8_block_291 : decode cX8_block 291 = .ok (.getfield 91, 3) := by decide +kernel
theorem dX8_block_294 : decode cX8_block 294 = .ok (.iload 10, 2) := by decide +kernel
theorem dX8_block_296 : decode cX8_block 296 = .ok (.iaload, 1) := by decide +kernel
theorem dX8_block_297 : decode cX8_block 297 = .ok (.iadd, 1) := by decide +kernel
theorem dX8_block_298 : decode cX8_block 298 = .ok (.istore 11, 2) := by decide +kernel
theorem dX8_block_300 : decode cX8_block 300 = .ok (.iload_n 2, 1) := by decide +kernel
theorem dX8_block_301 : decode cX8_block 301 = .ok (.iconst 2, 1) := by decide +kernel
theorem dX8_block_302 : decode cX8_block 302 = .ok (.invokestatic 169, 3) := by decide +kernel
theorem dX8_block_305 : decode cX8_block 305 = .ok (.iload_n 2, 1) := by decide +kernel
theorem dX8_block_306 : decode cX8_block 306 = .ok (.bipush 13, 2) := by decide +kernel
theorem dX8_block_308 : decode cX8_block 308 = .ok (.invokestatic 169, 3) := by decide +kernel
theorem dX8_block_311 : decode cX8_block 311 = .ok (.ixor, 1) := by decide +kernel
theorem dX8_block_312 : decode cX8_block 312 = .ok (.iload_n 2, 1) := by decide +kernel
theorem dX8_block_313 : decode cX8_block 313 = .ok (.bipush 22, 2) := by decide +kernel
theorem dX8_block_315 : decode cX8_block 315 = .ok (.invokestatic 169, 3) := by decide +kernel
theorem dX8_block_318 : decode cX8_block 318 = .ok (.ixor, 1) := by decide +kernel
theorem dX8_block_319 : decode cX8_block 319 = .ok (.iload_n 2, 1) := by decide +kernel
theorem dX8_block_320 : decode cX8_block 320 = .ok (.iload_n 3, 1) := by decide +kernel
theorem dX8_block_321 : decode cX8_block 321 = .ok (.iand, 1) := by decide +kernel
theorem dX8_block_322 : decode cX8_block 322 = .ok (.iload_n 2, 1) := by decide +kernel
theorem dX8_block_323 : decode cX8_block 323 = .ok (.iload 4, 2) := by decide +kernel
theorem dX8_block_325 : decode cX8_block 325 = .ok (.iand, 1) := by decide +kernel
theorem dX8_block_326 : decode cX8_block 326 = .ok (.ixor, 1) := by decide +kernel
theorem dX8_block_327 : decode cX8_block 327 = .ok (.iload_n 3, 1) := by decide +kernel
theorem dX8_block_328 : decode cX8_block 328 = .ok (.iload 4, 2) := by decide +kernel
theorem dX8_block_330 : decode cX8_block 330 = .ok (.iand, 1) := by decide +kernel
theorem dX8_block_331 : decode cX8_block 331 = .ok (.ixor, 1) := by decide +kernel
theorem dX8_block_332 : decode cX8_block 332 = .ok (.iadd, 1) := by decide +kernel
theorem dX8_block_333 : decode cX8_block 333 = .ok (.istore 12, 2) := by decide +kernel
theorem dX8_block_335 : decode cX8_block 335 = .ok (.iload 8, 2) := by decide +kernel
theorem dX8_block_337 : decode cX8_block 337 = .ok (.istore 9, 2) := by decide +kernel
theorem dX8_block_339 : decode cX8_block 339 = .ok (.iload 7, 2) := by decide +kernel
theorem dX8_block_341 : decode cX8_block 341 = .ok (.istore 8, 2) := by decide +kernel
theorem dX8_block_343 : decode cX8_block 343 = .ok (.iload 6, 2) := by decide +kernel
theorem dX8_block_345 : decode cX8_block 345 = .ok (.istore 7, 2) := by decide +kernel
theorem dX8_block_347 : decode cX8_block 347 = .ok (.iload 5, 2) := by decide +kernel
theorem dX8_block_349 : decode cX8_block 349 = .ok (.iload 11, 2) := by decide +kernel
theorem dX8_block_351 : decode cX8_block 351 = .ok (.iadd, 1) := by decide +kernel
theorem dX8_block_352 : decode cX8_block 352 = .ok (.istore 6, 2) := by decide +kernel
theorem dX8_block_354 : decode cX8_block 354 = .ok (.iload 4, 2) := by decide +kernel
theorem dX8_block_356 : decode cX8_block 356 = .ok (.istore 5, 2) := by decide +kernel
theorem dX8_block_358 : decode cX8_block 358 = .ok (.iload_n 3, 1) := by decide +kernel
theorem dX8_block_359 : decode cX8_block 359 = .ok (.istore 4, 2) := by decide +kernel
theorem dX8_block_361 : decode cX8_block 361 = .ok (.iload_n 2, 1) := by decide +kernel
theorem dX8_block_362 : decode cX8_block 362 = .ok (.istore_n 3, 1) := by decide +kernel
theorem dX8_block_363 : decode cX8_block 363 = .ok (.iload 11, 2) := by decide +kernel
theorem dX8_block_365 : decode cX8_block 365 = .ok (.iload 12, 2) := by decide +kernel
theorem dX8_block_367 : decode cX8_block 367 = .ok (.iadd, 1) := by decide +kernel
theorem dX8_block_368 : decode cX8_block 368 = .ok (.istore_n 2, 1) := by decide +kernel
theorem dX8_block_369 : decode cX8_block 369 = .ok (.iinc 10 1, 3) := by decide +kernel
theorem dX8_block_372 : decode cX8_block 372 = .ok (.goto (-137), 3) := by decide +kernel
theorem dX8_block_375 : decode cX8_block 375 = .ok (.aload_n 0, 1) := by decide +kernel
theorem dX8_block_376 : decode cX8_block 376 = .ok (.getfield 88, 3) := by decide +kernel
theorem dX8_block_379 : decode cX8_block 379 = .ok (.iconst 0, 1) := by decide +kernel
theorem dX8_block_380 : decode cX8_block 380 = .ok (.aload_n 0, 1) := by decide +kernel
theorem dX8_block_381 : decode cX8_block 381 = .ok (.getfield 88, 3) := by decide +kernel
theorem dX8_block_384 : decode cX8_block 384 = .ok (.iconst 0, 1) := by decide +kernel
theorem dX8_block_385 : decode cX8_block 385 = .ok (.iaload, 1) := by decide +kernel
theorem dX8_block_386 : decode cX8_block 386 = .ok (.iload_n 2, 1) := by decide +kernel
theorem dX8_block_387 : decode cX8_block 387 = .ok (.iadd, 1) := by decide +kernel
theorem dX8_block_388 : decode cX8_block 388 = .ok (.iastore, 1) := by decide +kernel
theorem dX8_block_389 : decode cX8_block 389 = .ok (.aload_n 0, 1) := by decide +kernel
theorem dX8_block_390 : decode cX8_block 390 = .ok (.getfield 88, 3) := by decide +kernel
theorem dX8_block_393 : decode cX8_block 393 = .ok (.iconst 1, 1) := by decide +kernel
theorem dX8_block_394 : decode cX8_block 394 = .ok (.aload_n 0, 1) := by decide +kernel
theorem dX8_block_395 : decode cX8_block 395 = .ok (.getfield 88, 3) := by decide +kernel
theorem dX8_block_398 : decode cX8_block 398 = .ok (.iconst 1, 1) := by decide +kernel
theorem dX8_block_399 : decode cX8_block 399 = .ok (.iaload, 1) := by decide +kernel
theorem dX8_block_400 : decode cX8_block 400 = .ok (.iload_n 3, 1) := by decide +kernel
theorem dX8_block_401 : decode cX8_block 401 = .ok (.iadd, 1) := by decide +kernel
theorem dX8_block_402 : decode cX8_block 402 = .ok (.iastore, 1) := by decide +kernel
theorem dX8_block_403 : decode cX8_block 403 = .ok (.aload_n 0, 1) := by decide +kernel
theorem dX8_block_404 : decode cX8_block 404 = .ok (.getfield 88, 3) := by decide +kernel
theorem dX8_block_407 : decode cX8_block 407 = .ok (.iconst 2, 1) := by decide +kernel
theorem dX8_block_408 : decode cX8_block 408 = .ok (.aload_n 0, 1) := by decide +kernel
theorem dX8_block_409 : decode cX8_block 409 = .ok (.getfield 88, 3) := by decide +kernel
theorem dX8_block_412 : decode cX8_block 412 = .ok (.iconst 2, 1) := by decide +kernel
theorem dX8_block_413 : decode cX8_block 413 = .ok (.iaload, 1) := by decide +kernel
theorem dX8_block_414 : decode cX8_block 414 = .ok (.iload 4, 2) := by decide +kernel
theorem dX8_block_416 : decode cX8_block 416 = .ok (.iadd, 1) := by decide +kernel
theorem dX8_block_417 : decode cX8_block 417 = .ok (.iastore, 1) := by decide +kernel
theorem dX8_block_418 : decode cX8_block 418 = .ok (.aload_n 0, 1) := by decide +kernel
theorem dX8_block_419 : decode cX8_block 419 = .ok (.getfield 88, 3) := by decide +kernel
theorem dX8_block_422 : decode cX8_block 422 = .ok (.iconst 3, 1) := by decide +kernel
theorem dX8_block_423 : decode cX8_block 423 = .ok (.aload_n 0, 1) := by decide +kernel
theorem dX8_block_424 : decode cX8_block 424 = .ok (.getfield 88, 3) := by decide +kernel
theorem dX8_block_427 : decode cX8_block 427 = .ok (.iconst 3, 1) := by decide +kernel
theorem dX8_block_428 : decode cX8_block 428 = .ok (.iaload, 1) := by decide +kernel
theorem dX8_block_429 : decode cX8_block 429 = .ok (.iload 5, 2) := by decide +kernel
theorem dX8_block_431 : decode cX8_block 431 = .ok (.iadd, 1) := by decide +kernel
theorem dX8_block_432 : decode cX8_block 432 = .ok (.iastore, 1) := by decide +kernel
theorem dX8_block_433 : decode cX8_block 433 = .ok (.aload_n 0, 1) := by decide +kernel
theorem dX8_block_434 : decode cX8_block 434 = .ok (.getfield 88, 3) := by decide +kernel
theorem dX8_block_437 : decode cX8_block 437 = .ok (.iconst 4, 1) := by decide +kernel
theorem dX8_block_438 : decode cX8_block 438 = .ok (.aload_n 0, 1) := by decide +kernel
theorem dX8_block_439 : decode cX8_block 439 = .ok (.getfield 88, 3) := by decide +kernel
theorem dX8_block_442 : decode cX8_block 442 = .ok (.iconst 4, 1) := by decide +kernel
theorem dX8_block_443 : decode cX8_block 443 = .ok (.iaload, 1) := by decide +kernel
theorem dX8_block_444 : decode cX8_block 444 = .ok (.iload 6, 2) := by decide +kernel
theorem dX8_block_446 : decode cX8_block 446 = .ok (.iadd, 1) := by decide +kernel
theorem dX8_block_447 : decode cX8_block 447 = .ok (.iastore, 1) := by decide +kernel
theorem dX8_block_448 : decode cX8_block 448 = .ok (.aload_n 0, 1) := by decide +kernel
theorem dX8_block_449 : decode cX8_block 449 = .ok (.getfield 88, 3) := by decide +kernel
theorem dX8_block_452 : decode cX8_block 452 = .ok (.iconst 5, 1) := by decide +kernel
theorem dX8_block_453 : decode cX8_block 453 = .ok (.aload_n 0, 1) := by decide +kernel
theorem dX8_block_454 : decode cX8_block 454 = .ok (.getfield 88, 3) := by decide +kernel
theorem dX8_block_457 : decode cX8_block 457 = .ok (.iconst 5, 1) := by decide +kernel
theorem dX8_block_458 : decode cX8_block 458 = .ok (.iaload, 1) := by decide +kernel
theorem dX8_block_459 : decode cX8_block 459 = .ok (.iload 7, 2) := by decide +kernel
theorem dX8_block_461 : decode cX8_block 461 = .ok (.iadd, 1) := by decide +kernel
theorem dX8_block_462 : decode cX8_block 462 = .ok (.iastore, 1) := by decide +kernel
theorem dX8_block_463 : decode cX8_block 463 = .ok (.aload_n 0, 1) := by decide +kernel
theorem dX8_block_464 : decode cX8_block 464 = .ok (.getfield 88, 3) := by decide +kernel
theorem dX8_block_467 : decode cX8_block 467 = .ok (.bipush 6, 2) := by decide +kernel
theorem dX8_block_469 : decode cX8_block 469 = .ok (.aload_n 0, 1) := by decide +kernel
theorem dX8_block_470 : decode cX8_block 470 = .ok (.getfield 88, 3) := by decide +kernel
theorem dX8_block_473 : decode cX8_block 473 = .ok (.bipush 6, 2) := by decide +kernel
theorem dX8_block_475 : decode cX8_block 475 = .ok (.iaload, 1) := by decide +kernel
theorem dX8_block_476 : decode cX8_block 476 = .ok (.iload 8, 2) := by decide +kernel
theorem dX8_block_478 : decode cX8_block 478 = .ok (.iadd, 1) := by decide +kernel
theorem dX8_block_479 : decode cX8_block 479 = .ok (.iastore, 1) := by decide +kernel
theorem dX8_block_480 : decode cX8_block 480 = .ok (.aload_n 0, 1) := by decide +kernel
theorem dX8_block_481 : decode cX8_block 481 = .ok (.getfield 88, 3) := by decide +kernel
theorem dX8_block_484 : decode cX8_block 484 = .ok (.bipush 7, 2) := by decide +kernel
theorem dX8_block_486 : decode cX8_block 486 = .ok (.aload_n 0, 1) := by decide +kernel
theorem dX8_block_487 : decode cX8_block 487 = .ok (.getfield 88, 3) := by decide +kernel
theorem dX8_block_490 : decode cX8_block 490 = .ok (.bipush 7, 2) := by decide +kernel
theorem dX8_block_492 : decode cX8_block 492 = .ok (.iaload, 1) := by decide +kernel
theorem dX8_block_493 : decode cX8_block 493 = .ok (.iload 9, 2) := by decide +kernel
theorem dX8_block_495 : decode cX8_block 495 = .ok (.iadd, 1) := by decide +kernel
theorem dX8_block_496 : decode cX8_block 496 = .ok (.iastore, 1) := by decide +kernel
theorem dX8_block_497 : decode cX8_block 497 = .ok (.return_, 1) := by decide +kernel
theorem dX8_change_0 : decode cX8_change 0 = .ok (.aload_n 0, 1) := by decide +kernel
theorem dX8_change_1 : decode cX8_change 1 = .ok (.iconst 0, 1) := by decide +kernel
theorem dX8_change_2 : decode cX8_change 2 = .ok (.putfield 166, 3) := by decide +kernel
theorem dX8_change_5 : decode cX8_change 5 = .ok (.aload_n 0, 1) := by decide +kernel
theorem dX8_change_6 : decode cX8_change 6 = .ok (.getfield 128, 3) := by decide +kernel
theorem dX8_change_9 : decode cX8_change 9 = .ok (.aload_n 0, 1) := by decide +kernel
theorem dX8_change_10 : decode cX8_change 10 = .ok (.getfield 118, 3) := by decide +kernel
theorem dX8_change_13 : decode cX8_change 13 = .ok (.iconst 1, 1) := by decide +kernel
theorem dX8_change_14 : decode cX8_change 14 = .ok (.isub, 1) := by decide +kernel
theorem dX8_change_15 : decode cX8_change 15 = .ok (.aload_n 0, 1) := by decide +kernel
theorem dX8_change_16 : decode cX8_change 16 = .ok (.getfield 231, 3) := by decide +kernel
theorem dX8_change_19 : decode cX8_change 19 = .ok (.lastore, 1) := by decide +kernel
theorem dX8_change_20 : decode cX8_change 20 = .ok (.aload_n 0, 1) := by decide +kernel
theorem dX8_change_21 : decode cX8_change 21 = .ok (.getfield 122, 3) := by decide +kernel
theorem dX8_change_24 : decode cX8_change 24 = .ok (.aload_n 0, 1) := by decide +kernel
theorem dX8_change_25 : decode cX8_change 25 = .ok (.getfield 118, 3) := by decide +kernel
theorem dX8_change_28 : decode cX8_change 28 = .ok (.aload_n 0, 1) := by decide +kernel
theorem dX8_change_29 : decode cX8_change 29 = .ok (.getfield 122, 3) := by decide +kernel
theorem dX8_change_32 : decode cX8_change 32 = .ok (.aload_n 0, 1) := by decide +kernel
theorem dX8_change_33 : decode cX8_change 33 = .ok (.getfield 118, 3) := by decide +kernel
theorem dX8_change_36 : decode cX8_change 36 = .ok (.iconst 1, 1) := by decide +kernel
theorem dX8_change_37 : decode cX8_change 37 = .ok (.isub, 1) := by decide +kernel
theorem dX8_change_38 : decode cX8_change 38 = .ok (.iaload, 1) := by decide +kernel
theorem dX8_change_39 : decode cX8_change 39 = .ok (.iconst 1, 1) := by decide +kernel
theorem dX8_change_40 : decode cX8_change 40 = .ok (.iadd, 1) := by decide +kernel
theorem dX8_change_41 : decode cX8_change 41 = .ok (.sipush 256, 3) := by decide +kernel
theorem dX8_change_44 : decode cX8_change 44 = .ok (.irem, 1) := by decide +kernel
theorem dX8_change_45 : decode cX8_change 45 = .ok (.iastore, 1) := by decide +kernel
theorem dX8_change_46 : decode cX8_change 46 = .ok (.iconst 0, 1) := by decide +kernel
theorem dX8_change_47 : decode cX8_change 47 = .ok (.istore 5, 2) := by decide +kernel
theorem dX8_change_49 : decode cX8_change 49 = .ok (.iload 5, 2) := by decide +kernel
theorem dX8_change_51 : decode cX8_change 51 = .ok (.bipush 16, 2) := by decide +kernel
theorem dX8_change_53 : decode cX8_change 53 = .ok (.if_icmp .ge 77, 3) := by decide +kernel
theorem dX8_change_56 : decode cX8_change 56 = .ok (.iload 5, 2) := by decide +kernel
theorem dX8_change_58 : decode cX8_change 58 = .ok (.iconst 4, 1) := by decide +kernel
theorem dX8_change_59 : decode cX8_change 59 = .ok (.if_icmp .ge 7, 3) := by decide +kernel
theorem dX8_change_62 : decode cX8_change 62 = .ok (.iload_n 1, 1) := by decide +kernel
theorem dX8_change_63 : decode cX8_change 63 = .ok (.goto 27, 3) := by decide +kernel
theorem dX8_change_66 : decode cX8_change 66 = .ok (.iload 5, 2) := by decide +kernel
theorem dX8_change_68 : decode cX8_change 68 = .ok (.bipush 8, 2) := by decide +kernel
theorem dX8_change_70 : decode cX8_change 70 = .ok (.if_icmp .ge 7, 3) := by decide +kernel
theorem dX8_change_73 : decode cX8_change 73 = .ok (.iload_n 2, 1) := by decide +kernel
theorem dX8_change_74 : decode cX8_change 74 = .ok (.goto 16, 3) := by decide +kernel
theorem dX8_change_77 : decode cX8_change 77 = .ok (.iload 5, 2) := by decide +kernel
theorem dX8_change_79 : decode cX8_change 79 = .ok (.bipush 12, 2) := by decide +kernel
theorem dX8_change_81 : decode cX8_change 81 = .ok (.if_icmp .ge 7, 3) := by decide +kernel
theorem dX8_change_84 : decode cX8_change 84 = .ok (.iload_n 3, 1) := by decide +kernel
theorem dX8_change_85 : decode cX8_change 85 = .ok (.goto 5, 3) := by decide +kernel
theorem dX8_change_88 : decode cX8_change 88 = .ok (.iload 4, 2) := by decide +kernel
theorem dX8_change_90 : decode cX8_change 90 = .ok (.istore 6, 2) := by decide +kernel
theorem dX8_change_92 : decode cX8_change 92 = .ok (.aload_n 0, 1) := by decide +kernel
theorem dX8_change_93 : decode cX8_change 93 = .ok (.getfield 125, 3) := by decide +kernel
theorem dX8_change_96 : decode cX8_change 96 = .ok (.bipush 16, 2) := by decide +kernel
theorem dX8_change_98 : decode cX8_change 98 = .ok (.aload_n 0, 1) := by decide +kernel
theorem dX8_change_99 : decode cX8_change 99 = .ok (.getfield 118, 3) := by decide +kernel
theorem dX8_change_102 : decode cX8_change 102 = .ok (.imul, 1) := by decide +kernel
theorem dX8_change_103 : decode cX8_change 103 = .ok (.iload 5, 2) := by decide +kernel
theorem dX8_change_105 : decode cX8_change 105 = .ok (.iadd, 1) := by decide +kernel
theorem dX8_change_106 : decode cX8_change 106 = .ok (.iload 6, 2) := by decide +kernel
theorem dX8_change_108 : decode cX8_change 108 = .ok (.bipush 24, 2) := by decide +kernel
theorem dX8_change_110 : decode cX8_change 110 = .ok (.bipush 8, 2) := by decide +kernel
theorem dX8_change_112 : decode cX8_change 112 = .ok (.iload 5, 2) := by decide +kernel
theorem dX8_change_114 : decode cX8_change 114 = .ok (.iconst 4, 1) := by decide +kernel
theorem dX8_change_115 : decode cX8_change 115 = .ok (.irem, 1) := by decide +kernel
theorem dX8_change_116 : decode cX8_change 116 = .ok (.imul, 1) := by decide +kernel
theorem dX8_change_117 : decode cX8_change 117 = .ok (.isub, 1) := by decide +kernel
theorem dX8_change_118 : decode cX8_change 118 = .ok (.ishr, 1) := by decide +kernel
theorem dX8_change_119 : decode cX8_change 119 = .ok (.sipush 255, 3) := by decide +kernel
theorem dX8_change_122 : decode cX8_change 122 = .ok (.iand, 1) := by decide +kernel
theorem dX8_change_123 : decode cX8_change 123 = .ok (.iastore, 1) := by decide +kernel
theorem dX8_change_124 : decode cX8_change 124 = .ok (.iinc 5 1, 3) := by decide +kernel
theorem dX8_change_127 : decode cX8_change 127 = .ok (.goto (-78), 3) := by decide +kernel
theorem dX8_change_130 : decode cX8_change 130 = .ok (.aload_n 0, 1) := by decide +kernel
theorem dX8_change_131 : decode cX8_change 131 = .ok (.dup, 1) := by decide +kernel
theorem dX8_change_132 : decode cX8_change 132 = .ok (.getfield 118, 3) := by decide +kernel
theorem dX8_change_135 : decode cX8_change 135 = .ok (.iconst 1, 1) := by decide +kernel
theorem dX8_change_136 : decode cX8_change 136 = .ok (.iadd, 1) := by decide +kernel
theorem dX8_change_137 : decode cX8_change 137 = .ok (.putfield 118, 3) := by decide +kernel
theorem dX8_change_140 : decode cX8_change 140 = .ok (.aload_n 0, 1) := by decide +kernel
theorem dX8_change_141 : decode cX8_change 141 = .ok (.getfield 118, 3) := by decide +kernel
theorem dX8_change_144 : decode cX8_change 144 = .ok (.iconst 5, 1) := by decide +kernel
theorem dX8_change_145 : decode cX8_change 145 = .ok (.if_icmp .ne 100, 3) := by decide +kernel
theorem dX8_change_148 : decode cX8_change 148 = .ok (.iconst 0, 1) := by decide +kernel
theorem dX8_change_149 : decode cX8_change 149 = .ok (.istore 5, 2) := by decide +kernel
theorem dX8_change_151 : decode cX8_change 151 = .ok (.iload 5, 2) := by decide +kernel
theorem dX8_change_153 : decode cX8_change 153 = .ok (.iconst 4, 1) := by decide +kernel
theorem dX8_change_154 : decode cX8_change 154 = .ok (.if_icmp .ge 86, 3) := by decide +kernel
theorem dX8_change_157 : decode cX8_change 157 = .ok (.aload_n 0, 1) := by decide +kernel
theorem dX8_change_158 : decode cX8_change 158 = .ok (.getfield 122, 3) := by decide +kernel
theorem dX8_change_161 : decode cX8_change 161 = .ok (.iload 5, 2) := by decide +kernel
theorem dX8_change_163 : decode cX8_change 163 = .ok (.aload_n 0, 1) := by decide +kernel
theorem dX8_change_164 : decode cX8_change 164 = .ok (.getfield 122, 3) := by decide +kernel
theorem dX8_change_167 : decode cX8_change 167 = .ok (.iload 5, 2) := by decide +kernel
theorem dX8_change_169 : decode cX8_change 169 = .ok (.iconst 1, 1) := by decide +kernel
theorem dX8_change_170 : decode cX8_change 170 = .ok (.iadd, 1) := by decide +kernel
theorem dX8_change_171 : decode cX8_change 171 = .ok (.iaload, 1) := by decide +kernel
theorem dX8_change_172 : decode cX8_change 172 = .ok (.iastore, 1) := by decide +kernel
theorem dX8_change_173 : decode cX8_change 173 = .ok (.aload_n 0, 1) := by decide +kernel
theorem dX8_change_174 : decode cX8_change 174 = .ok (.getfield 128, 3) := by decide +kernel
theorem dX8_change_177 : decode cX8_change 177 = .ok (.iload 5, 2) := by decide +kernel
theorem dX8_change_179 : decode cX8_change 179 = .ok (.aload_n 0, 1) := by decide +kernel
theorem dX8_change_180 : decode cX8_change 180 = .ok (.getfield 128, 3) := by decide +kernel
theorem dX8_change_183 : decode cX8_change 183 = .ok (.iload 5, 2) := by decide +kernel
theorem dX8_change_185 : decode cX8_change 185 = .ok (.iconst 1, 1) := by decide +kernel
theorem dX8_change_186 : decode cX8_change 186 = .ok (.iadd, 1) := by decide +kernel
theorem dX8_change_187 : decode cX8_change 187 = .ok (.laload, 1) := by decide +kernel
theorem dX8_change_188 : decode cX8_change 188 = .ok (.lastore, 1) := by decide +kernel
theorem dX8_change_189 : decode cX8_change 189 = .ok (.iconst 0, 1) := by decide +kernel
theorem dX8_change_190 : decode cX8_change 190 = .ok (.istore 6, 2) := by decide +kernel
theorem dX8_change_192 : decode cX8_change 192 = .ok (.iload 6, 2) := by decide +kernel
theorem dX8_change_194 : decode cX8_change 194 = .ok (.bipush 16, 2) := by decide +kernel
theorem dX8_change_196 : decode cX8_change 196 = .ok (.if_icmp .ge 38, 3) := by decide +kernel
theorem dX8_change_199 : decode cX8_change 199 = .ok (.aload_n 0, 1) := by decide +kernel
theorem dX8_change_200 : decode cX8_change 200 = .ok (.getfield 125, 3) := by decide +kernel
theorem dX8_change_203 : decode cX8_change 203 = .ok (.bipush 16, 2) := by decide +kernel
theorem dX8_change_205 : decode cX8_change 205 = .ok (.iload 5, 2) := by decide +kernel
theorem dX8_change_207 : decode cX8_change 207 = .ok (.imul, 1) := by decide +kernel
theorem dX8_change_208 : decode cX8_change 208 = .ok (.iload 6, 2) := by decide +kernel
theorem dX8_change_210 : decode cX8_change 210 = .ok (.iadd, 1) := by decide +kernel
theorem dX8_change_211 : decode cX8_change 211 = .ok (.aload_n 0, 1) := by decide +kernel
theorem dX8_change_212 : decode cX8_change 212 = .ok (.getfield 125, 3) := by decide +kernel
theorem dX8_change_215 : decode cX8_change 215 = .ok (.bipush 16, 2) := by decide +kernel
theorem dX8_change_217 : decode cX8_change 217 = .ok (.iload 5, 2) := by decide +kernel
theorem dX8_change_219 : decode cX8_change 219 = .ok (.imul, 1) := by decide +kernel
theorem dX8_change_220 : decode cX8_change 220 = .ok (.bipush 16, 2) := by decide +kernel
theorem dX8_change_222 : decode cX8_change 222 = .ok (.iadd, 1) := by decide +kernel
theorem dX8_change_223 : decode cX8_change 223 = .ok (.iload 6, 2) := by decide +kernel
theorem dX8_change_225 : decode cX8_change 225 = .ok (.iadd, 1) := by decide +kernel
theorem dX8_change_226 : decode cX8_change 226 = .ok (.iaload, 1) := by decide +kernel
theorem dX8_change_227 : decode cX8_change 227 = .ok (.iastore, 1) := by decide +kernel
theorem dX8_change_228 : decode cX8_change 228 = .ok (.iinc 6 1, 3) := by decide +kernel
theorem dX8_change_231 : decode cX8_change 231 = .ok (.goto (-39), 3) := by decide +kernel
theorem dX8_change_234 : decode cX8_change 234 = .ok (.iinc 5 1, 3) := by decide +kernel
theorem dX8_change_237 : decode cX8_change 237 = .ok (.goto (-86), 3) := by decide +kernel
theorem dX8_change_240 : decode cX8_change 240 = .ok (.aload_n 0, 1) := by decide +kernel
theorem dX8_change_241 : decode cX8_change 241 = .ok (.iconst 4, 1) := by decide +kernel
theorem dX8_change_242 : decode cX8_change 242 = .ok (.putfield 118, 3) := by decide +kernel
theorem dX8_change_245 : decode cX8_change 245 = .ok (.aload_n 0, 1) := by decide +kernel
theorem dX8_change_246 : decode cX8_change 246 = .ok (.getfield 122, 3) := by decide +kernel
theorem dX8_change_249 : decode cX8_change 249 = .ok (.aload_n 0, 1) := by decide +kernel
theorem dX8_change_250 : decode cX8_change 250 = .ok (.getfield 118, 3) := by decide +kernel
theorem dX8_change_253 : decode cX8_change 253 = .ok (.iconst 1, 1) := by decide +kernel
theorem dX8_change_254 : decode cX8_change 254 = .ok (.isub, 1) := by decide +kernel
theorem dX8_change_255 : decode cX8_change 255 = .ok (.iaload, 1) := by decide +kernel
theorem dX8_change_256 : decode cX8_change 256 = .ok (.ireturn, 1) := by decide +kernel
theorem dX8_look_0 : decode cX8_look 0 = .ok (.aload_n 0, 1) := by decide +kernel
theorem dX8_look_1 : decode cX8_look 1 = .ok (.invokevirtual 254, 3) := by decide +kernel
theorem dX8_look_4 : decode cX8_look 4 = .ok (.ifCond .ne 6, 3) := by decide +kernel
theorem dX8_look_7 : decode cX8_look 7 = .ok (.bipush (-2), 2) := by decide +kernel
theorem dX8_look_9 : decode cX8_look 9 = .ok (.ireturn, 1) := by decide +kernel
theorem dX8_look_10 : decode cX8_look 10 = .ok (.aload_n 0, 1) := by decide +kernel
theorem dX8_look_11 : decode cX8_look 11 = .ok (.iconst (-1), 1) := by decide +kernel
theorem dX8_look_12 : decode cX8_look 12 = .ok (.putfield 258, 3) := by decide +kernel
theorem dX8_look_15 : decode cX8_look 15 = .ok (.iconst 0, 1) := by decide +kernel
theorem dX8_look_16 : decode cX8_look 16 = .ok (.istore_n 2, 1) := by decide +kernel
theorem dX8_look_17 : decode cX8_look 17 = .ok (.iload_n 2, 1) := by decide +kernel
theorem dX8_look_18 : decode cX8_look 18 = .ok (.aload_n 0, 1) := by decide +kernel
theorem dX8_look_19 : decode cX8_look 19 = .ok (.getfield 118, 3) := by decide +kernel
theorem dX8_look_22 : decode cX8_look 22 = .ok (.if_icmp .ge 44, 3) := by decide +kernel
theorem dX8_look_25 : decode cX8_look 25 = .ok (.aload_n 0, 1) := by decide +kernel
theorem dX8_look_26 : decode cX8_look 26 = .ok (.aload_n 0, 1) := by decide +kernel
theorem dX8_look_27 : decode cX8_look 27 = .ok (.iload_n 2, 1) := by decide +kernel
theorem dX8_look_28 : decode cX8_look 28 = .ok (.invokevirtual 261, 3) := by decide +kernel
theorem dX8_look_31 : decode cX8_look 31 = .ok (.ifCond .eq 22, 3) := by decide +kernel
theorem dX8_look_34 : decode cX8_look 34 = .ok (.aload_n 0, 1) := by decide +kernel
theorem dX8_look_35 : decode cX8_look 35 = .ok (.getfield 122, 3) := by decide +kernel
theorem dX8_look_38 : decode cX8_look 38 = .ok (.iload_n 2, 1) := by decide +kernel
theorem dX8_look_39 : decode cX8_look 39 = .ok (.iaload, 1) := by decide +kernel
theorem dX8_look_40 : decode cX8_look 40 = .ok (.aload_n 0, 1) := by decide +kernel
theorem dX8_look_41 : decode cX8_look 41 = .ok (.getfield 163, 3) := by decide +kernel
theorem dX8_look_44 : decode cX8_look 44 = .ok (.iconst 0, 1) := by decide +kernel
theorem dX8_look_45 : decode cX8_look 45 = .ok (.iaload, 1) := by decide +kernel
theorem dX8_look_46 : decode cX8_look 46 = .ok (.if_icmp .ne 7, 3) := by decide +kernel
theorem dX8_look_49 : decode cX8_look 49 = .ok (.iload_n 2, 1) := by decide +kernel
theorem dX8_look_50 : decode cX8_look 50 = .ok (.goto 7, 3) := by decide +kernel
theorem dX8_look_53 : decode cX8_look 53 = .ok (.aload_n 0, 1) := by decide +kernel
theorem dX8_look_54 : decode cX8_look 54 = .ok (.getfield 258, 3) := by decide +kernel
theorem dX8_look_57 : decode cX8_look 57 = .ok (.putfield 258, 3) := by decide +kernel
theorem dX8_look_60 : decode cX8_look 60 = .ok (.iinc 2 1, 3) := by decide +kernel
theorem dX8_look_63 : decode cX8_look 63 = .ok (.goto (-46), 3) := by decide +kernel
theorem dX8_look_66 : decode cX8_look 66 = .ok (.aload_n 0, 1) := by decide +kernel
theorem dX8_look_67 : decode cX8_look 67 = .ok (.getfield 258, 3) := by decide +kernel
theorem dX8_look_70 : decode cX8_look 70 = .ok (.ifCond .ge 6, 3) := by decide +kernel
theorem dX8_look_73 : decode cX8_look 73 = .ok (.bipush (-3), 2) := by decide +kernel
theorem dX8_look_75 : decode cX8_look 75 = .ok (.ireturn, 1) := by decide +kernel
theorem dX8_look_76 : decode cX8_look 76 = .ok (.aload_n 0, 1) := by decide +kernel
theorem dX8_look_77 : decode cX8_look 77 = .ok (.aload_n 0, 1) := by decide +kernel
theorem dX8_look_78 : decode cX8_look 78 = .ok (.getfield 258, 3) := by decide +kernel
theorem dX8_look_81 : decode cX8_look 81 = .ok (.iconst (-1), 1) := by decide +kernel
theorem dX8_look_82 : decode cX8_look 82 = .ok (.invokevirtual 207, 3) := by decide +kernel
theorem dX8_look_85 : decode cX8_look 85 = .ok (.iconst 0, 1) := by decide +kernel
theorem dX8_look_86 : decode cX8_look 86 = .ok (.istore_n 2, 1) := by decide +kernel
theorem dX8_look_87 : decode cX8_look 87 = .ok (.iload_n 2, 1) := by decide +kernel
theorem dX8_look_88 : decode cX8_look 88 = .ok (.bipush 12, 2) := by decide +kernel
theorem dX8_look_90 : decode cX8_look 90 = .ok (.if_icmp .ge 30, 3) := by decide +kernel
theorem dX8_look_93 : decode cX8_look 93 = .ok (.aload_n 0, 1) := by decide +kernel
theorem dX8_look_94 : decode cX8_look 94 = .ok (.getfield 97, 3) := by decide +kernel
theorem dX8_look_97 : decode cX8_look 97 = .ok (.iload_n 2, 1) := by decide +kernel
theorem dX8_look_98 : decode cX8_look 98 = .ok (.iaload, 1) := by decide +kernel
theorem dX8_look_99 : decode cX8_look 99 = .ok (.aload_n 0, 1) := by decide +kernel
theorem dX8_look_100 : decode cX8_look 100 = .ok (.getfield 163, 3) := by decide +kernel
theorem dX8_look_103 : decode cX8_look 103 = .ok (.bipush 10, 2) := by decide +kernel
theorem dX8_look_105 : decode cX8_look 105 = .ok (.iload_n 2, 1) := by decide +kernel
theorem dX8_look_106 : decode cX8_look 106 = .ok (.iadd, 1) := by decide +kernel
theorem dX8_look_107 : decode cX8_look 107 = .ok (.iaload, 1) := by decide +kernel
theorem dX8_look_108 : decode cX8_look 108 = .ok (.if_icmp .eq 6, 3) := by decide +kernel
theorem dX8_look_111 : decode cX8_look 111 = .ok (.bipush (-4), 2) := by decide +kernel
theorem dX8_look_113 : decode cX8_look 113 = .ok (.ireturn, 1) := by decide +kernel
theorem dX8_look_114 : decode cX8_look 114 = .ok (.iinc 2 1, 3) := by decide +kernel
theorem dX8_look_117 : decode cX8_look 117 = .ok (.goto (-30), 3) := by decide +kernel
theorem dX8_look_120 : decode cX8_look 120 = .ok (.lconst 0, 1) := by decide +kernel
theorem dX8_look_121 : decode cX8_look 121 = .ok (.lstore_n 2, 1) := by decide +kernel
theorem dX8_look_122 : decode cX8_look 122 = .ok (.iconst 0, 1) := by decide +kernel
theorem dX8_look_123 : decode cX8_look 123 = .ok (.istore 4, 2) := by decide +kernel
theorem dX8_look_125 : decode cX8_look 125 = .ok (.iload 4, 2) := by decide +kernel
theorem dX8_look_127 : decode cX8_look 127 = .ok (.bipush 8, 2) := by decide +kernel
theorem dX8_look_129 : decode cX8_look 129 = .ok (.if_icmp .ge 25, 3) := by decide +kernel
theorem dX8_look_132 : decode cX8_look 132 = .ok (.lload_n 2, 1) := by decide +kernel
theorem dX8_look_133 : decode cX8_look 133 = .ok (.bipush 8, 2) := by decide +kernel
theorem dX8_look_135 : decode cX8_look 135 = .ok (.lshl, 1) := by decide +kernel
theorem dX8_look_136 : decode cX8_look 136 = .ok (.aload_n 0, 1) := by decide +kernel
theorem dX8_look_137 : decode cX8_look 137 = .ok (.getfield 163, 3) := by decide +kernel
theorem dX8_look_140 : decode cX8_look 140 = .ok (.iconst 2, 1) := by decide +kernel
theorem dX8_look_141 : decode cX8_look 141 = .ok (.iload 4, 2) := by decide +kernel
theorem dX8_look_143 : decode cX8_look 143 = .ok (.iadd, 1) := by decide +kernel
theorem dX8_look_144 : decode cX8_look 144 = .ok (.iaload, 1) := by decide +kernel
theorem dX8_look_145 : decode cX8_look 145 = .ok (.i2l, 1) := by decide +kernel
theorem dX8_look_146 : decode cX8_look 146 = .ok (.lor, 1) := by decide +kernel
theorem dX8_look_147 : decode cX8_look 147 = .ok (.lstore_n 2, 1) := by decide +kernel
theorem dX8_look_148 : decode cX8_look 148 = .ok (.iinc 4 1, 3) := by decide +kernel
theorem dX8_look_151 : decode cX8_look 151 = .ok (.goto (-26), 3) := by decide +kernel
theorem dX8_look_154 : decode cX8_look 154 = .ok (.iconst (-1), 1) := by decide +kernel
theorem dX8_look_155 : decode cX8_look 155 = .ok (.istore 4, 2) := by decide +kernel
theorem dX8_look_157 : decode cX8_look 157 = .ok (.bipush 7, 2) := by decide +kernel
theorem dX8_look_159 : decode cX8_look 159 = .ok (.istore 5, 2) := by decide +kernel
theorem dX8_look_161 : decode cX8_look 161 = .ok (.iload 5, 2) := by decide +kernel
theorem dX8_look_163 : decode cX8_look 163 = .ok (.ifCond .lt 56, 3) := by decide +kernel
theorem dX8_look_166 : decode cX8_look 166 = .ok (.aload_n 0, 1) := by decide +kernel
theorem dX8_look_167 : decode cX8_look 167 = .ok (.getfield 142, 3) := by decide +kernel
theorem dX8_look_170 : decode cX8_look 170 = .ok (.iload 5, 2) := by decide +kernel
theorem dX8_look_172 : decode cX8_look 172 = .ok (.baload, 1) := by decide +kernel
theorem dX8_look_173 : decode cX8_look 173 = .ok (.ifCond .eq 36, 3) := by decide +kernel
theorem dX8_look_176 : decode cX8_look 176 = .ok (.aload_n 0, 1) := by decide +kernel
theorem dX8_look_177 : decode cX8_look 177 = .ok (.getfield 148, 3) := by decide +kernel
theorem dX8_look_180 : decode cX8_look 180 = .ok (.iload 5, 2) := by decide +kernel
theorem dX8_look_182 : decode cX8_look 182 = .ok (.laload, 1) := by decide +kernel
theorem dX8_look_183 : decode cX8_look 183 = .ok (.lload_n 2, 1) := by decide +kernel
theorem dX8_look_184 : decode cX8_look 184 = .ok (.lcmp, 1) := by decide +kernel
theorem dX8_look_185 : decode cX8_look 185 = .ok (.ifCond .ne 24, 3) := by decide +kernel
theorem dX8_look_188 : decode cX8_look 188 = .ok (.aload_n 0, 1) := by decide +kernel
theorem dX8_look_189 : decode cX8_look 189 = .ok (.getfield 145, 3) := by decide +kernel
theorem dX8_look_192 : decode cX8_look 192 = .ok (.iload 5, 2) := by decide +kernel
theorem dX8_look_194 : decode cX8_look 194 = .ok (.iaload, 1) := by decide +kernel
theorem dX8_look_195 : decode cX8_look 195 = .ok (.aload_n 0, 1) := by decide +kernel
theorem dX8_look_196 : decode cX8_look 196 = .ok (.getfield 163, 3) := by decide +kernel
theorem dX8_look_199 : decode cX8_look 199 = .ok (.iconst 1, 1) := by decide +kernel
theorem dX8_look_200 : decode cX8_look 200 = .ok (.iaload, 1) := by decide +kernel
theorem dX8_look_201 : decode cX8_look 201 = .ok (.if_icmp .ne 8, 3) := by decide +kernel
theorem dX8_look_204 : decode cX8_look 204 = .ok (.iload 5, 2) := by decide +kernel
theorem dX8_look_206 : decode cX8_look 206 = .ok (.goto 5, 3) := by decide +kernel
theorem dX8_look_209 : decode cX8_look 209 = .ok (.iload 4, 2) := by decide +kernel
theorem dX8_look_211 : decode cX8_look 211 = .ok (.istore 4, 2) := by decide +kernel
theorem dX8_look_213 : decode cX8_look 213 = .ok (.iinc 5 (-1), 3) := by decide +kernel
theorem dX8_look_216 : decode cX8_look 216 = .ok (.goto (-55), 3) := by decide +kernel
theorem dX8_look_219 : decode cX8_look 219 = .ok (.iload 4, 2) := by decide +kernel
theorem dX8_look_221 : decode cX8_look 221 = .ok (.ifCond .ge 6, 3) := by decide +kernel
theorem dX8_look_224 : decode cX8_look 224 = .ok (.bipush (-5), 2) := by decide +kernel
theorem dX8_look_226 : decode cX8_look 226 = .ok (.ireturn, 1) := by decide +kernel
theorem dX8_look_227 : decode cX8_look 227 = .ok (.aload_n 0, 1) := by decide +kernel
theorem dX8_look_228 : decode cX8_look 228 = .ok (.iload 4, 2) := by decide +kernel
theorem dX8_look_230 : decode cX8_look 230 = .ok (.invokevirtual 238, 3) := by decide +kernel
theorem dX8_look_233 : decode cX8_look 233 = .ok (.ifCond .ne 12, 3) := by decide +kernel
theorem dX8_look_236 : decode cX8_look 236 = .ok (.aload_n 0, 1) := by decide +kernel
theorem dX8_look_237 : decode cX8_look 237 = .ok (.iload 4, 2) := by decide +kernel
theorem dX8_look_239 : decode cX8_look 239 = .ok (.invokevirtual 241, 3) := by decide +kernel
theorem dX8_look_242 : decode cX8_look 242 = .ok (.ifCond .eq 28, 3) := by decide +kernel
theorem dX8_look_245 : decode cX8_look 245 = .ok (.aload_n 0, 1) := by decide +kernel
theorem dX8_look_246 : decode cX8_look 246 = .ok (.getfield 142, 3) := by decide +kernel
theorem dX8_look_249 : decode cX8_look 249 = .ok (.iload 4, 2) := by decide +kernel
theorem dX8_look_251 : decode cX8_look 251 = .ok (.iconst 0, 1) := by decide +kernel
theorem dX8_look_252 : decode cX8_look 252 = .ok (.bastore, 1) := by decide +kernel
theorem dX8_look_253 : decode cX8_look 253 = .ok (.aload_n 0, 1) := by decide +kernel
theorem dX8_look_254 : decode cX8_look 254 = .ok (.iload 4, 2) := by decide +kernel
theorem dX8_look_256 : decode cX8_look 256 = .ok (.invokevirtual 238, 3) := by decide +kernel
theorem dX8_look_259 : decode cX8_look 259 = .ok (.ifCond .eq 8, 3) := by decide +kernel
theorem dX8_look_262 : decode cX8_look 262 = .ok (.bipush (-6), 2) := by decide +kernel
theorem dX8_look_264 : decode cX8_look 264 = .ok (.goto 5, 3) := by decide +kernel
theorem dX8_look_267 : decode cX8_look 267 = .ok (.bipush (-7), 2) := by decide +kernel
theorem dX8_look_269 : decode cX8_look 269 = .ok (.ireturn, 1) := by decide +kernel
theorem dX8_look_270 : decode cX8_look 270 = .ok (.iload_n 1, 1) := by decide +kernel
theorem dX8_look_271 : decode cX8_look 271 = .ok (.ifCond .eq 86, 3) := by decide +kernel
theorem dX8_look_274 : decode cX8_look 274 = .ok (.aload_n 0, 1) := by decide +kernel
theorem dX8_look_275 : decode cX8_look 275 = .ok (.aload_n 0, 1) := by decide +kernel
theorem dX8_look_276 : decode cX8_look 276 = .ok (.getfield 258, 3) := by decide +kernel
theorem dX8_look_279 : decode cX8_look 279 = .ok (.invokevirtual 218, 3) := by decide +kernel
theorem dX8_look_282 : decode cX8_look 282 = .ok (.aload_n 0, 1) := by decide +kernel
theorem dX8_look_283 : decode cX8_look 283 = .ok (.getfield 157, 3) := by decide +kernel
theorem dX8_look_286 : decode cX8_look 286 = .ok (.iconst 1, 1) := by decide +kernel
theorem dX8_look_287 : decode cX8_look 287 = .ok (.iaload, 1) := by decide +kernel
theorem dX8_look_288 : decode cX8_look 288 = .ok (.bipush 12, 2) := by decide +kernel
theorem dX8_look_290 : decode cX8_look 290 = .ok (.if_icmp .ne 7, 3) := by decide +kernel
theorem dX8_look_293 : decode cX8_look 293 = .ok (.iconst 1, 1) := by decide +kernel
theorem dX8_look_294 : decode cX8_look 294 = .ok (.goto 4, 3) := by decide +kernel
theorem dX8_look_297 : decode cX8_look 297 = .ok (.iconst 0, 1) := by decide +kernel
theorem dX8_look_298 : decode cX8_look 298 = .ok (.istore 5, 2) := by decide +kernel
theorem dX8_look_300 : decode cX8_look 300 = .ok (.iconst 0, 1) := by decide +kernel
theorem dX8_look_301 : decode cX8_look 301 = .ok (.istore 6, 2) := by decide +kernel
theorem dX8_look_303 : decode cX8_look 303 = .ok (.iload 5, 2) := by decide +kernel
theorem dX8_look_305 : decode cX8_look 305 = .ok (.ifCond .eq 44, 3) := by decide +kernel
theorem dX8_look_308 : decode cX8_look 308 = .ok (.iload 6, 2) := by decide +kernel
theorem dX8_look_310 : decode cX8_look 310 = .ok (.bipush 12, 2) := by decide +kernel
theorem dX8_look_312 : decode cX8_look 312 = .ok (.if_icmp .ge 37, 3) := by decide +kernel
theorem dX8_look_315 : decode cX8_look 315 = .ok (.aload_n 0, 1) := by decide +kernel
theorem dX8_look_316 : decode cX8_look 316 = .ok (.getfield 160, 3) := by decide +kernel
theorem dX8_look_319 : decode cX8_look 319 = .ok (.bipush 40, 2) := by decide +kernel
theorem dX8_look_321 : decode cX8_look 321 = .ok (.iload 6, 2) := by decide +kernel
theorem dX8_look_323 : decode cX8_look 323 = .ok (.iadd, 1) := by decide +kernel
theorem dX8_look_324 : decode cX8_look 324 = .ok (.iaload, 1) := by decide +kernel
theorem dX8_look_325 : decode cX8_look 325 = .ok (.aload_n 0, 1) := by decide +kernel
theorem dX8_look_326 : decode cX8_look 326 = .ok (.iload 6, 2) := by decide +kernel
theorem dX8_look_328 : decode cX8_look 328 = .ok (.bipush 9, 2) := by decide +kernel
theorem dX8_look_330 : decode cX8_look 330 = .ok (.invokevirtual 215, 3) := by decide +kernel
theorem dX8_look_333 : decode cX8_look 333 = .ok (.if_icmp .ne 7, 3) := by decide +kernel
theorem dX8_look_336 : decode cX8_look 336 = .ok (.iconst 1, 1) := by decide +kernel
theorem dX8_look_337 : decode cX8_look 337 = .ok (.goto 4, 3) := by decide +kernel
theorem dX8_look_340 : decode cX8_look 340 = .ok (.iconst 0, 1) := by decide +kernel
theorem dX8_look_341 : decode cX8_look 341 = .ok (.istore 5, 2) := by decide +kernel
theorem dX8_look_343 : decode cX8_look 343 = .ok (.iinc 6 1, 3) := by decide +kernel
theorem dX8_look_346 : decode cX8_look 346 = .ok (.goto (-43), 3) := by decide +kernel
theorem dX8_look_349 : decode cX8_look 349 = .ok (.iload 5, 2) := by decide +kernel
theorem dX8_look_351 : decode cX8_look 351 = .ok (.ifCond .ne 6, 3) := by decide +kernel
theorem dX8_look_354 : decode cX8_look 354 = .ok (.bipush (-8), 2) := by decide +kernel
theorem dX8_look_356 : decode cX8_look 356 = .ok (.ireturn, 1) := by decide +kernel
theorem dX8_look_357 : decode cX8_look 357 = .ok (.iload 4, 2) := by decide +kernel
theorem dX8_look_359 : decode cX8_look 359 = .ok (.ireturn, 1) := by decide +kernel
