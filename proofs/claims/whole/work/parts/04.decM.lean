theorem dX12_init_0 : decode cX12_init 0 = .ok (.aload_n 0, 1) := by decide +kernel
theorem dX12_init_1 : decode cX12_init 1 = .ok (.invokespecial 1, 3) := by decide +kernel
theorem dX12_init_4 : decode cX12_init 4 = .ok (.aload_n 0, 1) := by decide +kernel
theorem dX12_init_5 : decode cX12_init 5 = .ok (.iconst 1, 1) := by decide +kernel
theorem dX12_init_6 : decode cX12_init 6 = .ok (.putfield 7, 3) := by decide +kernel
theorem dX12_init_9 : decode cX12_init 9 = .ok (.aload_n 0, 1) := by decide +kernel
theorem dX12_init_10 : decode cX12_init 10 = .ok (.iconst (-1), 1) := by decide +kernel
theorem dX12_init_11 : decode cX12_init 11 = .ok (.putfield 13, 3) := by decide +kernel
theorem dX12_init_14 : decode cX12_init 14 = .ok (.aload_n 0, 1) := by decide +kernel
theorem dX12_init_15 : decode cX12_init 15 = .ok (.lconst 1, 1) := by decide +kernel
theorem dX12_init_16 : decode cX12_init 16 = .ok (.putfield 16, 3) := by decide +kernel
theorem dX12_init_19 : decode cX12_init 19 = .ok (.aload_n 0, 1) := by decide +kernel
theorem dX12_init_20 : decode cX12_init 20 = .ok (.bipush 8, 2) := by decide +kernel
theorem dX12_init_22 : decode cX12_init 22 = .ok (.newarray .int, 2) := by decide +kernel
theorem dX12_init_24 : decode cX12_init 24 = .ok (.putfield 20, 3) := by decide +kernel
theorem dX12_init_27 : decode cX12_init 27 = .ok (.aload_n 0, 1) := by decide +kernel
theorem dX12_init_28 : decode cX12_init 28 = .ok (.bipush 8, 2) := by decide +kernel
theorem dX12_init_30 : decode cX12_init 30 = .ok (.newarray .int, 2) := by decide +kernel
theorem dX12_init_32 : decode cX12_init 32 = .ok (.putfield 24, 3) := by decide +kernel
theorem dX12_init_35 : decode cX12_init 35 = .ok (.aload_n 0, 1) := by decide +kernel
theorem dX12_init_36 : decode cX12_init 36 = .ok (.bipush 8, 2) := by decide +kernel
theorem dX12_init_38 : decode cX12_init 38 = .ok (.newarray .int, 2) := by decide +kernel
theorem dX12_init_40 : decode cX12_init 40 = .ok (.putfield 27, 3) := by decide +kernel
theorem dX12_init_43 : decode cX12_init 43 = .ok (.aload_n 0, 1) := by decide +kernel
theorem dX12_init_44 : decode cX12_init 44 = .ok (.bipush 8, 2) := by decide +kernel
theorem dX12_init_46 : decode cX12_init 46 = .ok (.newarray .int, 2) := by decide +kernel
theorem dX12_init_48 : decode cX12_init 48 = .ok (.putfield 30, 3) := by decide +kernel
theorem dX12_init_51 : decode cX12_init 51 = .ok (.aload_n 0, 1) := by decide +kernel
theorem dX12_init_52 : decode cX12_init 52 = .ok (.iconst 4, 1) := by decide +kernel
theorem dX12_init_53 : decode cX12_init 53 = .ok (.newarray .int, 2) := by decide +kernel
theorem dX12_init_55 : decode cX12_init 55 = .ok (.putfield 33, 3) := by decide +kernel
theorem dX12_init_58 : decode cX12_init 58 = .ok (.aload_n 0, 1) := by decide +kernel
theorem dX12_init_59 : decode cX12_init 59 = .ok (.bipush 8, 2) := by decide +kernel
theorem dX12_init_61 : decode cX12_init 61 = .ok (.newarray .int, 2) := by decide +kernel
theorem dX12_init_63 : decode cX12_init 63 = .ok (.putfield 36, 3) := by decide +kernel
theorem dX12_init_66 : decode cX12_init 66 = .ok (.aload_n 0, 1) := by decide +kernel
theorem dX12_init_67 : decode cX12_init 67 = .ok (.bipush 8, 2) := by decide +kernel
theorem dX12_init_69 : decode cX12_init 69 = .ok (.newarray .int, 2) := by decide +kernel
theorem dX12_init_71 : decode cX12_init 71 = .ok (.putfield 39, 3) := by decide +kernel
theorem dX12_init_74 : decode cX12_init 74 = .ok (.aload_n 0, 1) := by decide +kernel
theorem dX12_init_75 : decode cX12_init 75 = .ok (.bipush 8, 2) := by decide +kernel
theorem dX12_init_77 : decode cX12_init 77 = .ok (.newarray .int, 2) := by decide +kernel
theorem dX12_init_79 : decode cX12_init 79 = .ok (.putfield 42, 3) := by decide +kernel
theorem dX12_init_82 : decode cX12_init 82 = .ok (.aload_n 0, 1) := by decide +kernel
theorem dX12_init_83 : decode cX12_init 83 = .ok (.bipush 8, 2) := by decide +kernel
theorem dX12_init_85 : decode cX12_init 85 = .ok (.newarray .int, 2) := by decide +kernel
theorem dX12_init_87 : decode cX12_init 87 = .ok (.putfield 45, 3) := by decide +kernel
theorem dX12_init_90 : decode cX12_init 90 = .ok (.aload_n 0, 1) := by decide +kernel
theorem dX12_init_91 : decode cX12_init 91 = .ok (.sipush 1280, 3) := by decide +kernel
theorem dX12_init_94 : decode cX12_init 94 = .ok (.newarray .long, 2) := by decide +kernel
theorem dX12_init_96 : decode cX12_init 96 = .ok (.putfield 48, 3) := by decide +kernel
theorem dX12_init_99 : decode cX12_init 99 = .ok (.aload_n 0, 1) := by decide +kernel
theorem dX12_init_100 : decode cX12_init 100 = .ok (.sipush 160, 3) := by decide +kernel
theorem dX12_init_103 : decode cX12_init 103 = .ok (.newarray .long, 2) := by decide +kernel
theorem dX12_init_105 : decode cX12_init 105 = .ok (.putfield 52, 3) := by decide +kernel
theorem dX12_init_108 : decode cX12_init 108 = .ok (.aload_n 0, 1) := by decide +kernel
theorem dX12_init_109 : decode cX12_init 109 = .ok (.iconst 4, 1) := by decide +kernel
theorem dX12_init_110 : decode cX12_init 110 = .ok (.newarray .int, 2) := by decide +kernel
theorem dX12_init_112 : decode cX12_init 112 = .ok (.putfield 55, 3) := by decide +kernel
theorem dX12_init_115 : decode cX12_init 115 = .ok (.aload_n 0, 1) := by decide +kernel
theorem dX12_init_116 : decode cX12_init 116 = .ok (.bipush 21, 2) := by decide +kernel
theorem dX12_init_118 : decode cX12_init 118 = .ok (.newarray .int, 2) := by decide +kernel
theorem dX12_init_120 : decode cX12_init 120 = .ok (.dup, 1) := by decide +kernel
theorem dX12_init_121 : decode cX12_init 121 = .ok (.iconst 0, 1) := by decide +kernel
theorem dX12_init_122 : decode cX12_init 122 = .ok (.bipush 102, 2) := by decide +kernel
theorem dX12_init_124 : decode cX12_init 124 = .ok (.iastore, 1) := by decide +kernel
theorem dX12_init_125 : decode cX12_init 125 = .ok (.dup, 1) := by decide +kernel
theorem dX12_init_126 : decode cX12_init 126 = .ok (.iconst 1, 1) := by decide +kernel
theorem dX12_init_127 : decode cX12_init 127 = .ok (.bipush 105, 2) := by decide +kernel
theorem dX12_init_129 : decode cX12_init 129 = .ok (.iastore, 1) := by decide +kernel
theorem dX12_init_130 : decode cX12_init 130 = .ok (.dup, 1) := by decide +kernel
theorem dX12_init_131 : decode cX12_init 131 = .ok (.iconst 2, 1) := by decide +kernel
theorem dX12_init_132 : decode cX12_init 132 = .ok (.bipush 103, 2) := by decide +kernel
theorem dX12_init_134 : decode cX12_init 134 = .ok (.iastore, 1) := by decide +kernel
theorem dX12_init_135 : decode cX12_init 135 = .ok (.dup, 1) := by decide +kernel
theorem dX12_init_136 : decode cX12_init 136 = .ok (.iconst 3, 1) := by decide +kernel
theorem dX12_init_137 : decode cX12_init 137 = .ok (.bipush 117, 2) := by decide +kernel
theorem dX12_init_139 : decode cX12_init 139 = .ok (.iastore, 1) := by decide +kernel
theorem dX12_init_140 : decode cX12_init 140 = .ok (.dup, 1) := by decide +kernel
theorem dX12_init_141 : decode cX12_init 141 = .ok (.iconst 4, 1) := by decide +kernel
theorem dX12_init_142 : decode cX12_init 142 = .ok (.bipush 114, 2) := by decide +kernel
theorem dX12_init_144 : decode cX12_init 144 = .ok (.iastore, 1) := by decide +kernel
theorem dX12_init_145 : decode cX12_init 145 = .ok (.dup, 1) := by decide +kernel
theorem dX12_init_146 : decode cX12_init 146 = .ok (.iconst 5, 1) := by decide +kernel
theorem dX12_init_147 : decode cX12_init 147 = .ok (.bipush 101, 2) := by decide +kernel
theorem dX12_init_149 : decode cX12_init 149 = .ok (.iastore, 1) := by decide +kernel
theorem dX12_init_150 : decode cX12_init 150 = .ok (.dup, 1) := by decide +kernel
theorem dX12_init_151 : decode cX12_init 151 = .ok (.bipush 6, 2) := by decide +kernel
theorem dX12_init_153 : decode cX12_init 153 = .ok (.bipush 32, 2) := by decide +kernel
theorem dX12_init_155 : decode cX12_init 155 = .ok (.iastore, 1) := by decide +kernel
theorem dX12_init_156 : decode cX12_init 156 = .ok (.dup, 1) := by decide +kernel
theorem dX12_init_157 : decode cX12_init 157 = .ok (.bipush 7, 2) := by decide +kernel
theorem dX12_init_159 : decode cX12_init 159 = .ok (.iconst 0, 1) := by decide +kernel
theorem dX12_init_160 : decode cX12_init 160 = .ok (.iastore, 1) := by decide +kernel
theorem dX12_init_161 : decode cX12_init 161 = .ok (.dup, 1) := by decide +kernel
theorem dX12_init_162 : decode cX12_init 162 = .ok (.bipush 8, 2) := by decide +kernel
theorem dX12_init_164 : decode cX12_init 164 = .ok (.bipush 99, 2) := by decide +kernel
theorem dX12_init_166 : decode cX12_init 166 = .ok (.iastore, 1) := by decide +kernel
theorem dX12_init_167 : decode cX12_init 167 = .ok (.dup, 1) := by decide +kernel
theorem dX12_init_168 : decode cX12_init 168 = .ok (.bipush 9, 2) := by decide +kernel
theorem dX12_init_170 : decode cX12_init 170 = .ok (.bipush 97, 2) := by decide +kernel
theorem dX12_init_172 : decode cX12_init 172 = .ok (.iastore, 1) := by decide +kernel
theorem dX12_init_173 : decode cX12_init 173 = .ok (.dup, 1) := by decide +kernel
theorem dX12_init_174 : decode cX12_init 174 = .ok (.bipush 10, 2) := by decide +kernel
theorem dX12_init_176 : decode cX12_init 176 = .ok (.bipush 108, 2) := by decide +kernel
theorem dX12_init_178 : decode cX12_init 178 = .ok (.iastore, 1) := by decide +kernel
theorem dX12_init_179 : decode cX12_init 179 = .ok (.dup, 1) := by decide +kernel
theorem dX12_init_180 : decode cX12_init 180 = .ok (.bipush 11, 2) := by decide +kernel
theorem dX12_init_182 : decode cX12_init 182 = .ok (.bipush 108, 2) := by decide +kernel
theorem dX12_init_184 : decode cX12_init 184 = .ok (.iastore, 1) := by decide +kernel
theorem dX12_init_185 : decode cX12_init 185 = .ok (.dup, 1) := by decide +kernel
theorem dX12_init_186 : decode cX12_init 186 = .ok (.bipush 12, 2) := by decide +kernel
theorem dX12_init_188 : decode cX12_init 188 = .ok (.bipush 32, 2) := by decide +kernel
theorem dX12_init_190 : decode cX12_init 190 = .ok (.iastore, 1) := by decide +kernel
theorem dX12_init_191 : decode cX12_init 191 = .ok (.dup, 1) := by decide +kernel
theorem dX12_init_192 : decode cX12_init 192 = .ok (.bipush 13, 2) := by decide +kernel
theorem dX12_init_194 : decode cX12_init 194 = .ok (.iconst 0, 1) := by decide +kernel
theorem dX12_init_195 : decode cX12_init 195 = .ok (.iastore, 1) := by decide +kernel
theorem dX12_init_196 : decode cX12_init 196 = .ok (.dup, 1) := by decide +kernel
theorem dX12_init_197 : decode cX12_init 197 = .ok (.bipush 14, 2) := by decide +kernel
theorem dX12_init_199 : decode cX12_init 199 = .ok (.bipush 115, 2) := by decide +kernel
theorem dX12_init_201 : decode cX12_init 201 = .ok (.iastore, 1) := by decide +kernel
theorem dX12_init_202 : decode cX12_init 202 = .ok (.dup, 1) := by decide +kernel
theorem dX12_init_203 : decode cX12_init 203 = .ok (.bipush 15, 2) := by decide +kernel
theorem dX12_init_205 : decode cX12_init 205 = .ok (.bipush 116, 2) := by decide +kernel
theorem dX12_init_207 : decode cX12_init 207 = .ok (.iastore, 1) := by decide +kernel
theorem dX12_init_208 : decode cX12_init 208 = .ok (.dup, 1) := by decide +kernel
theorem dX12_init_209 : decode cX12_init 209 = .ok (.bipush 16, 2) := by decide +kernel
theorem dX12_init_211 : decode cX12_init 211 = .ok (.bipush 97, 2) := by decide +kernel
theorem dX12_init_213 : decode cX12_init 213 = .ok (.iastore, 1) := by decide +kernel
theorem dX12_init_214 : decode cX12_init 214 = .ok (.dup, 1) := by decide +kernel
theorem dX12_init_215 : decode cX12_init 215 = .ok (.bipush 17, 2) := by decide +kernel
theorem dX12_init_217 : decode cX12_init 217 = .ok (.bipush 114, 2) := by decide +kernel
theorem dX12_init_219 : decode cX12_init 219 = .ok (.iastore, 1) := by decide +kernel
theorem dX12_init_220 : decode cX12_init 220 = .ok (.dup, 1) := by decide +kernel
theorem dX12_init_221 : decode cX12_init 221 = .ok (.bipush 18, 2) := by decide +kernel
theorem dX12_init_223 : decode cX12_init 223 = .ok (.bipush 116, 2) := by decide +kernel
theorem dX12_init_225 : decode cX12_init 225 = .ok (.iastore, 1) := by decide +kernel
theorem dX12_init_226 : decode cX12_init 226 = .ok (.dup, 1) := by decide +kernel
theorem dX12_init_227 : decode cX12_init 227 = .ok (.bipush 19, 2) := by decide +kernel
theorem dX12_init_229 : decode cX12_init 229 = .ok (.bipush 32, 2) := by decide +kernel
theorem dX12_init_231 : decode cX12_init 231 = .ok (.iastore, 1) := by decide +kernel
theorem dX12_init_232 : decode cX12_init 232 = .ok (.dup, 1) := by decide +kernel
theorem dX12_init_233 : decode cX12_init 233 = .ok (.bipush 20, 2) := by decide +kernel
theorem dX12_init_235 : decode cX12_init 235 = .ok (.iconst 0, 1) := by decide +kernel
theorem dX12_init_236 : decode cX12_init 236 = .ok (.iastore, 1) := by decide +kernel
theorem dX12_init_237 : decode cX12_init 237 = .ok (.putfield 58, 3) := by decide +kernel
theorem dX12_init_240 : decode cX12_init 240 = .ok (.aload_n 0, 1) := by decide +kernel
theorem dX12_init_241 : decode cX12_init 241 = .ok (.iconst 3, 1) := by decide +kernel
theorem dX12_init_242 : decode cX12_init 242 = .ok (.newarray .int, 2) := by decide +kernel
theorem dX12_init_244 : decode cX12_init 244 = .ok (.putfield 61, 3) := by decide +kernel
theorem dX12_init_247 : decode cX12_init 247 = .ok (.aload_n 0, 1) := by decide +kernel
theorem dX12_init_248 : decode cX12_init 248 = .ok (.bipush 40, 2) := by decide +kernel
theorem dX12_init_250 : decode cX12_init 250 = .ok (.newarray .int, 2) := by decide +kernel
theorem dX12_init_252 : decode cX12_init 252 = .ok (.putfield 64, 3) := by decide +kernel
theorem dX12_init_255 : decode cX12_init 255 = .ok (.aload_n 0, 1) := by decide +kernel
theorem dX12_init_256 : decode cX12_init 256 = .ok (.bipush 40, 2) := by decide +kernel
theorem dX12_init_258 : decode cX12_init 258 = .ok (.newarray .int, 2) := by decide +kernel
theorem dX12_init_260 : decode cX12_init 260 = .ok (.putfield 67, 3) := by decide +kernel
theorem dX12_init_263 : decode cX12_init 263 = .ok (.aload_n 0, 1) := by decide +kernel
theorem dX12_init_264 : decode cX12_init 264 = .ok (.iconst 2, 1) := by decide +kernel
theorem dX12_init_265 : decode cX12_init 265 = .ok (.newarray .long, 2) := by decide +kernel
theorem dX12_init_267 : decode cX12_init 267 = .ok (.putfield 70, 3) := by decide +kernel
theorem dX12_init_270 : decode cX12_init 270 = .ok (.aload_n 0, 1) := by decide +kernel
theorem dX12_init_271 : decode cX12_init 271 = .ok (.iconst 2, 1) := by decide +kernel
theorem dX12_init_272 : decode cX12_init 272 = .ok (.newarray .long, 2) := by decide +kernel
theorem dX12_init_274 : decode cX12_init 274 = .ok (.putfield 73, 3) := by decide +kernel
theorem dX12_init_277 : decode cX12_init 277 = .ok (.aload_n 0, 1) := by decide +kernel
theorem dX12_init_278 : decode cX12_init 278 = .ok (.iconst 4, 1) := by decide +kernel
theorem dX12_init_279 : decode cX12_init 279 = .ok (.newarray .int, 2) := by decide +kernel
theorem dX12_init_281 : decode cX12_init 281 = .ok (.putfield 76, 3) := by decide +kernel
theorem dX12_init_284 : decode cX12_init 284 = .ok (.aload_n 0, 1) := by decide +kernel
theorem dX12_init_285 : decode cX12_init 285 = .ok (.bipush 10, 2) := by decide +kernel
theorem dX12_init_287 : decode cX12_init 287 = .ok (.newarray .int, 2) := by decide +kernel
theorem dX12_init_289 : decode cX12_init 289 = .ok (.putfield 79, 3) := by decide +kernel
theorem dX12_init_292 : decode cX12_init 292 = .ok (.aload_n 0, 1) := by decide +kernel
theorem dX12_init_293 : decode cX12_init 293 = .ok (.bipush 10, 2) := by decide +kernel
theorem dX12_init_295 : decode cX12_init 295 = .ok (.newarray .int, 2) := by decide +kernel
theorem dX12_init_297 : decode cX12_init 297 = .ok (.putfield 82, 3) := by decide +kernel
theorem dX12_init_300 : decode cX12_init 300 = .ok (.aload_n 0, 1) := by decide +kernel
theorem dX12_init_301 : decode cX12_init 301 = .ok (.sipush 128, 3) := by decide +kernel
theorem dX12_init_304 : decode cX12_init 304 = .ok (.newarray .long, 2) := by decide +kernel
theorem dX12_init_306 : decode cX12_init 306 = .ok (.putfield 85, 3) := by decide +kernel
theorem dX12_init_309 : decode cX12_init 309 = .ok (.aload_n 0, 1) := by decide +kernel
theorem dX12_init_310 : decode cX12_init 310 = .ok (.sipush 128, 3) := by decide +kernel
theorem dX12_init_313 : decode cX12_init 313 = .ok (.newarray .long, 2) := by decide +kernel
theorem dX12_init_315 : decode cX12_init 315 = .ok (.putfield 88, 3) := by decide +kernel
theorem dX12_init_318 : decode cX12_init 318 = .ok (.aload_n 0, 1) := by decide +kernel
theorem dX12_init_319 : decode cX12_init 319 = .ok (.iconst 4, 1) := by decide +kernel
theorem dX12_init_320 : decode cX12_init 320 = .ok (.newarray .long, 2) := by decide +kernel
theorem dX12_init_322 : decode cX12_init 322 = .ok (.putfield 91, 3) := by decide +kernel
theorem dX12_init_325 : decode cX12_init 325 = .ok (.aload_n 0, 1) := by decide +kernel
theorem dX12_init_326 : decode cX12_init 326 = .ok (.iconst 4, 1) := by decide +kernel
theorem dX12_init_327 : decode cX12_init 327 = .ok (.newarray .long, 2) := by decide +kernel
theorem dX12_init_329 : decode cX12_init 329 = .ok (.putfield 94, 3) := by decide +kernel
theorem dX12_init_332 : decode cX12_init 332 = .ok (.aload_n 0, 1) := by decide +kernel
theorem dX12_init_333 : decode cX12_init 333 = .ok (.bipush 40, 2) := by decide +kernel
theorem dX12_init_335 : decode cX12_init 335 = .ok (.newarray .long, 2) := by decide +kernel
theorem dX12_init_337 : decode cX12_init 337 = .ok (.putfield 97, 3) := by decide +kernel
theorem dX12_init_340 : decode cX12_init 340 = .ok (.aload_n 0, 1) := by decide +kernel
theorem dX12_init_341 : decode cX12_init 341 = .ok (.bipush 40, 2) := by decide +kernel
theorem dX12_init_343 : decode cX12_init 343 = .ok (.newarray .long, 2) := by decide +kernel
theorem dX12_init_345 : decode cX12_init 345 = .ok (.putfield 100, 3) := by decide +kernel
theorem dX12_init_348 : decode cX12_init 348 = .ok (.aload_n 0, 1) := by decide +kernel
theorem dX12_init_349 : decode cX12_init 349 = .ok (.bipush 20, 2) := by decide +kernel
theorem dX12_init_351 : decode cX12_init 351 = .ok (.newarray .int, 2) := by decide +kernel
theorem dX12_init_353 : decode cX12_init 353 = .ok (.putfield 103, 3) := by decide +kernel
theorem dX12_init_356 : decode cX12_init 356 = .ok (.iconst 0, 1) := by decide +kernel
theorem dX12_init_357 : decode cX12_init 357 = .ok (.istore_n 1, 1) := by decide +kernel
theorem dX12_init_358 : decode cX12_init 358 = .ok (.iload_n 1, 1) := by decide +kernel
theorem dX12_init_359 : decode cX12_init 359 = .ok (.iconst 4, 1) := by decide +kernel
theorem dX12_init_360 : decode cX12_init 360 = .ok (.if_icmp .ge 16, 3) := by decide +kernel
theorem dX12_init_363 : decode cX12_init 363 = .ok (.aload_n 0, 1) := by decide +kernel
theorem dX12_init_364 : decode cX12_init 364 = .ok (.getfield 33, 3) := by decide +kernel
theorem dX12_init_367 : decode cX12_init 367 = .ok (.iload_n 1, 1) := by decide +kernel
theorem dX12_init_368 : decode cX12_init 368 = .ok (.iload_n 1, 1) := by decide +kernel
theorem dX12_init_369 : decode cX12_init 369 = .ok (.iastore, 1) := by decide +kernel
theorem dX12_init_370 : decode cX12_init 370 = .ok (.iinc 1 1, 3) := by decide +kernel
theorem dX12_init_373 : decode cX12_init 373 = .ok (.goto (-15), 3) := by decide +kernel
theorem dX12_init_376 : decode cX12_init 376 = .ok (.return_, 1) := by decide +kernel
theorem dX12_no_0 : decode cX12_no 0 = .ok (.aload_n 0, 1) := by decide +kernel
theorem dX12_no_1 : decode cX12_no 1 = .ok (.getfield 20, 3) := by decide +kernel
theorem dX12_no_4 : decode cX12_no 4 = .ok (.iload_n 1, 1) := by decide +kernel
theorem dX12_no_5 : decode cX12_no 5 = .ok (.ineg, 1) := by decide +kernel
theorem dX12_no_6 : decode cX12_no 6 = .ok (.dup2, 1) := by decide +kernel
theorem dX12_no_7 : decode cX12_no 7 = .ok (.iaload, 1) := by decide +kernel
theorem dX12_no_8 : decode cX12_no 8 = .ok (.iconst 1, 1) := by decide +kernel
theorem dX12_no_9 : decode cX12_no 9 = .ok (.iadd, 1) := by decide +kernel
theorem dX12_no_10 : decode cX12_no 10 = .ok (.iastore, 1) := by decide +kernel
theorem dX12_no_11 : decode cX12_no 11 = .ok (.iload_n 1, 1) := by decide +kernel
theorem dX12_no_12 : decode cX12_no 12 = .ok (.ireturn, 1) := by decide +kernel
theorem dX12_noTen_0 : decode cX12_noTen 0 = .ok (.aload_n 0, 1) := by decide +kernel
theorem dX12_noTen_1 : decode cX12_noTen 1 = .ok (.getfield 20, 3) := by decide +kernel
theorem dX12_noTen_4 : decode cX12_noTen 4 = .ok (.iload_n 1, 1) := by decide +kernel
theorem dX12_noTen_5 : decode cX12_noTen 5 = .ok (.ineg, 1) := by decide +kernel
theorem dX12_noTen_6 : decode cX12_noTen 6 = .ok (.dup2, 1) := by decide +kernel
theorem dX12_noTen_7 : decode cX12_noTen 7 = .ok (.iaload, 1) := by decide +kernel
theorem dX12_noTen_8 : decode cX12_noTen 8 = .ok (.iconst 1, 1) := by decide +kernel
theorem dX12_noTen_9 : decode cX12_noTen 9 = .ok (.iadd, 1) := by decide +kernel
theorem dX12_noTen_10 : decode cX12_noTen 10 = .ok (.iastore, 1) := by decide +kernel
theorem dX12_noTen_11 : decode cX12_noTen 11 = .ok (.iload_n 1, 1) := by decide +kernel
theorem dX12_noTen_12 : decode cX12_noTen 12 = .ok (.bipush 10, 2) := by decide +kernel
theorem dX12_noTen_14 : decode cX12_noTen 14 = .ok (.isub, 1) := by decide +kernel
theorem dX12_noTen_15 : decode cX12_noTen 15 = .ok (.ireturn, 1) := by decide +kernel
theorem dX12_noLow_0 : decode cX12_noLow 0 = .ok (.aload_n 0, 1) := by decide +kernel
theorem dX12_noLow_1 : decode cX12_noLow 1 = .ok (.getfield 20, 3) := by decide +kernel
theorem dX12_noLow_4 : decode cX12_noLow 4 = .ok (.iload_n 1, 1) := by decide +kernel
theorem dX12_noLow_5 : decode cX12_noLow 5 = .ok (.ineg, 1) := by decide +kernel
theorem dX12_noLow_6 : decode cX12_noLow 6 = .ok (.dup2, 1) := by decide +kernel
theorem dX12_noLow_7 : decode cX12_noLow 7 = .ok (.iaload, 1) := by decide +kernel
theorem dX12_noLow_8 : decode cX12_noLow 8 = .ok (.iconst 1, 1) := by decide +kernel
theorem dX12_noLow_9 : decode cX12_noLow 9 = .ok (.iadd, 1) := by decide +kernel
theorem dX12_noLow_10 : decode cX12_noLow 10 = .ok (.iastore, 1) := by decide +kernel
theorem dX12_noLow_11 : decode cX12_noLow 11 = .ok (.ldc2_w 106, 3) := by decide +kernel
theorem dX12_noLow_14 : decode cX12_noLow 14 = .ok (.iload_n 1, 1) := by decide +kernel
theorem dX12_noLow_15 : decode cX12_noLow 15 = .ok (.i2l, 1) := by decide +kernel
theorem dX12_noLow_16 : decode cX12_noLow 16 = .ok (.ladd, 1) := by decide +kernel
theorem dX12_noLow_17 : decode cX12_noLow 17 = .ok (.lreturn, 1) := by decide +kernel
theorem dX12_isShelf_0 : decode cX12_isShelf 0 = .ok (.iload_n 1, 1) := by decide +kernel
theorem dX12_isShelf_1 : decode cX12_isShelf 1 = .ok (.ifCond .lt 13, 3) := by decide +kernel
theorem dX12_isShelf_4 : decode cX12_isShelf 4 = .ok (.iload_n 1, 1) := by decide +kernel
theorem dX12_isShelf_5 : decode cX12_isShelf 5 = .ok (.bipush 8, 2) := by decide +kernel
theorem dX12_isShelf_7 : decode cX12_isShelf 7 = .ok (.if_icmp .ge 7, 3) := by decide +kernel
theorem dX12_isShelf_10 : decode cX12_isShelf 10 = .ok (.iconst 1, 1) := by decide +kernel
theorem dX12_isShelf_11 : decode cX12_isShelf 11 = .ok (.goto 4, 3) := by decide +kernel
theorem dX12_isShelf_14 : decode cX12_isShelf 14 = .ok (.iconst 0, 1) := by decide +kernel
theorem dX12_isShelf_15 : decode cX12_isShelf 15 = .ok (.ireturn, 1) := by decide +kernel
theorem dX12_isFigure_0 : decode cX12_isFigure 0 = .ok (.iload_n 1, 1) := by decide +kernel
theorem dX12_isFigure_1 : decode cX12_isFigure 1 = .ok (.ifCond .lt 15, 3) := by decide +kernel
theorem dX12_isFigure_4 : decode cX12_isFigure 4 = .ok (.iload_n 1, 1) := by decide +kernel
theorem dX12_isFigure_5 : decode cX12_isFigure 5 = .ok (.aload_n 0, 1) := by decide +kernel
theorem dX12_isFigure_6 : decode cX12_isFigure 6 = .ok (.getfield 108, 3) := by decide +kernel
theorem dX12_isFigure_9 : decode cX12_isFigure 9 = .ok (.if_icmp .ge 7, 3) := by decide +kernel
theorem dX12_isFigure_12 : decode cX12_isFigure 12 = .ok (.iconst 1, 1) := by decide +kernel
theorem dX12_isFigure_13 : decode cX12_isFigure 13 = .ok (.goto 4, 3) := by decide +kernel
theorem dX12_isFigure_16 : decode cX12_isFigure 16 = .ok (.iconst 0, 1) := by decide +kernel
theorem dX12_isFigure_17 : decode cX12_isFigure 17 = .ok (.ireturn, 1) := by decide +kernel
theorem dX12_row_0 : decode cX12_row 0 = .ok (.aload_n 0, 1) := by decide +kernel
theorem dX12_row_1 : decode cX12_row 1 = .ok (.iload_n 1, 1) := by decide +kernel
theorem dX12_row_2 : decode cX12_row 2 = .ok (.invokevirtual 111, 3) := by decide +kernel
theorem dX12_row_5 : decode cX12_row 5 = .ok (.ifCond .ne 9, 3) := by decide +kernel
theorem dX12_row_8 : decode cX12_row 8 = .ok (.aload_n 0, 1) := by decide +kernel
theorem dX12_row_9 : decode cX12_row 9 = .ok (.iconst (-1), 1) := by decide +kernel
theorem dX12_row_10 : decode cX12_row 10 = .ok (.invokevirtual 115, 3) := by decide +kernel
theorem dX12_row_13 : decode cX12_row 13 = .ok (.ireturn, 1) := by decide +kernel
theorem dX12_row_14 : decode cX12_row 14 = .ok (.iload_n 3, 1) := by decide +kernel
theorem dX12_row_15 : decode cX12_row 15 = .ok (.ifCond .ge 10, 3) := by decide +kernel
theorem dX12_row_18 : decode cX12_row 18 = .ok (.aload_n 0, 1) := by decide +kernel
theorem dX12_row_19 : decode cX12_row 19 = .ok (.bipush (-4), 2) := by decide +kernel
theorem dX12_row_21 : decode cX12_row 21 = .ok (.invokevirtual 115, 3) := by decide +kernel
theorem dX12_row_24 : decode cX12_row 24 = .ok (.ireturn, 1) := by decide +kernel
theorem dX12_row_25 : decode cX12_row 25 = .ok (.iload_n 2, 1) := by decide +kernel
theorem dX12_row_26 : decode cX12_row 26 = .ok (.ifCond .lt 8, 3) := by decide +kernel
theorem dX12_row_29 : decode cX12_row 29 = .ok (.iload_n 2, 1) := by decide +kernel
theorem dX12_row_30 : decode cX12_row 30 = .ok (.iconst 3, 1) := by decide +kernel
theorem dX12_row_31 : decode cX12_row 31 = .ok (.if_icmp .le 10, 3) := by decide +kernel
theorem dX12_row_34 : decode cX12_row 34 = .ok (.aload_n 0, 1) := by decide +kernel
theorem dX12_row_35 : decode cX12_row 35 = .ok (.bipush (-6), 2) := by decide +kernel
theorem dX12_row_37 : decode cX12_row 37 = .ok (.invokevirtual 115, 3) := by decide +kernel
theorem dX12_row_40 : decode cX12_row 40 = .ok (.ireturn, 1) := by decide +kernel
theorem dX12_row_41 : decode cX12_row 41 = .ok (.iload_n 3, 1) := by decide +kernel
theorem dX12_row_42 : decode cX12_row 42 = .ok (.sipush 160, 3) := by decide +kernel
theorem dX12_row_45 : decode cX12_row 45 = .ok (.if_icmp .le 10, 3) := by decide +kernel
theorem dX12_row_48 : decode cX12_row 48 = .ok (.aload_n 0, 1) := by decide +kernel
theorem dX12_row_49 : decode cX12_row 49 = .ok (.bipush (-7), 2) := by decide +kernel
theorem dX12_row_51 : decode cX12_row 51 = .ok (.invokevirtual 115, 3) := by decide +kernel
theorem dX12_row_54 : decode cX12_row 54 = .ok (.ireturn, 1) := by decide +kernel
theorem dX12_row_55 : decode cX12_row 55 = .ok (.aload_n 0, 1) := by decide +kernel
theorem dX12_row_56 : decode cX12_row 56 = .ok (.getfield 36, 3) := by decide +kernel
theorem dX12_row_59 : decode cX12_row 59 = .ok (.iload_n 1, 1) := by decide +kernel
theorem dX12_row_60 : decode cX12_row 60 = .ok (.iconst 1, 1) := by decide +kernel
theorem dX12_row_61 : decode cX12_row 61 = .ok (.iastore, 1) := by decide +kernel
theorem dX12_row_62 : decode cX12_row 62 = .ok (.aload_n 0, 1) := by decide +kernel
theorem dX12_row_63 : decode cX12_row 63 = .ok (.getfield 39, 3) := by decide +kernel
theorem dX12_row_66 : decode cX12_row 66 = .ok (.iload_n 1, 1) := by decide +kernel
theorem dX12_row_67 : decode cX12_row 67 = .ok (.iload_n 2, 1) := by decide +kernel
theorem dX12_row_68 : decode cX12_row 68 = .ok (.iastore, 1) := by decide +kernel
theorem dX12_row_69 : decode cX12_row 69 = .ok (.aload_n 0, 1) := by decide +kernel
theorem dX12_row_70 : decode cX12_row 70 = .ok (.getfield 42, 3) := by decide +kernel
theorem dX12_row_73 : decode cX12_row 73 = .ok (.iload_n 1, 1) := by decide +kernel
theorem dX12_row_74 : decode cX12_row 74 = .ok (.iload_n 3, 1) := by decide +kernel
theorem dX12_row_75 : decode cX12_row 75 = .ok (.iastore, 1) := by decide +kernel
theorem dX12_row_76 : decode cX12_row 76 = .ok (.iconst 0, 1) := by decide +kernel
theorem dX12_row_77 : decode cX12_row 77 = .ok (.istore 4, 2) := by decide +kernel
theorem dX12_row_79 : decode cX12_row 79 = .ok (.iload 4, 2) := by decide +kernel
theorem dX12_row_81 : decode cX12_row 81 = .ok (.sipush 160, 3) := by decide +kernel
theorem dX12_row_84 : decode cX12_row 84 = .ok (.if_icmp .ge 23, 3) := by decide +kernel
theorem dX12_row_87 : decode cX12_row 87 = .ok (.aload_n 0, 1) := by decide +kernel
theorem dX12_row_88 : decode cX12_row 88 = .ok (.getfield 48, 3) := by decide +kernel
theorem dX12_row_91 : decode cX12_row 91 = .ok (.sipush 160, 3) := by decide +kernel
theorem dX12_row_94 : decode cX12_row 94 = .ok (.iload_n 1, 1) := by decide +kernel
theorem dX12_row_95 : decode cX12_row 95 = .ok (.imul, 1) := by decide +kernel
theorem dX12_row_96 : decode cX12_row 96 = .ok (.iload 4, 2) := by decide +kernel
theorem dX12_row_98 : decode cX12_row 98 = .ok (.iadd, 1) := by decide +kernel
theorem dX12_row_99 : decode cX12_row 99 = .ok (.lconst 0, 1) := by decide +kernel
theorem dX12_row_100 : decode cX12_row 100 = .ok (.lastore, 1) := by decide +kernel
theorem dX12_row_101 : decode cX12_row 101 = .ok (.iinc 4 1, 3) := by decide +kernel
theorem dX12_row_104 : decode cX12_row 104 = .ok (.goto (-25), 3) := by decide +kernel
theorem dX12_row_107 : decode cX12_row 107 = .ok (.iconst 1, 1) := by decide +kernel
theorem dX12_row_108 : decode cX12_row 108 = .ok (.ireturn, 1) := by decide +kernel
theorem dX12_set_0 : decode cX12_set 0 = .ok (.aload_n 0, 1) := by decide +kernel
theorem dX12_set_1 : decode cX12_set 1 = .ok (.iload_n 1, 1) := by decide +kernel
theorem dX12_set_2 : decode cX12_set 2 = .ok (.invokevirtual 111, 3) := by decide +kernel
theorem dX12_set_5 : decode cX12_set 5 = .ok (.ifCond .ne 9, 3) := by decide +kernel
theorem dX12_set_8 : decode cX12_set 8 = .ok (.aload_n 0, 1) := by decide +kernel
theorem dX12_set_9 : decode cX12_set 9 = .ok (.iconst (-1), 1) := by decide +kernel
theorem dX12_set_10 : decode cX12_set 10 = .ok (.invokevirtual 115, 3) := by decide +kernel
theorem dX12_set_13 : decode cX12_set 13 = .ok (.ireturn, 1) := by decide +kernel
theorem dX12_set_14 : decode cX12_set 14 = .ok (.aload_n 0, 1) := by decide +kernel
theorem dX12_set_15 : decode cX12_set 15 = .ok (.getfield 36, 3) := by decide +kernel
theorem dX12_set_18 : decode cX12_set 18 = .ok (.iload_n 1, 1) := by decide +kernel
theorem dX12_set_19 : decode cX12_set 19 = .ok (.iaload, 1) := by decide +kernel
theorem dX12_set_20 : decode cX12_set 20 = .ok (.iconst 2, 1) := by decide +kernel
theorem dX12_set_21 : decode cX12_set 21 = .ok (.if_icmp .ne 10, 3) := by decide +kernel
theorem dX12_set_24 : decode cX12_set 24 = .ok (.aload_n 0, 1) := by decide +kernel
theorem dX12_set_25 : decode cX12_set 25 = .ok (.bipush (-2), 2) := by decide +kernel
theorem dX12_set_27 : decode cX12_set 27 = .ok (.invokevirtual 115, 3) := by decide +kernel
theorem dX12_set_30 : decode cX12_set 30 = .ok (.ireturn, 1) := by decide +kernel
theorem dX12_set_31 : decode cX12_set 31 = .ok (.aload_n 0, 1) := by decide +kernel
theorem dX12_set_32 : decode cX12_set 32 = .ok (.getfield 36, 3) := by decide +kernel
theorem dX12_set_35 : decode cX12_set 35 = .ok (.iload_n 1, 1) := by decide +kernel
theorem dX12_set_36 : decode cX12_set 36 = .ok (.iaload, 1) := by decide +kernel
theorem dX12_set_37 : decode cX12_set 37 = .ok (.ifCond .ne 10, 3) := by decide +kernel
theorem dX12_set_40 : decode cX12_set 40 = .ok (.aload_n 0, 1) := by decide +kernel
theorem dX12_set_41 : decode cX12_set 41 = .ok (.bipush (-3), 2) := by decide +kernel
theorem dX12_set_43 : decode cX12_set 43 = .ok (.invokevirtual 115, 3) := by decide +kernel
theorem dX12_set_46 : decode cX12_set 46 = .ok (.ireturn, 1) := by decide +kernel
theorem dX12_set_47 : decode cX12_set 47 = .ok (.iload_n 2, 1) := by decide +kernel
theorem dX12_set_48 : decode cX12_set 48 = .ok (.ifCond .lt 13, 3) := by decide +kernel
theorem dX12_set_51 : decode cX12_set 51 = .ok (.iload_n 2, 1) := by decide +kernel
theorem dX12_set_52 : decode cX12_set 52 = .ok (.aload_n 0, 1) := by decide +kernel
theorem dX12_set_53 : decode cX12_set 53 = .ok (.getfield 42, 3) := by decide +kernel
theorem dX12_set_56 : decode cX12_set 56 = .ok (.iload_n 1, 1) := by decide +kernel
theorem dX12_set_57 : decode cX12_set 57 = .ok (.iaload, 1) := by decide +kernel
theorem dX12_set_58 : decode cX12_set 58 = .ok (.if_icmp .lt 10, 3) := by decide +kernel
theorem dX12_set_61 : decode cX12_set 61 = .ok (.aload_n 0, 1) := by decide +kernel
theorem dX12_set_62 : decode cX12_set 62 = .ok (.bipush (-5), 2) := by decide +kernel
theorem dX12_set_64 : decode cX12_set 64 = .ok (.invokevirtual 115, 3) := by decide +kernel
theorem dX12_set_67 : decode cX12_set 67 = .ok (.ireturn, 1) := by decide +kernel
theorem dX12_set_68 : decode cX12_set 68 = .ok (.aload_n 0, 1) := by decide +kernel
theorem dX12_set_69 : decode cX12_set 69 = .ok (.getfield 48, 3) := by decide +kernel
theorem dX12_set_72 : decode cX12_set 72 = .ok (.sipush 160, 3) := by decide +kernel
theorem dX12_set_75 : decode cX12_set 75 = .ok (.iload_n 1, 1) := by decide +kernel
theorem dX12_set_76 : decode cX12_set 76 = .ok (.imul, 1) := by decide +kernel
theorem dX12_set_77 : decode cX12_set 77 = .ok (.iload_n 2, 1) := by decide +kernel
theorem dX12_set_78 : decode cX12_set 78 = .ok (.iadd, 1) := by decide +kernel
theorem dX12_set_79 : decode cX12_set 79 = .ok (.aload_n 0, 1) := by decide +kernel
theorem dX12_set_80 : decode cX12_set 80 = .ok (.getfield 39, 3) := by decide +kernel
theorem dX12_set_83 : decode cX12_set 83 = .ok (.iload_n 1, 1) := by decide +kernel
theorem dX12_set_84 : decode cX12_set 84 = .ok (.iaload, 1) := by decide +kernel
theorem dX12_set_85 : decode cX12_set 85 = .ok (.ifCond .ne 10, 3) := by decide +kernel
theorem dX12_set_88 : decode cX12_set 88 = .ok (.lload_n 3, 1) := by decide +kernel
theorem dX12_set_89 : decode cX12_set 89 = .ok (.l2i, 1) := by decide +kernel
theorem dX12_set_90 : decode cX12_set 90 = .ok (.i2b, 1) := by decide +kernel
theorem dX12_set_91 : decode cX12_set 91 = .ok (.i2l, 1) := by decide +kernel
theorem dX12_set_92 : decode cX12_set 92 = .ok (.goto 37, 3) := by decide +kernel
theorem dX12_set_95 : decode cX12_set 95 = .ok (.aload_n 0, 1) := by decide +kernel
theorem dX12_set_96 : decode cX12_set 96 = .ok (.getfield 39, 3) := by decide +kernel
theorem dX12_set_99 : decode cX12_set 99 = .ok (.iload_n 1, 1) := by decide +kernel
theorem dX12_set_100 : decode cX12_set 100 = .ok (.iaload, 1) := by decide +kernel
theorem dX12_set_101 : decode cX12_set 101 = .ok (.iconst 1, 1) := by decide +kernel
theorem dX12_set_102 : decode cX12_set 102 = .ok (.if_icmp .ne 10, 3) := by decide +kernel
theorem dX12_set_105 : decode cX12_set 105 = .ok (.lload_n 3, 1) := by decide +kernel
theorem dX12_set_106 : decode cX12_set 106 = .ok (.l2i, 1) := by decide +kernel
theorem dX12_set_107 : decode cX12_set 107 = .ok (.i2s, 1) := by decide +kernel
theorem dX12_set_108 : decode cX12_set 108 = .ok (.i2l, 1) := by decide +kernel
theorem dX12_set_109 : decode cX12_set 109 = .ok (.goto 20, 3) := by decide +kernel
theorem dX12_set_112 : decode cX12_set 112 = .ok (.aload_n 0, 1) := by decide +kernel
theorem dX12_set_113 : decode cX12_set 113 = .ok (.getfield 39, 3) := by decide +kernel
theorem dX12_set_116 : decode cX12_set 116 = .ok (.iload_n 1, 1) := by decide +kernel
theorem dX12_set_117 : decode cX12_set 117 = .ok (.iaload, 1) := by decide +kernel
theorem dX12_set_118 : decode cX12_set 118 = .ok (.iconst 2, 1) := by decide +kernel
theorem dX12_set_119 : decode cX12_set 119 = .ok (.if_icmp .ne 9, 3) := by decide +kernel
theorem dX12_set_122 : decode cX12_set 122 = .ok (.lload_n 3, 1) := by decide +kernel
theorem dX12_set_123 : decode cX12_set 123 = .ok (.l2i, 1) := by decide +kernel
theorem dX12_set_124 : decode cX12_set 124 = .ok (.i2l, 1) := by decide +kernel
theorem dX12_set_125 : decode cX12_set 125 = .ok (.goto 4, 3) := by decide +kernel
theorem dX12_set_128 : decode cX12_set 128 = .ok (.lload_n 3, 1) := by decide +kernel
theorem dX12_set_129 : decode cX12_set 129 = .ok (.lastore, 1) := by decide +kernel
theorem dX12_set_130 : decode cX12_set 130 = .ok (.iconst 1, 1) := by decide +kernel
theorem dX12_set_131 : decode cX12_set 131 = .ok (.ireturn, 1) := by decide +kernel
theorem dX12_copy_0 : decode cX12_copy 0 = .ok (.aload_n 0, 1) := by decide +kernel
theorem dX12_copy_1 : decode cX12_copy 1 = .ok (.iload_n 1, 1) := by decide +kernel
theorem dX12_copy_2 : decode cX12_copy 2 = .ok (.invokevirtual 111, 3) := by decide +kernel
theorem dX12_copy_5 : decode cX12_copy 5 = .ok (.ifCond .eq 11, 3) := by decide +kernel
theorem dX12_copy_8 : decode cX12_copy 8 = .ok (.aload_n 0, 1) := by decide +kernel
theorem dX12_copy_9 : decode cX12_copy 9 = .ok (.iload_n 2, 1) := by decide +kernel
theorem dX12_copy_10 : decode cX12_copy 10 = .ok (.invokevirtual 111, 3) := by decide +kernel
theorem dX12_copy_13 : decode cX12_copy 13 = .ok (.ifCond .ne 9, 3) := by decide +kernel
theorem dX12_copy_16 : decode cX12_copy 16 = .ok (.aload_n 0, 1) := by decide +kernel
theorem dX12_copy_17 : decode cX12_copy 17 = .ok (.iconst (-1), 1) := by decide +kernel
theorem dX12_copy_18 : decode cX12_copy 18 = .ok (.invokevirtual 115, 3) := by decide +kernel
theorem dX12_copy_21 : decode cX12_copy 21 = .ok (.ireturn, 1) := by decide +kernel
theorem dX12_copy_22 : decode cX12_copy 22 = .ok (.aload_n 0, 1) := by decide +kernel
theorem dX12_copy_23 : decode cX12_copy 23 = .ok (.getfield 36, 3) := by decide +kernel
theorem dX12_copy_26 : decode cX12_copy 26 = .ok (.iload_n 1, 1) := by decide +kernel
theorem dX12_copy_27 : decode cX12_copy 27 = .ok (.iaload, 1) := by decide +kernel
theorem dX12_copy_28 : decode cX12_copy 28 = .ok (.iconst 2, 1) := by decide +kernel
theorem dX12_copy_29 : decode cX12_copy 29 = .ok (.if_icmp .eq 48, 3) := by decide +kernel
theorem dX12_copy_32 : decode cX12_copy 32 = .ok (.aload_n 0, 1) := by decide +kernel
theorem dX12_copy_33 : decode cX12_copy 33 = .ok (.getfield 36, 3) := by decide +kernel
theorem dX12_copy_36 : decode cX12_copy 36 = .ok (.iload_n 2, 1) := by decide +kernel
theorem dX12_copy_37 : decode cX12_copy 37 = .ok (.iaload, 1) := by decide +kernel
theorem dX12_copy_38 : decode cX12_copy 38 = .ok (.iconst 2, 1) := by decide +kernel
theorem dX12_copy_39 : decode cX12_copy 39 = .ok (.if_icmp .eq 38, 3) := by decide +kernel
theorem dX12_copy_42 : decode cX12_copy 42 = .ok (.aload_n 0, 1) := by decide +kernel
theorem dX12_copy_43 : decode cX12_copy 43 = .ok (.getfield 36, 3) := by decide +kernel
theorem dX12_copy_46 : decode cX12_copy 46 = .ok (.iload_n 1, 1) := by decide +kernel
theorem dX12_copy_47 : decode cX12_copy 47 = .ok (.iaload, 1) := by decide +kernel
theorem dX12_copy_48 : decode cX12_copy 48 = .ok (.iconst 1, 1) := by decide +kernel
theorem dX12_copy_49 : decode cX12_copy 49 = .ok (.if_icmp .ne 35, 3) := by decide +kernel
theorem dX12_copy_52 : decode cX12_copy 52 = .ok (.aload_n 0, 1) := by decide +kernel
theorem dX12_copy_53 : decode cX12_copy 53 = .ok (.getfield 36, 3) := by decide +kernel
theorem dX12_copy_56 : decode cX12_copy 56 = .ok (.iload_n 2, 1) := by decide +kernel
theorem dX12_copy_57 : decode cX12_copy 57 = .ok (.iaload, 1) := by decide +kernel
theorem dX12_copy_58 : decode cX12_copy 58 = .ok (.iconst 1, 1) := by decide +kernel
theorem dX12_copy_59 : decode cX12_copy 59 = .ok (.if_icmp .ne 25, 3) := by decide +kernel
theorem dX12_copy_62 : decode cX12_copy 62 = .ok (.aload_n 0, 1) := by decide +kernel
theorem dX12_copy_63 : decode cX12_copy 63 = .ok (.getfield 39, 3) := by decide +kernel
theorem dX12_copy_66 : decode cX12_copy 66 = .ok (.iload_n 1, 1) := by decide +kernel
theorem dX12_copy_67 : decode cX12_copy 67 = .ok (.iaload, 1) := by decide +kernel
theorem dX12_copy_68 : decode cX12_copy 68 = .ok (.aload_n 0, 1) := by decide +kernel
theorem dX12_copy_69 : decode cX12_copy 69 = .ok (.getfield 39, 3) := by decide +kernel
theorem dX12_copy_72 : decode cX12_copy 72 = .ok (.iload_n 2, 1) := by decide +kernel
theorem dX12_copy_73 : decode cX12_copy 73 = .ok (.iaload, 1) := by decide +kernel
theorem dX12_copy_74 : decode cX12_copy 74 = .ok (.if_icmp .eq 10, 3) := by decide +kernel
theorem dX12_copy_77 : decode cX12_copy 77 = .ok (.aload_n 0, 1) := by decide +kernel
theorem dX12_copy_78 : decode cX12_copy 78 = .ok (.bipush (-2), 2) := by decide +kernel
theorem dX12_copy_80 : decode cX12_copy 80 = .ok (.invokevirtual 115, 3) := by decide +kernel
theorem dX12_copy_83 : decode cX12_copy 83 = .ok (.ireturn, 1) := by decide +kernel
theorem dX12_copy_84 : decode cX12_copy 84 = .ok (.aload_n 0, 1) := by decide +kernel
theorem dX12_copy_85 : decode cX12_copy 85 = .ok (.getfield 36, 3) := by decide +kernel
theorem dX12_copy_88 : decode cX12_copy 88 = .ok (.iload_n 1, 1) := by decide +kernel
theorem dX12_copy_89 : decode cX12_copy 89 = .ok (.iaload, 1) := by decide +kernel
theorem dX12_copy_90 : decode cX12_copy 90 = .ok (.ifCond .eq 12, 3) := by decide +kernel
theorem dX12_copy_93 : decode cX12_copy 93 = .ok (.aload_n 0, 1) := by decide +kernel
theorem dX12_copy_94 : decode cX12_copy 94 = .ok (.getfield 36, 3) := by decide +kernel
theorem dX12_copy_97 : decode cX12_copy 97 = .ok (.iload_n 2, 1) := by decide +kernel
theorem dX12_copy_98 : decode cX12_copy 98 = .ok (.iaload, 1) := by decide +kernel
theorem dX12_copy_99 : decode cX12_copy 99 = .ok (.ifCond .ne 10, 3) := by decide +kernel
theorem dX12_copy_102 : decode cX12_copy 102 = .ok (.aload_n 0, 1) := by decide +kernel
theorem dX12_copy_103 : decode cX12_copy 103 = .ok (.bipush (-3), 2) := by decide +kernel
theorem dX12_copy_105 : decode cX12_copy 105 = .ok (.invokevirtual 115, 3) := by decide +kernel
theorem dX12_copy_108 : decode cX12_copy 108 = .ok (.ireturn, 1) := by decide +kernel
theorem dX12_copy_109 : decode cX12_copy 109 = .ok (.iload 5, 2) := by decide +kernel
theorem dX12_copy_111 : decode cX12_copy 111 = .ok (.ifCond .ge 10, 3) := by decide +kernel
theorem dX12_copy_114 : decode cX12_copy 114 = .ok (.aload_n 0, 1) := by decide +kernel
theorem dX12_copy_115 : decode cX12_copy 115 = .ok (.bipush (-4), 2) := by decide +kernel
theorem dX12_copy_117 : decode cX12_copy 117 = .ok (.invokevirtual 115, 3) := by decide +kernel
theorem dX12_copy_120 : decode cX12_copy 120 = .ok (.ireturn, 1) := by decide +kernel
theorem dX12_copy_121 : decode cX12_copy 121 = .ok (.iload_n 3, 1) := by decide +kernel
theorem dX12_copy_122 : decode cX12_copy 122 = .ok (.ifCond .lt 35, 3) := by decide +kernel
theorem dX12_copy_125 : decode cX12_copy 125 = .ok (.iload 4, 2) := by decide +kernel
theorem dX12_copy_127 : decode cX12_copy 127 = .ok (.ifCond .lt 30, 3) := by decide +kernel
theorem dX12_copy_130 : decode cX12_copy 130 = .ok (.iload_n 3, 1) := by decide +kernel
theorem dX12_copy_131 : decode cX12_copy 131 = .ok (.aload_n 0, 1) := by decide +kernel
theorem dX12_copy_132 : decode cX12_copy 132 = .ok (.getfield 42, 3) := by decide +kernel
theorem dX12_copy_135 : decode cX12_copy 135 = .ok (.iload_n 1, 1) := by decide +kernel
theorem dX12_copy_136 : decode cX12_copy 136 = .ok (.iaload, 1) := by decide +kernel
theorem dX12_copy_137 : decode cX12_copy 137 = .ok (.iload 5, 2) := by decide +kernel
theorem dX12_copy_139 : decode cX12_copy 139 = .ok (.isub, 1) := by decide +kernel
theorem dX12_copy_140 : decode cX12_copy 140 = .ok (.if_icmp .gt 17, 3) := by decide +kernel
theorem dX12_copy_143 : decode cX12_copy 143 = .ok (.iload 4, 2) := by decide +kernel
theorem dX12_copy_145 : decode cX12_copy 145 = .ok (.aload_n 0, 1) := by decide +kernel
theorem dX12_copy_146 : decode cX12_copy 146 = .ok (.getfield 42, 3) := by decide +kernel
theorem dX12_copy_149 : decode cX12_copy 149 = .ok (.iload_n 2, 1) := by decide +kernel
theorem dX12_copy_150 : decode cX12_copy 150 = .ok (.iaload, 1) := by decide +kernel
theorem dX12_copy_151 : decode cX12_copy 151 = .ok (.iload 5, 2) := by decide +kernel
theorem dX12_copy_153 : decode cX12_copy 153 = .ok (.isub, 1) := by decide +kernel
theorem dX12_copy_154 : decode cX12_copy 154 = .ok (.if_icmp .le 10, 3) := by decide +kernel
theorem dX12_copy_157 : decode cX12_copy 157 = .ok (.aload_n 0, 1) := by decide +kernel
theorem dX12_copy_158 : decode cX12_copy 158 = .ok (.bipush (-5), 2) := by decide +kernel
theorem dX12_copy_160 : decode cX12_copy 160 = .ok (.invokevirtual 115, 3) := by decide +kernel
theorem dX12_copy_163 : decode cX12_copy 163 = .ok (.ireturn, 1) := by decide +kernel
theorem dX12_copy_164 : decode cX12_copy 164 = .ok (.iconst 0, 1) := by decide +kernel
theorem dX12_copy_165 : decode cX12_copy 165 = .ok (.istore 6, 2) := by decide +kernel
theorem dX12_copy_167 : decode cX12_copy 167 = .ok (.iload 6, 2) := by decide +kernel
theorem dX12_copy_169 : decode cX12_copy 169 = .ok (.iload 5, 2) := by decide +kernel
theorem dX12_copy_171 : decode cX12_copy 171 = .ok (.if_icmp .ge 31, 3) := by decide +kernel
theorem dX12_copy_174 : decode cX12_copy 174 = .ok (.aload_n 0, 1) := by decide +kernel
theorem dX12_copy_175 : decode cX12_copy 175 = .ok (.getfield 52, 3) := by decide +kernel
theorem dX12_copy_178 : decode cX12_copy 178 = .ok (.iload 6, 2) := by decide +kernel
theorem dX12_copy_180 : decode cX12_copy 180 = .ok (.aload_n 0, 1) := by decide +kernel
theorem dX12_copy_181 : decode cX12_copy 181 = .ok (.getfield 48, 3) := by decide +kernel
theorem dX12_copy_184 : decode cX12_copy 184 = .ok (.sipush 160, 3) := by decide +kernel
theorem dX12_copy_187 : decode cX12_copy 187 = .ok (.iload_n 1, 1) := by decide +kernel
theorem dX12_copy_188 : decode cX12_copy 188 = .ok (.imul, 1) := by decide +kernel
theorem dX12_copy_189 : decode cX12_copy 189 = .ok (.iload_n 3, 1) := by decide +kernel
theorem dX12_copy_190 : decode cX12_copy 190 = .ok (.iadd, 1) := by decide +kernel
theorem dX12_copy_191 : decode cX12_copy 191 = .ok (.iload 6, 2) := by decide +kernel
theorem dX12_copy_193 : decode cX12_copy 193 = .ok (.iadd, 1) := by decide +kernel
theorem dX12_copy_194 : decode cX12_copy 194 = .ok (.laload, 1) := by decide +kernel
theorem dX12_copy_195 : decode cX12_copy 195 = .ok (.lastore, 1) := by decide +kernel
theorem dX12_copy_196 : decode cX12_copy 196 = .ok (.iinc 6 1, 3) := by decide +kernel
theorem dX12_copy_199 : decode cX12_copy 199 = .ok (.goto (-32), 3) := by decide +kernel
theorem dX12_copy_202 : decode cX12_copy 202 = .ok (.iconst 0, 1) := by decide +kernel
theorem dX12_copy_203 : decode cX12_copy 203 = .ok (.istore 6, 2) := by decide +kernel
theorem dX12_copy_205 : decode cX12_copy 205 = .ok (.iload 6, 2) := by decide +kernel
theorem dX12_copy_207 : decode cX12_copy 207 = .ok (.iload 5, 2) := by decide +kernel
theorem dX12_copy_209 : decode cX12_copy 209 = .ok (.if_icmp .ge 32, 3) := by decide +kernel
theorem dX12_copy_212 : decode cX12_copy 212 = .ok (.aload_n 0, 1) := by decide +kernel
theorem dX12_copy_213 : decode cX12_copy 213 = .ok (.getfield 48, 3) := by decide +kernel
theorem dX12_copy_216 : decode cX12_copy 216 = .ok (.sipush 160, 3) := by decide +kernel
theorem dX12_copy_219 : decode cX12_copy 219 = .ok (.iload_n 2, 1) := by decide +kernel
theorem dX12_copy_220 : decode cX12_copy 220 = .ok (.imul, 1) := by decide +kernel
theorem dX12_copy_221 : decode cX12_copy 221 = .ok (.iload 4, 2) := by decide +kernel
theorem dX12_copy_223 : decode cX12_copy 223 = .ok (.iadd, 1) := by decide +kernel
theorem dX12_copy_224 : decode cX12_copy 224 = .ok (.iload 6, 2) := by decide +kernel
theorem dX12_copy_226 : decode cX12_copy 226 = .ok (.iadd, 1) := by decide +kernel
theorem dX12_copy_227 : decode cX12_copy 227 = .ok (.aload_n 0, 1) := by decide +kernel
theorem dX12_copy_228 : decode cX12_copy 228 = .ok (.getfield 52, 3) := by decide +kernel
theorem dX12_copy_231 : decode cX12_copy 231 = .ok (.iload 6, 2) := by decide +kernel
theorem dX12_copy_233 : decode cX12_copy 233 = .ok (.laload, 1) := by decide +kernel
theorem dX12_copy_234 : decode cX12_copy 234 = .ok (.lastore, 1) := by decide +kernel
theorem dX12_copy_235 : decode cX12_copy 235 = .ok (.iinc 6 1, 3) := by decide +kernel
theorem dX12_copy_238 : decode cX12_copy 238 = .ok (.goto (-33), 3) := by decide +kernel
theorem dX12_copy_241 : decode cX12_copy 241 = .ok (.iconst 1, 1) := by decide +kernel
theorem dX12_copy_242 : decode cX12_copy 242 = .ok (.ireturn, 1) := by decide +kernel
theorem dX12_element_0 : decode cX12_element 0 = .ok (.aload_n 0, 1) := by decide +kernel
theorem dX12_element_1 : decode cX12_element 1 = .ok (.iload_n 1, 1) := by decide +kernel
theorem dX12_element_2 : decode cX12_element 2 = .ok (.invokevirtual 111, 3) := by decide +kernel
theorem dX12_element_5 : decode cX12_element 5 = .ok (.ifCond .eq 42, 3) := by decide +kernel
theorem dX12_element_8 : decode cX12_element 8 = .ok (.aload_n 0, 1) := by decide +kernel
theorem dX12_element_9 : decode cX12_element 9 = .ok (.getfield 36, 3) := by decide +kernel
theorem dX12_element_12 : decode cX12_element 12 = .ok (.iload_n 1, 1) := by decide +kernel
theorem dX12_element_13 : decode cX12_element 13 = .ok (.iaload, 1) := by decide +kernel
theorem dX12_element_14 : decode cX12_element 14 = .ok (.iconst 1, 1) := by decide +kernel
theorem dX12_element_15 : decode cX12_element 15 = .ok (.if_icmp .ne 32, 3) := by decide +kernel
theorem dX12_element_18 : decode cX12_element 18 = .ok (.iload_n 2, 1) := by decide +kernel
theorem dX12_element_19 : decode cX12_element 19 = .ok (.ifCond .lt 28, 3) := by decide +kernel
theorem dX12_element_22 : decode cX12_element 22 = .ok (.iload_n 2, 1) := by decide +kernel
theorem dX12_element_23 : decode cX12_element 23 = .ok (.aload_n 0, 1) := by decide +kernel
theorem dX12_element_24 : decode cX12_element 24 = .ok (.getfield 42, 3) := by decide +kernel
theorem dX12_element_27 : decode cX12_element 27 = .ok (.iload_n 1, 1) := by decide +kernel
theorem dX12_element_28 : decode cX12_element 28 = .ok (.iaload, 1) := by decide +kernel
theorem dX12_element_29 : decode cX12_element 29 = .ok (.if_icmp .ge 18, 3) := by decide +kernel
theorem dX12_element_32 : decode cX12_element 32 = .ok (.aload_n 0, 1) := by decide +kernel
theorem dX12_element_33 : decode cX12_element 33 = .ok (.getfield 48, 3) := by decide +kernel
theorem dX12_element_36 : decode cX12_element 36 = .ok (.sipush 160, 3) := by decide +kernel
theorem dX12_element_39 : decode cX12_element 39 = .ok (.iload_n 1, 1) := by decide +kernel
theorem dX12_element_40 : decode cX12_element 40 = .ok (.imul, 1) := by decide +kernel
theorem dX12_element_41 : decode cX12_element 41 = .ok (.iload_n 2, 1) := by decide +kernel
theorem dX12_element_42 : decode cX12_element 42 = .ok (.iadd, 1) := by decide +kernel
theorem dX12_element_43 : decode cX12_element 43 = .ok (.laload, 1) := by decide +kernel
theorem dX12_element_44 : decode cX12_element 44 = .ok (.goto 4, 3) := by decide +kernel
theorem dX12_element_47 : decode cX12_element 47 = .ok (.lconst 0, 1) := by decide +kernel
theorem dX12_element_48 : decode cX12_element 48 = .ok (.lreturn, 1) := by decide +kernel
theorem dX12_show_0 : decode cX12_show 0 = .ok (.aload_n 0, 1) := by decide +kernel
theorem dX12_show_1 : decode cX12_show 1 = .ok (.iload_n 1, 1) := by decide +kernel
theorem dX12_show_2 : decode cX12_show 2 = .ok (.invokevirtual 111, 3) := by decide +kernel
theorem dX12_show_5 : decode cX12_show 5 = .ok (.ifCond .eq 16, 3) := by decide +kernel
theorem dX12_show_8 : decode cX12_show 8 = .ok (.iload_n 2, 1) := by decide +kernel
theorem dX12_show_9 : decode cX12_show 9 = .ok (.iconst (-1), 1) := by decide +kernel
theorem dX12_show_10 : decode cX12_show 10 = .ok (.if_icmp .eq 17, 3) := by decide +kernel
theorem dX12_show_13 : decode cX12_show 13 = .ok (.aload_n 0, 1) := by decide +kernel
theorem dX12_show_14 : decode cX12_show 14 = .ok (.iload_n 2, 1) := by decide +kernel
theorem dX12_show_15 : decode cX12_show 15 = .ok (.invokevirtual 119, 3) := by decide +kernel
theorem dX12_show_18 : decode cX12_show 18 = .ok (.ifCond .ne 9, 3) := by decide +kernel
theorem dX12_show_21 : decode cX12_show 21 = .ok (.aload_n 0, 1) := by decide +kernel
theorem dX12_show_22 : decode cX12_show 22 = .ok (.iconst (-1), 1) := by decide +kernel
theorem dX12_show_23 : decode cX12_show 23 = .ok (.invokevirtual 115, 3) := by decide +kernel
theorem dX12_show_26 : decode cX12_show 26 = .ok (.ireturn, 1) := by decide +kernel
theorem dX12_show_27 : decode cX12_show 27 = .ok (.aload_n 0, 1) := by decide +kernel
theorem dX12_show_28 : decode cX12_show 28 = .ok (.getfield 36, 3) := by decide +kernel
theorem dX12_show_31 : decode cX12_show 31 = .ok (.iload_n 1, 1) := by decide +kernel
theorem dX12_show_32 : decode cX12_show 32 = .ok (.iload_n 2, 1) := by decide +kernel
theorem dX12_show_33 : decode cX12_show 33 = .ok (.iconst (-1), 1) := by decide +kernel
theorem dX12_show_34 : decode cX12_show 34 = .ok (.if_icmp .ne 7, 3) := by decide +kernel
theorem dX12_show_37 : decode cX12_show 37 = .ok (.iconst 0, 1) := by decide +kernel
theorem dX12_show_38 : decode cX12_show 38 = .ok (.goto 4, 3) := by decide +kernel
theorem dX12_show_41 : decode cX12_show 41 = .ok (.iconst 2, 1) := by decide +kernel
theorem dX12_show_42 : decode cX12_show 42 = .ok (.iastore, 1) := by decide +kernel
theorem dX12_show_43 : decode cX12_show 43 = .ok (.aload_n 0, 1) := by decide +kernel
theorem dX12_show_44 : decode cX12_show 44 = .ok (.getfield 45, 3) := by decide +kernel
theorem dX12_show_47 : decode cX12_show 47 = .ok (.iload_n 1, 1) := by decide +kernel
theorem dX12_show_48 : decode cX12_show 48 = .ok (.iload_n 2, 1) := by decide +kernel
theorem dX12_show_49 : decode cX12_show 49 = .ok (.iastore, 1) := by decide +kernel
theorem dX12_show_50 : decode cX12_show 50 = .ok (.iload_n 2, 1) := by decide +kernel
theorem dX12_show_51 : decode cX12_show 51 = .ok (.iconst (-1), 1) := by decide +kernel
theorem dX12_show_52 : decode cX12_show 52 = .ok (.if_icmp .ne 7, 3) := by decide +kernel
theorem dX12_show_55 : decode cX12_show 55 = .ok (.iconst 0, 1) := by decide +kernel
theorem dX12_show_56 : decode cX12_show 56 = .ok (.goto 4, 3) := by decide +kernel
theorem dX12_show_59 : decode cX12_show 59 = .ok (.iconst 1, 1) := by decide +kernel
theorem dX12_show_60 : decode cX12_show 60 = .ok (.ireturn, 1) := by decide +kernel
theorem dX12_holds_0 : decode cX12_holds 0 = .ok (.aload_n 0, 1) := by decide +kernel
theorem dX12_holds_1 : decode cX12_holds 1 = .ok (.iload_n 1, 1) := by decide +kernel
theorem dX12_holds_2 : decode cX12_holds 2 = .ok (.invokevirtual 111, 3) := by decide +kernel
theorem dX12_holds_5 : decode cX12_holds 5 = .ok (.ifCond .eq 12, 3) := by decide +kernel
theorem dX12_holds_8 : decode cX12_holds 8 = .ok (.aload_n 0, 1) := by decide +kernel
theorem dX12_holds_9 : decode cX12_holds 9 = .ok (.getfield 36, 3) := by decide +kernel
theorem dX12_holds_12 : decode cX12_holds 12 = .ok (.iload_n 1, 1) := by decide +kernel
theorem dX12_holds_13 : decode cX12_holds 13 = .ok (.iaload, 1) := by decide +kernel
theorem dX12_holds_14 : decode cX12_holds 14 = .ok (.ifCond .ne 5, 3) := by decide +kernel
theorem dX12_holds_17 : decode cX12_holds 17 = .ok (.iconst (-1), 1) := by decide +kernel
theorem dX12_holds_18 : decode cX12_holds 18 = .ok (.ireturn, 1) := by decide +kernel
theorem dX12_holds_19 : decode cX12_holds 19 = .ok (.aload_n 0, 1) := by decide +kernel
theorem dX12_holds_20 : decode cX12_holds 20 = .ok (.getfield 36, 3) := by decide +kernel
theorem dX12_holds_23 : decode cX12_holds 23 = .ok (.iload_n 1, 1) := by decide +kernel
theorem dX12_holds_24 : decode cX12_holds 24 = .ok (.iaload, 1) := by decide +kernel
theorem dX12_holds_25 : decode cX12_holds 25 = .ok (.iconst 1, 1) := by decide +kernel
theorem dX12_holds_26 : decode cX12_holds 26 = .ok (.if_icmp .ne 15, 3) := by decide +kernel
theorem dX12_holds_29 : decode cX12_holds 29 = .ok (.bipush 100, 2) := by decide +kernel
theorem dX12_holds_31 : decode cX12_holds 31 = .ok (.aload_n 0, 1) := by decide +kernel
theorem dX12_holds_32 : decode cX12_holds 32 = .ok (.getfield 39, 3) := by decide +kernel
theorem dX12_holds_35 : decode cX12_holds 35 = .ok (.iload_n 1, 1) := by decide +kernel
theorem dX12_holds_36 : decode cX12_holds 36 = .ok (.iaload, 1) := by decide +kernel
theorem dX12_holds_37 : decode cX12_holds 37 = .ok (.iadd, 1) := by decide +kernel
theorem dX12_holds_38 : decode cX12_holds 38 = .ok (.goto 9, 3) := by decide +kernel
theorem dX12_holds_41 : decode cX12_holds 41 = .ok (.aload_n 0, 1) := by decide +kernel
theorem dX12_holds_42 : decode cX12_holds 42 = .ok (.getfield 45, 3) := by decide +kernel
theorem dX12_holds_45 : decode cX12_holds 45 = .ok (.iload_n 1, 1) := by decide +kernel
theorem dX12_holds_46 : decode cX12_holds 46 = .ok (.iaload, 1) := by decide +kernel
theorem dX12_holds_47 : decode cX12_holds 47 = .ok (.ireturn, 1) := by decide +kernel
theorem dX12_isChange_0 : decode cX12_isChange 0 = .ok (.iload_n 1, 1) := by decide +kernel
theorem dX12_isChange_1 : decode cX12_isChange 1 = .ok (.iconst 1, 1) := by decide +kernel
theorem dX12_isChange_2 : decode cX12_isChange 2 = .ok (.if_icmp .eq 13, 3) := by decide +kernel
theorem dX12_isChange_5 : decode cX12_isChange 5 = .ok (.iload_n 1, 1) := by decide +kernel
theorem dX12_isChange_6 : decode cX12_isChange 6 = .ok (.iconst 2, 1) := by decide +kernel
theorem dX12_isChange_7 : decode cX12_isChange 7 = .ok (.if_icmp .eq 8, 3) := by decide +kernel
theorem dX12_isChange_10 : decode cX12_isChange 10 = .ok (.iload_n 1, 1) := by decide +kernel
theorem dX12_isChange_11 : decode cX12_isChange 11 = .ok (.iconst 3, 1) := by decide +kernel
theorem dX12_isChange_12 : decode cX12_isChange 12 = .ok (.if_icmp .ne 7, 3) := by decide +kernel
theorem dX12_isChange_15 : decode cX12_isChange 15 = .ok (.iconst 1, 1) := by decide +kernel
theorem dX12_isChange_16 : decode cX12_isChange 16 = .ok (.goto 4, 3) := by decide +kernel
theorem dX12_isChange_19 : decode cX12_isChange 19 = .ok (.iconst 0, 1) := by decide +kernel
theorem dX12_isChange_20 : decode cX12_isChange 20 = .ok (.ireturn, 1) := by decide +kernel
theorem dX12_isTurn_0 : decode cX12_isTurn 0 = .ok (.iload_n 1, 1) := by decide +kernel
theorem dX12_isTurn_1 : decode cX12_isTurn 1 = .ok (.iconst 4, 1) := by decide +kernel
theorem dX12_isTurn_2 : decode cX12_isTurn 2 = .ok (.if_icmp .eq 14, 3) := by decide +kernel
theorem dX12_isTurn_5 : decode cX12_isTurn 5 = .ok (.iload_n 1, 1) := by decide +kernel
theorem dX12_isTurn_6 : decode cX12_isTurn 6 = .ok (.iconst 5, 1) := by decide +kernel
theorem dX12_isTurn_7 : decode cX12_isTurn 7 = .ok (.if_icmp .eq 9, 3) := by decide +kernel
theorem dX12_isTurn_10 : decode cX12_isTurn 10 = .ok (.iload_n 1, 1) := by decide +kernel
theorem dX12_isTurn_11 : decode cX12_isTurn 11 = .ok (.bipush 6, 2) := by decide +kernel
theorem dX12_isTurn_13 : decode cX12_isTurn 13 = .ok (.if_icmp .ne 7, 3) := by decide +kernel
theorem dX12_isTurn_16 : decode cX12_isTurn 16 = .ok (.iconst 1, 1) := by decide +kernel
theorem dX12_isTurn_17 : decode cX12_isTurn 17 = .ok (.goto 4, 3) := by decide +kernel
theorem dX12_isTurn_20 : decode cX12_isTurn 20 = .ok (.iconst 0, 1) := by decide +kernel
theorem dX12_isTurn_21 : decode cX12_isTurn 21 = .ok (.ireturn, 1) := by decide +kernel
theorem dX12_says_0 : decode cX12_says 0 = .ok (.aload_n 0, 1) := by decide +kernel
theorem dX12_says_1 : decode cX12_says 1 = .ok (.iload_n 1, 1) := by decide +kernel
theorem dX12_says_2 : decode cX12_says 2 = .ok (.invokevirtual 111, 3) := by decide +kernel
theorem dX12_says_5 : decode cX12_says 5 = .ok (.ifCond .eq 13, 3) := by decide +kernel
theorem dX12_says_8 : decode cX12_says 8 = .ok (.iload_n 2, 1) := by decide +kernel
theorem dX12_says_9 : decode cX12_says 9 = .ok (.ifCond .lt 9, 3) := by decide +kernel
theorem dX12_says_12 : decode cX12_says 12 = .ok (.iload_n 2, 1) := by decide +kernel
theorem dX12_says_13 : decode cX12_says 13 = .ok (.bipush 6, 2) := by decide +kernel
theorem dX12_says_15 : decode cX12_says 15 = .ok (.if_icmp .le 9, 3) := by decide +kernel
theorem dX12_says_18 : decode cX12_says 18 = .ok (.aload_n 0, 1) := by decide +kernel
theorem dX12_says_19 : decode cX12_says 19 = .ok (.iconst (-1), 1) := by decide +kernel
theorem dX12_says_20 : decode cX12_says 20 = .ok (.invokevirtual 115, 3) := by decide +kernel
theorem dX12_says_23 : decode cX12_says 23 = .ok (.ireturn, 1) := by decide +kernel
theorem dX12_says_24 : decode cX12_says 24 = .ok (.aload_n 0, 1) := by decide +kernel
theorem dX12_says_25 : decode cX12_says 25 = .ok (.getfield 36, 3) := by decide +kernel
theorem dX12_says_28 : decode cX12_says 28 = .ok (.iload_n 1, 1) := by decide +kernel
theorem dX12_says_29 : decode cX12_says 29 = .ok (.iaload, 1) := by decide +kernel
theorem dX12_says_30 : decode cX12_says 30 = .ok (.iconst 1, 1) := by decide +kernel
theorem dX12_says_31 : decode cX12_says 31 = .ok (.if_icmp .ne 10, 3) := by decide +kernel
theorem dX12_says_34 : decode cX12_says 34 = .ok (.aload_n 0, 1) := by decide +kernel
theorem dX12_says_35 : decode cX12_says 35 = .ok (.bipush (-2), 2) := by decide +kernel
theorem dX12_says_37 : decode cX12_says 37 = .ok (.invokevirtual 115, 3) := by decide +kernel
theorem dX12_says_40 : decode cX12_says 40 = .ok (.ireturn, 1) := by decide +kernel
theorem dX12_says_41 : decode cX12_says 41 = .ok (.aload_n 0, 1) := by decide +kernel
theorem dX12_says_42 : decode cX12_says 42 = .ok (.getfield 36, 3) := by decide +kernel
theorem dX12_says_45 : decode cX12_says 45 = .ok (.iload_n 1, 1) := by decide +kernel
theorem dX12_says_46 : decode cX12_says 46 = .ok (.iaload, 1) := by decide +kernel
theorem dX12_says_47 : decode cX12_says 47 = .ok (.ifCond .ne 10, 3) := by decide +kernel
theorem dX12_says_50 : decode cX12_says 50 = .ok (.aload_n 0, 1) := by decide +kernel
theorem dX12_says_51 : decode cX12_says 51 = .ok (.bipush (-3), 2) := by decide +kernel
theorem dX12_says_53 : decode cX12_says 53 = .ok (.invokevirtual 115, 3) := by decide +kernel
theorem dX12_says_56 : decode cX12_says 56 = .ok (.ireturn, 1) := by decide +kernel
theorem dX12_says_57 : decode cX12_says 57 = .ok (.aload_n 0, 1) := by decide +kernel
theorem dX12_says_58 : decode cX12_says 58 = .ok (.getfield 45, 3) := by decide +kernel
theorem dX12_says_61 : decode cX12_says 61 = .ok (.iload_n 1, 1) := by decide +kernel
theorem dX12_says_62 : decode cX12_says 62 = .ok (.iaload, 1) := by decide +kernel
theorem dX12_says_63 : decode cX12_says 63 = .ok (.istore_n 3, 1) := by decide +kernel
theorem dX12_says_64 : decode cX12_says 64 = .ok (.aload_n 0, 1) := by decide +kernel
theorem dX12_says_65 : decode cX12_says 65 = .ok (.getfield 24, 3) := by decide +kernel
theorem dX12_says_68 : decode cX12_says 68 = .ok (.iload_n 3, 1) := by decide +kernel
theorem dX12_says_69 : decode cX12_says 69 = .ok (.iaload, 1) := by decide +kernel
theorem dX12_says_70 : decode cX12_says 70 = .ok (.istore 4, 2) := by decide +kernel
theorem dX12_says_72 : decode cX12_says 72 = .ok (.iload_n 2, 1) := by decide +kernel
theorem dX12_says_73 : decode cX12_says 73 = .ok (.ifCond .eq 44, 3) := by decide +kernel
theorem dX12_says_76 : decode cX12_says 76 = .ok (.iload_n 2, 1) := by decide +kernel
theorem dX12_says_77 : decode cX12_says 77 = .ok (.iload 4, 2) := by decide +kernel
theorem dX12_says_79 : decode cX12_says 79 = .ok (.if_icmp .eq 38, 3) := by decide +kernel
theorem dX12_says_82 : decode cX12_says 82 = .ok (.iload_n 2, 1) := by decide +kernel
theorem dX12_says_83 : decode cX12_says 83 = .ok (.iconst 1, 1) := by decide +kernel
theorem dX12_says_84 : decode cX12_says 84 = .ok (.if_icmp .ne 12, 3) := by decide +kernel
theorem dX12_says_87 : decode cX12_says 87 = .ok (.aload_n 0, 1) := by decide +kernel
theorem dX12_says_88 : decode cX12_says 88 = .ok (.iload 4, 2) := by decide +kernel
theorem dX12_says_90 : decode cX12_says 90 = .ok (.invokevirtual 122, 3) := by decide +kernel
theorem dX12_says_93 : decode cX12_says 93 = .ok (.ifCond .ne 24, 3) := by decide +kernel
theorem dX12_says_96 : decode cX12_says 96 = .ok (.iload_n 2, 1) := by decide +kernel
theorem dX12_says_97 : decode cX12_says 97 = .ok (.iconst 4, 1) := by decide +kernel
theorem dX12_says_98 : decode cX12_says 98 = .ok (.if_icmp .ne 12, 3) := by decide +kernel
theorem dX12_says_101 : decode cX12_says 101 = .ok (.aload_n 0, 1) := by decide +kernel
theorem dX12_says_102 : decode cX12_says 102 = .ok (.iload 4, 2) := by decide +kernel
theorem dX12_says_104 : decode cX12_says 104 = .ok (.invokevirtual 125, 3) := by decide +kernel
theorem dX12_says_107 : decode cX12_says 107 = .ok (.ifCond .ne 10, 3) := by decide +kernel
theorem dX12_says_110 : decode cX12_says 110 = .ok (.aload_n 0, 1) := by decide +kernel
theorem dX12_says_111 : decode cX12_says 111 = .ok (.bipush (-2), 2) := by decide +kernel
theorem dX12_says_113 : decode cX12_says 113 = .ok (.invokevirtual 115, 3) := by decide +kernel
theorem dX12_says_116 : decode cX12_says 116 = .ok (.ireturn, 1) := by decide +kernel
theorem dX12_says_117 : decode cX12_says 117 = .ok (.iload_n 2, 1) := by decide +kernel
theorem dX12_says_118 : decode cX12_says 118 = .ok (.ifCond .ne 10, 3) := by decide +kernel
theorem dX12_says_121 : decode cX12_says 121 = .ok (.aload_n 0, 1) := by decide +kernel
theorem dX12_says_122 : decode cX12_says 122 = .ok (.getfield 30, 3) := by decide +kernel
theorem dX12_says_125 : decode cX12_says 125 = .ok (.iload_n 3, 1) := by decide +kernel
theorem dX12_says_126 : decode cX12_says 126 = .ok (.iaload, 1) := by decide +kernel
theorem dX12_says_127 : decode cX12_says 127 = .ok (.ireturn, 1) := by decide +kernel
theorem dX12_says_128 : decode cX12_says 128 = .ok (.aload_n 0, 1) := by decide +kernel
theorem dX12_says_129 : decode cX12_says 129 = .ok (.iload 4, 2) := by decide +kernel
theorem dX12_says_131 : decode cX12_says 131 = .ok (.invokevirtual 122, 3) := by decide +kernel
theorem dX12_says_134 : decode cX12_says 134 = .ok (.ifCond .eq 31, 3) := by decide +kernel
theorem dX12_says_137 : decode cX12_says 137 = .ok (.iload 4, 2) := by decide +kernel
theorem dX12_says_139 : decode cX12_says 139 = .ok (.iconst 1, 1) := by decide +kernel
theorem dX12_says_140 : decode cX12_says 140 = .ok (.if_icmp .ne 7, 3) := by decide +kernel
theorem dX12_says_143 : decode cX12_says 143 = .ok (.iconst 1, 1) := by decide +kernel
theorem dX12_says_144 : decode cX12_says 144 = .ok (.goto 20, 3) := by decide +kernel
theorem dX12_says_147 : decode cX12_says 147 = .ok (.iload 4, 2) := by decide +kernel
theorem dX12_says_149 : decode cX12_says 149 = .ok (.iconst 2, 1) := by decide +kernel
theorem dX12_says_150 : decode cX12_says 150 = .ok (.if_icmp .ne 8, 3) := by decide +kernel
theorem dX12_says_153 : decode cX12_says 153 = .ok (.bipush 9, 2) := by decide +kernel
theorem dX12_says_155 : decode cX12_says 155 = .ok (.goto 9, 3) := by decide +kernel
theorem dX12_says_158 : decode cX12_says 158 = .ok (.aload_n 0, 1) := by decide +kernel
theorem dX12_says_159 : decode cX12_says 159 = .ok (.getfield 27, 3) := by decide +kernel
theorem dX12_says_162 : decode cX12_says 162 = .ok (.iload_n 3, 1) := by decide +kernel
theorem dX12_says_163 : decode cX12_says 163 = .ok (.iaload, 1) := by decide +kernel
theorem dX12_says_164 : decode cX12_says 164 = .ok (.ireturn, 1) := by decide +kernel
theorem dX12_says_165 : decode cX12_says 165 = .ok (.iload 4, 2) := by decide +kernel
theorem dX12_says_167 : decode cX12_says 167 = .ok (.iconst 4, 1) := by decide +kernel
theorem dX12_says_168 : decode cX12_says 168 = .ok (.if_icmp .ne 7, 3) := by decide +kernel
theorem dX12_says_171 : decode cX12_says 171 = .ok (.iconst 1, 1) := by decide +kernel
theorem dX12_says_172 : decode cX12_says 172 = .ok (.goto 21, 3) := by decide +kernel
theorem dX12_says_175 : decode cX12_says 175 = .ok (.iload 4, 2) := by decide +kernel
theorem dX12_says_177 : decode cX12_says 177 = .ok (.iconst 5, 1) := by decide +kernel
theorem dX12_says_178 : decode cX12_says 178 = .ok (.if_icmp .ne 7, 3) := by decide +kernel
theorem dX12_says_181 : decode cX12_says 181 = .ok (.iconst 3, 1) := by decide +kernel
theorem dX12_says_182 : decode cX12_says 182 = .ok (.goto 11, 3) := by decide +kernel
theorem dX12_says_185 : decode cX12_says 185 = .ok (.aload_n 0, 1) := by decide +kernel
theorem dX12_says_186 : decode cX12_says 186 = .ok (.getfield 27, 3) := by decide +kernel
theorem dX12_says_189 : decode cX12_says 189 = .ok (.iload_n 3, 1) := by decide +kernel
theorem dX12_says_190 : decode cX12_says 190 = .ok (.iaload, 1) := by decide +kernel
theorem dX12_says_191 : decode cX12_says 191 = .ok (.iconst 4, 1) := by decide +kernel
theorem dX12_says_192 : decode cX12_says 192 = .ok (.irem, 1) := by decide +kernel
theorem dX12_says_193 : decode cX12_says 193 = .ok (.ireturn, 1) := by decide +kernel
theorem dX12_wants_0 : decode cX12_wants 0 = .ok (.aload_n 0, 1) := by decide +kernel
theorem dX12_wants_1 : decode cX12_wants 1 = .ok (.iload_n 1, 1) := by decide +kernel
theorem dX12_wants_2 : decode cX12_wants 2 = .ok (.invokevirtual 111, 3) := by decide +kernel
theorem dX12_wants_5 : decode cX12_wants 5 = .ok (.ifCond .ne 7, 3) := by decide +kernel
theorem dX12_wants_8 : decode cX12_wants 8 = .ok (.iconst (-1), 1) := by decide +kernel
theorem dX12_wants_9 : decode cX12_wants 9 = .ok (.goto 33, 3) := by decide +kernel
theorem dX12_wants_12 : decode cX12_wants 12 = .ok (.aload_n 0, 1) := by decide +kernel
theorem dX12_wants_13 : decode cX12_wants 13 = .ok (.getfield 36, 3) := by decide +kernel
theorem dX12_wants_16 : decode cX12_wants 16 = .ok (.iload_n 1, 1) := by decide +kernel
theorem dX12_wants_17 : decode cX12_wants 17 = .ok (.iaload, 1) := by decide +kernel
theorem dX12_wants_18 : decode cX12_wants 18 = .ok (.iconst 2, 1) := by decide +kernel
theorem dX12_wants_19 : decode cX12_wants 19 = .ok (.if_icmp .ne 8, 3) := by decide +kernel
theorem dX12_wants_22 : decode cX12_wants 22 = .ok (.bipush (-2), 2) := by decide +kernel
theorem dX12_wants_24 : decode cX12_wants 24 = .ok (.goto 18, 3) := by decide +kernel
theorem dX12_wants_27 : decode cX12_wants 27 = .ok (.aload_n 0, 1) := by decide +kernel
theorem dX12_wants_28 : decode cX12_wants 28 = .ok (.getfield 36, 3) := by decide +kernel
theorem dX12_wants_31 : decode cX12_wants 31 = .ok (.iload_n 1, 1) := by decide +kernel
theorem dX12_wants_32 : decode cX12_wants 32 = .ok (.iaload, 1) := by decide +kernel
theorem dX12_wants_33 : decode cX12_wants 33 = .ok (.ifCond .ne 8, 3) := by decide +kernel
theorem dX12_wants_36 : decode cX12_wants 36 = .ok (.bipush (-3), 2) := by decide +kernel
theorem dX12_wants_38 : decode cX12_wants 38 = .ok (.goto 4, 3) := by decide +kernel
theorem dX12_wants_41 : decode cX12_wants 41 = .ok (.iconst 0, 1) := by decide +kernel
theorem dX12_wants_42 : decode cX12_wants 42 = .ok (.ireturn, 1) := by decide +kernel
theorem dX12_intAt_0 : decode cX12_intAt 0 = .ok (.aload_n 0, 1) := by decide +kernel
theorem dX12_intAt_1 : decode cX12_intAt 1 = .ok (.getfield 48, 3) := by decide +kernel
theorem dX12_intAt_4 : decode cX12_intAt 4 = .ok (.sipush 160, 3) := by decide +kernel
theorem dX12_intAt_7 : decode cX12_intAt 7 = .ok (.iload_n 1, 1) := by decide +kernel
theorem dX12_intAt_8 : decode cX12_intAt 8 = .ok (.imul, 1) := by decide +kernel
theorem dX12_intAt_9 : decode cX12_intAt 9 = .ok (.iload_n 2, 1) := by decide +kernel
theorem dX12_intAt_10 : decode cX12_intAt 10 = .ok (.iadd, 1) := by decide +kernel
theorem dX12_intAt_11 : decode cX12_intAt 11 = .ok (.laload, 1) := by decide +kernel
theorem dX12_intAt_12 : decode cX12_intAt 12 = .ok (.l2i, 1) := by decide +kernel
theorem dX12_intAt_13 : decode cX12_intAt 13 = .ok (.ireturn, 1) := by decide +kernel
theorem dX12_bars_0 : decode cX12_bars 0 = .ok (.aload_n 0, 1) := by decide +kernel
theorem dX12_bars_1 : decode cX12_bars 1 = .ok (.iload_n 1, 1) := by decide +kernel
theorem dX12_bars_2 : decode cX12_bars 2 = .ok (.invokevirtual 128, 3) := by decide +kernel
theorem dX12_bars_5 : decode cX12_bars 5 = .ok (.istore_n 3, 1) := by decide +kernel
theorem dX12_bars_6 : decode cX12_bars 6 = .ok (.iload_n 3, 1) := by decide +kernel
theorem dX12_bars_7 : decode cX12_bars 7 = .ok (.ifCond .eq 5, 3) := by decide +kernel
theorem dX12_bars_10 : decode cX12_bars 10 = .ok (.iload_n 3, 1) := by decide +kernel
theorem dX12_bars_11 : decode cX12_bars 11 = .ok (.ireturn, 1) := by decide +kernel
theorem dX12_bars_12 : decode cX12_bars 12 = .ok (.iload_n 2, 1) := by decide +kernel
theorem dX12_bars_13 : decode cX12_bars 13 = .ok (.ifCond .ge 8, 3) := by decide +kernel
theorem dX12_bars_16 : decode cX12_bars 16 = .ok (.bipush (-4), 2) := by decide +kernel
theorem dX12_bars_18 : decode cX12_bars 18 = .ok (.goto 19, 3) := by decide +kernel
theorem dX12_bars_21 : decode cX12_bars 21 = .ok (.iload_n 2, 1) := by decide +kernel
theorem dX12_bars_22 : decode cX12_bars 22 = .ok (.aload_n 0, 1) := by decide +kernel
theorem dX12_bars_23 : decode cX12_bars 23 = .ok (.getfield 42, 3) := by decide +kernel
theorem dX12_bars_26 : decode cX12_bars 26 = .ok (.iload_n 1, 1) := by decide +kernel
theorem dX12_bars_27 : decode cX12_bars 27 = .ok (.iaload, 1) := by decide +kernel
theorem dX12_bars_28 : decode cX12_bars 28 = .ok (.if_icmp .le 8, 3) := by decide +kernel
theorem dX12_bars_31 : decode cX12_bars 31 = .ok (.bipush (-5), 2) := by decide +kernel
theorem dX12_bars_33 : decode cX12_bars 33 = .ok (.goto 4, 3) := by decide +kernel
theorem dX12_bars_36 : decode cX12_bars 36 = .ok (.iconst 0, 1) := by decide +kernel
theorem dX12_bars_37 : decode cX12_bars 37 = .ok (.ireturn, 1) := by decide +kernel
theorem dX12_adds_0 : decode cX12_adds 0 = .ok (.aload_n 0, 1) := by decide +kernel
theorem dX12_adds_1 : decode cX12_adds 1 = .ok (.getfield 24, 3) := by decide +kernel
theorem dX12_adds_4 : decode cX12_adds 4 = .ok (.aload_n 0, 1) := by decide +kernel
theorem dX12_adds_5 : decode cX12_adds 5 = .ok (.getfield 108, 3) := by decide +kernel
theorem dX12_adds_8 : decode cX12_adds 8 = .ok (.iload_n 1, 1) := by decide +kernel
theorem dX12_adds_9 : decode cX12_adds 9 = .ok (.iastore, 1) := by decide +kernel
theorem dX12_adds_10 : decode cX12_adds 10 = .ok (.aload_n 0, 1) := by decide +kernel
theorem dX12_adds_11 : decode cX12_adds 11 = .ok (.getfield 27, 3) := by decide +kernel
theorem dX12_adds_14 : decode cX12_adds 14 = .ok (.aload_n 0, 1) := by decide +kernel
theorem dX12_adds_15 : decode cX12_adds 15 = .ok (.getfield 108, 3) := by decide +kernel
theorem dX12_adds_18 : decode cX12_adds 18 = .ok (.iload_n 2, 1) := by decide +kernel
theorem dX12_adds_19 : decode cX12_adds 19 = .ok (.iastore, 1) := by decide +kernel
theorem dX12_adds_20 : decode cX12_adds 20 = .ok (.aload_n 0, 1) := by decide +kernel
theorem dX12_adds_21 : decode cX12_adds 21 = .ok (.getfield 30, 3) := by decide +kernel
theorem dX12_adds_24 : decode cX12_adds 24 = .ok (.aload_n 0, 1) := by decide +kernel
theorem dX12_adds_25 : decode cX12_adds 25 = .ok (.getfield 108, 3) := by decide +kernel
theorem dX12_adds_28 : decode cX12_adds 28 = .ok (.iload_n 3, 1) := by decide +kernel
theorem dX12_adds_29 : decode cX12_adds 29 = .ok (.iastore, 1) := by decide +kernel
theorem dX12_adds_30 : decode cX12_adds 30 = .ok (.aload_n 0, 1) := by decide +kernel
theorem dX12_adds_31 : decode cX12_adds 31 = .ok (.dup, 1) := by decide +kernel
theorem dX12_adds_32 : decode cX12_adds 32 = .ok (.getfield 108, 3) := by decide +kernel
theorem dX12_adds_35 : decode cX12_adds 35 = .ok (.dup_x1, 1) := by decide +kernel
theorem dX12_adds_36 : decode cX12_adds 36 = .ok (.iconst 1, 1) := by decide +kernel
theorem dX12_adds_37 : decode cX12_adds 37 = .ok (.iadd, 1) := by decide +kernel
theorem dX12_adds_38 : decode cX12_adds 38 = .ok (.putfield 108, 3) := by decide +kernel
theorem dX12_adds_41 : decode cX12_adds 41 = .ok (.ireturn, 1) := by decide +kernel
theorem dX12_figure_0 : decode cX12_figure 0 = .ok (.iload_n 1, 1) := by decide +kernel
theorem dX12_figure_1 : decode cX12_figure 1 = .ok (.ifCond .lt 9, 3) := by decide +kernel
theorem dX12_figure_4 : decode cX12_figure 4 = .ok (.iload_n 1, 1) := by decide +kernel
theorem dX12_figure_5 : decode cX12_figure 5 = .ok (.bipush 6, 2) := by decide +kernel
theorem dX12_figure_7 : decode cX12_figure 7 = .ok (.if_icmp .le 9, 3) := by decide +kernel
theorem dX12_figure_10 : decode cX12_figure 10 = .ok (.aload_n 0, 1) := by decide +kernel
theorem dX12_figure_11 : decode cX12_figure 11 = .ok (.iconst (-1), 1) := by decide +kernel
theorem dX12_figure_12 : decode cX12_figure 12 = .ok (.invokevirtual 115, 3) := by decide +kernel
theorem dX12_figure_15 : decode cX12_figure 15 = .ok (.ireturn, 1) := by decide +kernel
theorem dX12_figure_16 : decode cX12_figure 16 = .ok (.iload_n 2, 1) := by decide +kernel
theorem dX12_figure_17 : decode cX12_figure 17 = .ok (.ifCond .lt 20, 3) := by decide +kernel
theorem dX12_figure_20 : decode cX12_figure 20 = .ok (.iload_n 2, 1) := by decide +kernel
theorem dX12_figure_21 : decode cX12_figure 21 = .ok (.bipush 9, 2) := by decide +kernel
theorem dX12_figure_23 : decode cX12_figure 23 = .ok (.if_icmp .gt 14, 3) := by decide +kernel
theorem dX12_figure_26 : decode cX12_figure 26 = .ok (.iload_n 3, 1) := by decide +kernel
theorem dX12_figure_27 : decode cX12_figure 27 = .ok (.iconst 1, 1) := by decide +kernel
theorem dX12_figure_28 : decode cX12_figure 28 = .ok (.if_icmp .lt 9, 3) := by decide +kernel
theorem dX12_figure_31 : decode cX12_figure 31 = .ok (.iload_n 3, 1) := by decide +kernel
theorem dX12_figure_32 : decode cX12_figure 32 = .ok (.bipush 9, 2) := by decide +kernel
theorem dX12_figure_34 : decode cX12_figure 34 = .ok (.if_icmp .le 10, 3) := by decide +kernel
theorem dX12_figure_37 : decode cX12_figure 37 = .ok (.aload_n 0, 1) := by decide +kernel
theorem dX12_figure_38 : decode cX12_figure 38 = .ok (.bipush (-6), 2) := by decide +kernel
theorem dX12_figure_40 : decode cX12_figure 40 = .ok (.invokevirtual 115, 3) := by decide +kernel
theorem dX12_figure_43 : decode cX12_figure 43 = .ok (.ireturn, 1) := by decide +kernel
theorem dX12_figure_44 : decode cX12_figure 44 = .ok (.aload_n 0, 1) := by decide +kernel
theorem dX12_figure_45 : decode cX12_figure 45 = .ok (.getfield 108, 3) := by decide +kernel
theorem dX12_figure_48 : decode cX12_figure 48 = .ok (.bipush 8, 2) := by decide +kernel
theorem dX12_figure_50 : decode cX12_figure 50 = .ok (.if_icmp .ne 12, 3) := by decide +kernel
theorem dX12_figure_53 : decode cX12_figure 53 = .ok (.aload_n 0, 1) := by decide +kernel
theorem dX12_figure_54 : decode cX12_figure 54 = .ok (.bipush (-7), 2) := by decide +kernel
theorem dX12_figure_56 : decode cX12_figure 56 = .ok (.invokevirtual 115, 3) := by decide +kernel
theorem dX12_figure_59 : decode cX12_figure 59 = .ok (.goto 10, 3) := by decide +kernel
theorem dX12_figure_62 : decode cX12_figure 62 = .ok (.aload_n 0, 1) := by decide +kernel
theorem dX12_figure_63 : decode cX12_figure 63 = .ok (.iload_n 1, 1) := by decide +kernel
theorem dX12_figure_64 : decode cX12_figure 64 = .ok (.iload_n 2, 1) := by decide +kernel
theorem dX12_figure_65 : decode cX12_figure 65 = .ok (.iload_n 3, 1) := by decide +kernel
theorem dX12_figure_66 : decode cX12_figure 66 = .ok (.invokevirtual 131, 3) := by decide +kernel
theorem dX12_figure_69 : decode cX12_figure 69 = .ok (.ireturn, 1) := by decide +kernel
theorem dX12_figureOf_0 : decode cX12_figureOf 0 = .ok (.aload_n 0, 1) := by decide +kernel
theorem dX12_figureOf_1 : decode cX12_figureOf 1 = .ok (.iload_n 1, 1) := by decide +kernel
theorem dX12_figureOf_2 : decode cX12_figureOf 2 = .ok (.invokevirtual 119, 3) := by decide +kernel
theorem dX12_figureOf_5 : decode cX12_figureOf 5 = .ok (.ifCond .eq 12, 3) := by decide +kernel
theorem dX12_figureOf_8 : decode cX12_figureOf 8 = .ok (.iload_n 2, 1) := by decide +kernel
theorem dX12_figureOf_9 : decode cX12_figureOf 9 = .ok (.ifCond .lt 8, 3) := by decide +kernel
theorem dX12_figureOf_12 : decode cX12_figureOf 12 = .ok (.iload_n 2, 1) := by decide +kernel
theorem dX12_figureOf_13 : decode cX12_figureOf 13 = .ok (.iconst 2, 1) := by decide +kernel
theorem dX12_figureOf_14 : decode cX12_figureOf 14 = .ok (.if_icmp .le 10, 3) := by decide +kernel
theorem dX12_figureOf_17 : decode cX12_figureOf 17 = .ok (.aload_n 0, 1) := by decide +kernel
theorem dX12_figureOf_18 : decode cX12_figureOf 18 = .ok (.bipush (-5), 2) := by decide +kernel
theorem dX12_figureOf_20 : decode cX12_figureOf 20 = .ok (.invokevirtual 115, 3) := by decide +kernel
theorem dX12_figureOf_23 : decode cX12_figureOf 23 = .ok (.ireturn, 1) := by decide +kernel
theorem dX12_figureOf_24 : decode cX12_figureOf 24 = .ok (.iload_n 2, 1) := by decide +kernel
theorem dX12_figureOf_25 : decode cX12_figureOf 25 = .ok (.ifCond .ne 12, 3) := by decide +kernel
theorem dX12_figureOf_28 : decode cX12_figureOf 28 = .ok (.aload_n 0, 1) := by decide +kernel
theorem dX12_figureOf_29 : decode cX12_figureOf 29 = .ok (.getfield 24, 3) := by decide +kernel
theorem dX12_figureOf_32 : decode cX12_figureOf 32 = .ok (.iload_n 1, 1) := by decide +kernel
theorem dX12_figureOf_33 : decode cX12_figureOf 33 = .ok (.iaload, 1) := by decide +kernel
theorem dX12_figureOf_34 : decode cX12_figureOf 34 = .ok (.goto 23, 3) := by decide +kernel
theorem dX12_figureOf_37 : decode cX12_figureOf 37 = .ok (.iload_n 2, 1) := by decide +kernel
theorem dX12_figureOf_38 : decode cX12_figureOf 38 = .ok (.iconst 1, 1) := by decide +kernel
theorem dX12_figureOf_39 : decode cX12_figureOf 39 = .ok (.if_icmp .ne 12, 3) := by decide +kernel
theorem dX12_figureOf_42 : decode cX12_figureOf 42 = .ok (.aload_n 0, 1) := by decide +kernel
theorem dX12_figureOf_43 : decode cX12_figureOf 43 = .ok (.getfield 27, 3) := by decide +kernel
theorem dX12_figureOf_46 : decode cX12_figureOf 46 = .ok (.iload_n 1, 1) := by decide +kernel
theorem dX12_figureOf_47 : decode cX12_figureOf 47 = .ok (.iaload, 1) := by decide +kernel
theorem dX12_figureOf_48 : decode cX12_figureOf 48 = .ok (.goto 9, 3) := by decide +kernel
theorem dX12_figureOf_51 : decode cX12_figureOf 51 = .ok (.aload_n 0, 1) := by decide +kernel
theorem dX12_figureOf_52 : decode cX12_figureOf 52 = .ok (.getfield 30, 3) := by decide +kernel
theorem dX12_figureOf_55 : decode cX12_figureOf 55 = .ok (.iload_n 1, 1) := by decide +kernel
theorem dX12_figureOf_56 : decode cX12_figureOf 56 = .ok (.iaload, 1) := by decide +kernel
theorem dX12_figureOf_57 : decode cX12_figureOf 57 = .ok (.ireturn, 1) := by decide +kernel
theorem dX12_divides_0 : decode cX12_divides 0 = .ok (.lload_n 1, 1) := by decide +kernel
theorem dX12_divides_1 : decode cX12_divides 1 = .ok (.lconst 0, 1) := by decide +kernel
theorem dX12_divides_2 : decode cX12_divides 2 = .ok (.lcmp, 1) := by decide +kernel
theorem dX12_divides_3 : decode cX12_divides 3 = .ok (.ifCond .ge 8, 3) := by decide +kernel
theorem dX12_divides_6 : decode cX12_divides 6 = .ok (.lload_n 1, 1) := by decide +kernel
theorem dX12_divides_7 : decode cX12_divides 7 = .ok (.lneg, 1) := by decide +kernel
theorem dX12_divides_8 : decode cX12_divides 8 = .ok (.goto 4, 3) := by decide +kernel
theorem dX12_divides_11 : decode cX12_divides 11 = .ok (.lload_n 1, 1) := by decide +kernel
theorem dX12_divides_12 : decode cX12_divides 12 = .ok (.lstore 5, 2) := by decide +kernel
theorem dX12_divides_14 : decode cX12_divides 14 = .ok (.lload_n 3, 1) := by decide +kernel
theorem dX12_divides_15 : decode cX12_divides 15 = .ok (.lconst 0, 1) := by decide +kernel
theorem dX12_divides_16 : decode cX12_divides 16 = .ok (.lcmp, 1) := by decide +kernel
theorem dX12_divides_17 : decode cX12_divides 17 = .ok (.ifCond .ge 8, 3) := by decide +kernel
theorem dX12_divides_20 : decode cX12_divides 20 = .ok (.lload_n 3, 1) := by decide +kernel
theorem dX12_divides_21 : decode cX12_divides 21 = .ok (.lneg, 1) := by decide +kernel
theorem dX12_divides_22 : decode cX12_divides 22 = .ok (.goto 4, 3) := by decide +kernel
theorem dX12_divides_25 : decode cX12_divides 25 = .ok (.lload_n 3, 1) := by decide +kernel
theorem dX12_divides_26 : decode cX12_divides 26 = .ok (.lstore 7, 2) := by decide +kernel
theorem dX12_divides_28 : decode cX12_divides 28 = .ok (.lload 7, 2) := by decide +kernel
theorem dX12_divides_30 : decode cX12_divides 30 = .ok (.lconst 0, 1) := by decide +kernel
theorem dX12_divides_31 : decode cX12_divides 31 = .ok (.lcmp, 1) := by decide +kernel
theorem dX12_divides_32 : decode cX12_divides 32 = .ok (.ifCond .eq 21, 3) := by decide +kernel
theorem dX12_divides_35 : decode cX12_divides 35 = .ok (.lload 5, 2) := by decide +kernel
theorem dX12_divides_37 : decode cX12_divides 37 = .ok (.lload 7, 2) := by decide +kernel
theorem dX12_divides_39 : decode cX12_divides 39 = .ok (.lrem, 1) := by decide +kernel
theorem dX12_divides_40 : decode cX12_divides 40 = .ok (.lstore 9, 2) := by decide +kernel
theorem dX12_divides_42 : decode cX12_divides 42 = .ok (.lload 7, 2) := by decide +kernel
theorem dX12_divides_44 : decode cX12_divides 44 = .ok (.lstore 5, 2) := by decide +kernel
theorem dX12_divides_46 : decode cX12_divides 46 = .ok (.lload 9, 2) := by decide +kernel
theorem dX12_divides_48 : decode cX12_divides 48 = .ok (.lstore 7, 2) := by decide +kernel
theorem dX12_divides_50 : decode cX12_divides 50 = .ok (.goto (-22), 3) := by decide +kernel
theorem dX12_divides_53 : decode cX12_divides 53 = .ok (.lload 5, 2) := by decide +kernel
theorem dX12_divides_55 : decode cX12_divides 55 = .ok (.lreturn, 1) := by decide +kernel
theorem dX12_isNumber_0 : decode cX12_isNumber 0 = .ok (.lload_n 3, 1) := by decide +kernel
theorem dX12_isNumber_1 : decode cX12_isNumber 1 = .ok (.lconst 0, 1) := by decide +kernel
theorem dX12_isNumber_2 : decode cX12_isNumber 2 = .ok (.lcmp, 1) := by decide +kernel
theorem dX12_isNumber_3 : decode cX12_isNumber 3 = .ok (.ifCond .lt 27, 3) := by decide +kernel
theorem dX12_isNumber_6 : decode cX12_isNumber 6 = .ok (.lload_n 3, 1) := by decide +kernel
theorem dX12_isNumber_7 : decode cX12_isNumber 7 = .ok (.ldc2_w 135, 3) := by decide +kernel
theorem dX12_isNumber_10 : decode cX12_isNumber 10 = .ok (.lcmp, 1) := by decide +kernel
theorem dX12_isNumber_11 : decode cX12_isNumber 11 = .ok (.ifCond .gt 19, 3) := by decide +kernel
theorem dX12_isNumber_14 : decode cX12_isNumber 14 = .ok (.lload_n 1, 1) := by decide +kernel
theorem dX12_isNumber_15 : decode cX12_isNumber 15 = .ok (.ldc2_w 135, 3) := by decide +kernel
theorem dX12_isNumber_18 : decode cX12_isNumber 18 = .ok (.lcmp, 1) := by decide +kernel
theorem dX12_isNumber_19 : decode cX12_isNumber 19 = .ok (.ifCond .gt 11, 3) := by decide +kernel
theorem dX12_isNumber_22 : decode cX12_isNumber 22 = .ok (.lload_n 1, 1) := by decide +kernel
theorem dX12_isNumber_23 : decode cX12_isNumber 23 = .ok (.ldc2_w 137, 3) := by decide +kernel
theorem dX12_isNumber_26 : decode cX12_isNumber 26 = .ok (.lcmp, 1) := by decide +kernel
theorem dX12_isNumber_27 : decode cX12_isNumber 27 = .ok (.ifCond .ge 5, 3) := by decide +kernel
theorem dX12_isNumber_30 : decode cX12_isNumber 30 = .ok (.iconst 0, 1) := by decide +kernel
theorem dX12_isNumber_31 : decode cX12_isNumber 31 = .ok (.ireturn, 1) := by decide +kernel
theorem dX12_isNumber_32 : decode cX12_isNumber 32 = .ok (.lload_n 3, 1) := by decide +kernel
theorem dX12_isNumber_33 : decode cX12_isNumber 33 = .ok (.lconst 0, 1) := by decide +kernel
theorem dX12_isNumber_34 : decode cX12_isNumber 34 = .ok (.lcmp, 1) := by decide +kernel
theorem dX12_isNumber_35 : decode cX12_isNumber 35 = .ok (.ifCond .ne 17, 3) := by decide +kernel
theorem dX12_isNumber_38 : decode cX12_isNumber 38 = .ok (.lload_n 1, 1) := by decide +kernel
theorem dX12_isNumber_39 : decode cX12_isNumber 39 = .ok (.lconst 1, 1) := by decide +kernel
theorem dX12_isNumber_40 : decode cX12_isNumber 40 = .ok (.lcmp, 1) := by decide +kernel
theorem dX12_isNumber_41 : decode cX12_isNumber 41 = .ok (.ifCond .ne 7, 3) := by decide +kernel
theorem dX12_isNumber_44 : decode cX12_isNumber 44 = .ok (.iconst 1, 1) := by decide +kernel
theorem dX12_isNumber_45 : decode cX12_isNumber 45 = .ok (.goto 23, 3) := by decide +kernel
theorem dX12_isNumber_48 : decode cX12_isNumber 48 = .ok (.iconst 0, 1) := by decide +kernel
theorem dX12_isNumber_49 : decode cX12_isNumber 49 = .ok (.goto 19, 3) := by decide +kernel
theorem dX12_isNumber_52 : decode cX12_isNumber 52 = .ok (.aload_n 0, 1) := by decide +kernel
theorem dX12_isNumber_53 : decode cX12_isNumber 53 = .ok (.lload_n 1, 1) := by decide +kernel
theorem dX12_isNumber_54 : decode cX12_isNumber 54 = .ok (.lload_n 3, 1) := by decide +kernel
theorem dX12_isNumber_55 : decode cX12_isNumber 55 = .ok (.invokevirtual 139, 3) := by decide +kernel
theorem dX12_isNumber_58 : decode cX12_isNumber 58 = .ok (.lconst 1, 1) := by decide +kernel
theorem dX12_isNumber_59 : decode cX12_isNumber 59 = .ok (.lcmp, 1) := by decide +kernel
theorem dX12_isNumber_60 : decode cX12_isNumber 60 = .ok (.ifCond .ne 7, 3) := by decide +kernel
theorem dX12_isNumber_63 : decode cX12_isNumber 63 = .ok (.iconst 1, 1) := by decide +kernel
theorem dX12_isNumber_64 : decode cX12_isNumber 64 = .ok (.goto 4, 3) := by decide +kernel
theorem dX12_isNumber_67 : decode cX12_isNumber 67 = .ok (.iconst 0, 1) := by decide +kernel
theorem dX12_isNumber_68 : decode cX12_isNumber 68 = .ok (.ireturn, 1) := by decide +kernel
theorem dX12_start_0 : decode cX12_start 0 = .ok (.aload_n 0, 1) := by decide +kernel
theorem dX12_start_1 : decode cX12_start 1 = .ok (.lload_n 1, 1) := by decide +kernel
theorem dX12_start_2 : decode cX12_start 2 = .ok (.lload_n 3, 1) := by decide +kernel
theorem dX12_start_3 : decode cX12_start 3 = .ok (.invokevirtual 143, 3) := by decide +kernel
theorem dX12_start_6 : decode cX12_start 6 = .ok (.ifCond .ne 10, 3) := by decide +kernel
theorem dX12_start_9 : decode cX12_start 9 = .ok (.aload_n 0, 1) := by decide +kernel
theorem dX12_start_10 : decode cX12_start 10 = .ok (.bipush (-6), 2) := by decide +kernel
theorem dX12_start_12 : decode cX12_start 12 = .ok (.invokevirtual 115, 3) := by decide +kernel
theorem dX12_start_15 : decode cX12_start 15 = .ok (.ireturn, 1) := by decide +kernel
theorem dX12_start_16 : decode cX12_start 16 = .ok (.aload_n 0, 1) := by decide +kernel
theorem dX12_start_17 : decode cX12_start 17 = .ok (.lload_n 1, 1) := by decide +kernel
theorem dX12_start_18 : decode cX12_start 18 = .ok (.putfield 147, 3) := by decide +kernel
theorem dX12_start_21 : decode cX12_start 21 = .ok (.aload_n 0, 1) := by decide +kernel
theorem dX12_start_22 : decode cX12_start 22 = .ok (.lload_n 3, 1) := by decide +kernel
theorem dX12_start_23 : decode cX12_start 23 = .ok (.putfield 16, 3) := by decide +kernel
theorem dX12_start_26 : decode cX12_start 26 = .ok (.iconst 1, 1) := by decide +kernel
theorem dX12_start_27 : decode cX12_start 27 = .ok (.ireturn, 1) := by decide +kernel
theorem dX12_begins_0 : decode cX12_begins 0 = .ok (.aload_n 0, 1) := by decide +kernel
theorem dX12_begins_1 : decode cX12_begins 1 = .ok (.aload_n 0, 1) := by decide +kernel
theorem dX12_begins_2 : decode cX12_begins 2 = .ok (.getfield 147, 3) := by decide +kernel
theorem dX12_begins_5 : decode cX12_begins 5 = .ok (.putfield 150, 3) := by decide +kernel
theorem dX12_begins_8 : decode cX12_begins 8 = .ok (.aload_n 0, 1) := by decide +kernel
theorem dX12_begins_9 : decode cX12_begins 9 = .ok (.aload_n 0, 1) := by decide +kernel
theorem dX12_begins_10 : decode cX12_begins 10 = .ok (.getfield 16, 3) := by decide +kernel
theorem dX12_begins_13 : decode cX12_begins 13 = .ok (.putfield 153, 3) := by decide +kernel
theorem dX12_begins_16 : decode cX12_begins 16 = .ok (.iconst 0, 1) := by decide +kernel
theorem dX12_begins_17 : decode cX12_begins 17 = .ok (.istore_n 1, 1) := by decide +kernel
theorem dX12_begins_18 : decode cX12_begins 18 = .ok (.iload_n 1, 1) := by decide +kernel
theorem dX12_begins_19 : decode cX12_begins 19 = .ok (.iconst 4, 1) := by decide +kernel
theorem dX12_begins_20 : decode cX12_begins 20 = .ok (.if_icmp .ge 21, 3) := by decide +kernel
theorem dX12_begins_23 : decode cX12_begins 23 = .ok (.aload_n 0, 1) := by decide +kernel
theorem dX12_begins_24 : decode cX12_begins 24 = .ok (.getfield 55, 3) := by decide +kernel
theorem dX12_begins_27 : decode cX12_begins 27 = .ok (.iload_n 1, 1) := by decide +kernel
theorem dX12_begins_28 : decode cX12_begins 28 = .ok (.aload_n 0, 1) := by decide +kernel
theorem dX12_begins_29 : decode cX12_begins 29 = .ok (.getfield 33, 3) := by decide +kernel
theorem dX12_begins_32 : decode cX12_begins 32 = .ok (.iload_n 1, 1) := by decide +kernel
theorem dX12_begins_33 : decode cX12_begins 33 = .ok (.iaload, 1) := by decide +kernel
theorem dX12_begins_34 : decode cX12_begins 34 = .ok (.iastore, 1) := by decide +kernel
theorem dX12_begins_35 : decode cX12_begins 35 = .ok (.iinc 1 1, 3) := by decide +kernel
theorem dX12_begins_38 : decode cX12_begins 38 = .ok (.goto (-20), 3) := by decide +kernel
theorem dX12_begins_41 : decode cX12_begins 41 = .ok (.return_, 1) := by decide +kernel
theorem dX12_truly_0 : decode cX12_truly 0 = .ok (.aload_n 0, 1) := by decide +kernel
theorem dX12_truly_1 : decode cX12_truly 1 = .ok (.aload_n 0, 1) := by decide +kernel
theorem dX12_truly_2 : decode cX12_truly 2 = .ok (.getfield 150, 3) := by decide +kernel
theorem dX12_truly_5 : decode cX12_truly 5 = .ok (.putfield 147, 3) := by decide +kernel
theorem dX12_truly_8 : decode cX12_truly 8 = .ok (.aload_n 0, 1) := by decide +kernel
theorem dX12_truly_9 : decode cX12_truly 9 = .ok (.aload_n 0, 1) := by decide +kernel
theorem dX12_truly_10 : decode cX12_truly 10 = .ok (.getfield 153, 3) := by decide +kernel
theorem dX12_truly_13 : decode cX12_truly 13 = .ok (.putfield 16, 3) := by decide +kernel
theorem dX12_truly_16 : decode cX12_truly 16 = .ok (.iconst 0, 1) := by decide +kernel
theorem dX12_truly_17 : decode cX12_truly 17 = .ok (.istore_n 1, 1) := by decide +kernel
theorem dX12_truly_18 : decode cX12_truly 18 = .ok (.iload_n 1, 1) := by decide +kernel
theorem dX12_truly_19 : decode cX12_truly 19 = .ok (.iconst 4, 1) := by decide +kernel
theorem dX12_truly_20 : decode cX12_truly 20 = .ok (.if_icmp .ge 21, 3) := by decide +kernel
theorem dX12_truly_23 : decode cX12_truly 23 = .ok (.aload_n 0, 1) := by decide +kernel
theorem dX12_truly_24 : decode cX12_truly 24 = .ok (.getfield 33, 3) := by decide +kernel
theorem dX12_truly_27 : decode cX12_truly 27 = .ok (.iload_n 1, 1) := by decide +kernel
theorem dX12_truly_28 : decode cX12_truly 28 = .ok (.aload_n 0, 1) := by decide +kernel
theorem dX12_truly_29 : decode cX12_truly 29 = .ok (.getfield 55, 3) := by decide +kernel
theorem dX12_truly_32 : decode cX12_truly 32 = .ok (.iload_n 1, 1) := by decide +kernel
theorem dX12_truly_33 : decode cX12_truly 33 = .ok (.iaload, 1) := by decide +kernel
theorem dX12_truly_34 : decode cX12_truly 34 = .ok (.iastore, 1) := by decide +kernel
theorem dX12_truly_35 : decode cX12_truly 35 = .ok (.iinc 1 1, 3) := by decide +kernel
theorem dX12_truly_38 : decode cX12_truly 38 = .ok (.goto (-20), 3) := by decide +kernel
theorem dX12_truly_41 : decode cX12_truly 41 = .ok (.return_, 1) := by decide +kernel
theorem dX12_isRoom_0 : decode cX12_isRoom 0 = .ok (.aload_n 0, 1) := by decide +kernel
theorem dX12_isRoom_1 : decode cX12_isRoom 1 = .ok (.getfield 150, 3) := by decide +kernel
theorem dX12_isRoom_4 : decode cX12_isRoom 4 = .ok (.ldc2_w 135, 3) := by decide +kernel
theorem dX12_isRoom_7 : decode cX12_isRoom 7 = .ok (.lcmp, 1) := by decide +kernel
theorem dX12_isRoom_8 : decode cX12_isRoom 8 = .ok (.ifCond .gt 29, 3) := by decide +kernel
theorem dX12_isRoom_11 : decode cX12_isRoom 11 = .ok (.aload_n 0, 1) := by decide +kernel
theorem dX12_isRoom_12 : decode cX12_isRoom 12 = .ok (.getfield 150, 3) := by decide +kernel
theorem dX12_isRoom_15 : decode cX12_isRoom 15 = .ok (.ldc2_w 137, 3) := by decide +kernel
theorem dX12_isRoom_18 : decode cX12_isRoom 18 = .ok (.lcmp, 1) := by decide +kernel
theorem dX12_isRoom_19 : decode cX12_isRoom 19 = .ok (.ifCond .lt 18, 3) := by decide +kernel
theorem dX12_isRoom_22 : decode cX12_isRoom 22 = .ok (.aload_n 0, 1) := by decide +kernel
theorem dX12_isRoom_23 : decode cX12_isRoom 23 = .ok (.getfield 153, 3) := by decide +kernel
theorem dX12_isRoom_26 : decode cX12_isRoom 26 = .ok (.ldc2_w 135, 3) := by decide +kernel
theorem dX12_isRoom_29 : decode cX12_isRoom 29 = .ok (.lcmp, 1) := by decide +kernel
theorem dX12_isRoom_30 : decode cX12_isRoom 30 = .ok (.ifCond .gt 7, 3) := by decide +kernel
theorem dX12_isRoom_33 : decode cX12_isRoom 33 = .ok (.iconst 1, 1) := by decide +kernel
theorem dX12_isRoom_34 : decode cX12_isRoom 34 = .ok (.goto 4, 3) := by decide +kernel
theorem dX12_isRoom_37 : decode cX12_isRoom 37 = .ok (.iconst 0, 1) := by decide +kernel
theorem dX12_isRoom_38 : decode cX12_isRoom 38 = .ok (.ireturn, 1) := by decide +kernel
theorem dX12_more_0 : decode cX12_more 0 = .ok (.aload_n 0, 1) := by decide +kernel
theorem dX12_more_1 : decode cX12_more 1 = .ok (.dup, 1) := by decide +kernel
theorem dX12_more_2 : decode cX12_more 2 = .ok (.getfield 150, 3) := by decide +kernel
theorem dX12_more_5 : decode cX12_more 5 = .ok (.iload_n 1, 1) := by decide +kernel
theorem dX12_more_6 : decode cX12_more 6 = .ok (.i2l, 1) := by decide +kernel
theorem dX12_more_7 : decode cX12_more 7 = .ok (.aload_n 0, 1) := by decide +kernel
theorem dX12_more_8 : decode cX12_more 8 = .ok (.getfield 153, 3) := by decide +kernel
theorem dX12_more_11 : decode cX12_more 11 = .ok (.lmul, 1) := by decide +kernel
theorem dX12_more_12 : decode cX12_more 12 = .ok (.ladd, 1) := by decide +kernel
theorem dX12_more_13 : decode cX12_more 13 = .ok (.putfield 150, 3) := by decide +kernel
theorem dX12_more_16 : decode cX12_more 16 = .ok (.iload_n 1, 1) := by decide +kernel
theorem dX12_more_17 : decode cX12_more 17 = .ok (.iconst 2, 1) := by decide +kernel
theorem dX12_more_18 : decode cX12_more 18 = .ok (.irem, 1) := by decide +kernel
theorem dX12_more_19 : decode cX12_more 19 = .ok (.ifCond .eq 29, 3) := by decide +kernel
theorem dX12_more_22 : decode cX12_more 22 = .ok (.aload_n 0, 1) := by decide +kernel
theorem dX12_more_23 : decode cX12_more 23 = .ok (.getfield 55, 3) := by decide +kernel
theorem dX12_more_26 : decode cX12_more 26 = .ok (.iconst 1, 1) := by decide +kernel
theorem dX12_more_27 : decode cX12_more 27 = .ok (.iaload, 1) := by decide +kernel
theorem dX12_more_28 : decode cX12_more 28 = .ok (.istore_n 2, 1) := by decide +kernel
theorem dX12_more_29 : decode cX12_more 29 = .ok (.aload_n 0, 1) := by decide +kernel
theorem dX12_more_30 : decode cX12_more 30 = .ok (.getfield 55, 3) := by decide +kernel
theorem dX12_more_33 : decode cX12_more 33 = .ok (.iconst 1, 1) := by decide +kernel
theorem dX12_more_34 : decode cX12_more 34 = .ok (.aload_n 0, 1) := by decide +kernel
theorem dX12_more_35 : decode cX12_more 35 = .ok (.getfield 55, 3) := by decide +kernel
theorem dX12_more_38 : decode cX12_more 38 = .ok (.iconst 2, 1) := by decide +kernel
theorem dX12_more_39 : decode cX12_more 39 = .ok (.iaload, 1) := by decide +kernel
theorem dX12_more_40 : decode cX12_more 40 = .ok (.iastore, 1) := by decide +kernel
theorem dX12_more_41 : decode cX12_more 41 = .ok (.aload_n 0, 1) := by decide +kernel
theorem dX12_more_42 : decode cX12_more 42 = .ok (.getfield 55, 3) := by decide +kernel
theorem dX12_more_45 : decode cX12_more 45 = .ok (.iconst 2, 1) := by decide +kernel
theorem dX12_more_46 : decode cX12_more 46 = .ok (.iload_n 2, 1) := by decide +kernel
theorem dX12_more_47 : decode cX12_more 47 = .ok (.iastore, 1) := by decide +kernel
theorem dX12_more_48 : decode cX12_more 48 = .ok (.return_, 1) := by decide +kernel
theorem dX12_turns_0 : decode cX12_turns 0 = .ok (.aload_n 0, 1) := by decide +kernel
theorem dX12_turns_1 : decode cX12_turns 1 = .ok (.getfield 150, 3) := by decide +kernel
theorem dX12_turns_4 : decode cX12_turns 4 = .ok (.lstore_n 1, 1) := by decide +kernel
theorem dX12_turns_5 : decode cX12_turns 5 = .ok (.aload_n 0, 1) := by decide +kernel
theorem dX12_turns_6 : decode cX12_turns 6 = .ok (.lload_n 1, 1) := by decide +kernel
theorem dX12_turns_7 : decode cX12_turns 7 = .ok (.lconst 0, 1) := by decide +kernel
theorem dX12_turns_8 : decode cX12_turns 8 = .ok (.lcmp, 1) := by decide +kernel
theorem dX12_turns_9 : decode cX12_turns 9 = .ok (.ifCond .le 11, 3) := by decide +kernel
theorem dX12_turns_12 : decode cX12_turns 12 = .ok (.aload_n 0, 1) := by decide +kernel
theorem dX12_turns_13 : decode cX12_turns 13 = .ok (.getfield 153, 3) := by decide +kernel
theorem dX12_turns_16 : decode cX12_turns 16 = .ok (.lneg, 1) := by decide +kernel
theorem dX12_turns_17 : decode cX12_turns 17 = .ok (.goto 7, 3) := by decide +kernel
theorem dX12_turns_20 : decode cX12_turns 20 = .ok (.aload_n 0, 1) := by decide +kernel
theorem dX12_turns_21 : decode cX12_turns 21 = .ok (.getfield 153, 3) := by decide +kernel
theorem dX12_turns_24 : decode cX12_turns 24 = .ok (.putfield 150, 3) := by decide +kernel
theorem dX12_turns_27 : decode cX12_turns 27 = .ok (.aload_n 0, 1) := by decide +kernel
theorem dX12_turns_28 : decode cX12_turns 28 = .ok (.lload_n 1, 1) := by decide +kernel
theorem dX12_turns_29 : decode cX12_turns 29 = .ok (.lconst 0, 1) := by decide +kernel
theorem dX12_turns_30 : decode cX12_turns 30 = .ok (.lcmp, 1) := by decide +kernel
theorem dX12_turns_31 : decode cX12_turns 31 = .ok (.ifCond .ge 8, 3) := by decide +kernel
theorem dX12_turns_34 : decode cX12_turns 34 = .ok (.lload_n 1, 1) := by decide +kernel
theorem dX12_turns_35 : decode cX12_turns 35 = .ok (.lneg, 1) := by decide +kernel
theorem dX12_turns_36 : decode cX12_turns 36 = .ok (.goto 4, 3) := by decide +kernel
theorem dX12_turns_39 : decode cX12_turns 39 = .ok (.lload_n 1, 1) := by decide +kernel
theorem dX12_turns_40 : decode cX12_turns 40 = .ok (.putfield 153, 3) := by decide +kernel
theorem dX12_turns_43 : decode cX12_turns 43 = .ok (.aload_n 0, 1) := by decide +kernel
theorem dX12_turns_44 : decode cX12_turns 44 = .ok (.getfield 153, 3) := by decide +kernel
theorem dX12_turns_47 : decode cX12_turns 47 = .ok (.lconst 0, 1) := by decide +kernel
theorem dX12_turns_48 : decode cX12_turns 48 = .ok (.lcmp, 1) := by decide +kernel
theorem dX12_turns_49 : decode cX12_turns 49 = .ok (.ifCond .ne 8, 3) := by decide +kernel
theorem dX12_turns_52 : decode cX12_turns 52 = .ok (.aload_n 0, 1) := by decide +kernel
theorem dX12_turns_53 : decode cX12_turns 53 = .ok (.lconst 1, 1) := by decide +kernel
theorem dX12_turns_54 : decode cX12_turns 54 = .ok (.putfield 150, 3) := by decide +kernel
theorem dX12_turns_57 : decode cX12_turns 57 = .ok (.return_, 1) := by decide +kernel
theorem dX12_goesOn_0 : decode cX12_goesOn 0 = .ok (.aload_n 0, 1) := by decide +kernel
theorem dX12_goesOn_1 : decode cX12_goesOn 1 = .ok (.getfield 55, 3) := by decide +kernel
theorem dX12_goesOn_4 : decode cX12_goesOn 4 = .ok (.iconst 0, 1) := by decide +kernel
theorem dX12_goesOn_5 : decode cX12_goesOn 5 = .ok (.iaload, 1) := by decide +kernel
theorem dX12_goesOn_6 : decode cX12_goesOn 6 = .ok (.istore_n 2, 1) := by decide +kernel
theorem dX12_goesOn_7 : decode cX12_goesOn 7 = .ok (.aload_n 0, 1) := by decide +kernel
theorem dX12_goesOn_8 : decode cX12_goesOn 8 = .ok (.getfield 55, 3) := by decide +kernel
theorem dX12_goesOn_11 : decode cX12_goesOn 11 = .ok (.iconst 1, 1) := by decide +kernel
theorem dX12_goesOn_12 : decode cX12_goesOn 12 = .ok (.iaload, 1) := by decide +kernel
theorem dX12_goesOn_13 : decode cX12_goesOn 13 = .ok (.istore_n 3, 1) := by decide +kernel
theorem dX12_goesOn_14 : decode cX12_goesOn 14 = .ok (.aload_n 0, 1) := by decide +kernel
theorem dX12_goesOn_15 : decode cX12_goesOn 15 = .ok (.getfield 55, 3) := by decide +kernel
theorem dX12_goesOn_18 : decode cX12_goesOn 18 = .ok (.iconst 2, 1) := by decide +kernel
theorem dX12_goesOn_19 : decode cX12_goesOn 19 = .ok (.iaload, 1) := by decide +kernel
theorem dX12_goesOn_20 : decode cX12_goesOn 20 = .ok (.istore 4, 2) := by decide +kernel
theorem dX12_goesOn_22 : decode cX12_goesOn 22 = .ok (.aload_n 0, 1) := by decide +kernel
theorem dX12_goesOn_23 : decode cX12_goesOn 23 = .ok (.getfield 55, 3) := by decide +kernel
theorem dX12_goesOn_26 : decode cX12_goesOn 26 = .ok (.iconst 3, 1) := by decide +kernel
theorem dX12_goesOn_27 : decode cX12_goesOn 27 = .ok (.iaload, 1) := by decide +kernel
theorem dX12_goesOn_28 : decode cX12_goesOn 28 = .ok (.istore 5, 2) := by decide +kernel
theorem dX12_goesOn_30 : decode cX12_goesOn 30 = .ok (.aload_n 0, 1) := by decide +kernel
theorem dX12_goesOn_31 : decode cX12_goesOn 31 = .ok (.getfield 55, 3) := by decide +kernel
theorem dX12_goesOn_34 : decode cX12_goesOn 34 = .ok (.iload_n 1, 1) := by decide +kernel
theorem dX12_goesOn_35 : decode cX12_goesOn 35 = .ok (.iconst 4, 1) := by decide +kernel
theorem dX12_goesOn_36 : decode cX12_goesOn 36 = .ok (.irem, 1) := by decide +kernel
theorem dX12_goesOn_37 : decode cX12_goesOn 37 = .ok (.iload_n 2, 1) := by decide +kernel
theorem dX12_goesOn_38 : decode cX12_goesOn 38 = .ok (.iastore, 1) := by decide +kernel
theorem dX12_goesOn_39 : decode cX12_goesOn 39 = .ok (.aload_n 0, 1) := by decide +kernel
theorem dX12_goesOn_40 : decode cX12_goesOn 40 = .ok (.getfield 55, 3) := by decide +kernel
theorem dX12_goesOn_43 : decode cX12_goesOn 43 = .ok (.iconst 1, 1) := by decide +kernel
theorem dX12_goesOn_44 : decode cX12_goesOn 44 = .ok (.iload_n 1, 1) := by decide +kernel
theorem dX12_goesOn_45 : decode cX12_goesOn 45 = .ok (.iadd, 1) := by decide +kernel
theorem dX12_goesOn_46 : decode cX12_goesOn 46 = .ok (.iconst 4, 1) := by decide +kernel
theorem dX12_goesOn_47 : decode cX12_goesOn 47 = .ok (.irem, 1) := by decide +kernel
theorem dX12_goesOn_48 : decode cX12_goesOn 48 = .ok (.iload_n 3, 1) := by decide +kernel
theorem dX12_goesOn_49 : decode cX12_goesOn 49 = .ok (.iastore, 1) := by decide +kernel
theorem dX12_goesOn_50 : decode cX12_goesOn 50 = .ok (.aload_n 0, 1) := by decide +kernel
theorem dX12_goesOn_51 : decode cX12_goesOn 51 = .ok (.getfield 55, 3) := by decide +kernel
theorem dX12_goesOn_54 : decode cX12_goesOn 54 = .ok (.iconst 2, 1) := by decide +kernel
theorem dX12_goesOn_55 : decode cX12_goesOn 55 = .ok (.iload_n 1, 1) := by decide +kernel
theorem dX12_goesOn_56 : decode cX12_goesOn 56 = .ok (.iadd, 1) := by decide +kernel
theorem dX12_goesOn_57 : decode cX12_goesOn 57 = .ok (.iconst 4, 1) := by decide +kernel
theorem dX12_goesOn_58 : decode cX12_goesOn 58 = .ok (.irem, 1) := by decide +kernel
theorem dX12_goesOn_59 : decode cX12_goesOn 59 = .ok (.iload 4, 2) := by decide +kernel
theorem dX12_goesOn_61 : decode cX12_goesOn 61 = .ok (.iastore, 1) := by decide +kernel
theorem dX12_goesOn_62 : decode cX12_goesOn 62 = .ok (.aload_n 0, 1) := by decide +kernel
theorem dX12_goesOn_63 : decode cX12_goesOn 63 = .ok (.getfield 55, 3) := by decide +kernel
theorem dX12_goesOn_66 : decode cX12_goesOn 66 = .ok (.iconst 3, 1) := by decide +kernel
theorem dX12_goesOn_67 : decode cX12_goesOn 67 = .ok (.iload_n 1, 1) := by decide +kernel
theorem dX12_goesOn_68 : decode cX12_goesOn 68 = .ok (.iadd, 1) := by decide +kernel
theorem dX12_goesOn_69 : decode cX12_goesOn 69 = .ok (.iconst 4, 1) := by decide +kernel
theorem dX12_goesOn_70 : decode cX12_goesOn 70 = .ok (.irem, 1) := by decide +kernel
theorem dX12_goesOn_71 : decode cX12_goesOn 71 = .ok (.iload 5, 2) := by decide +kernel
theorem dX12_goesOn_73 : decode cX12_goesOn 73 = .ok (.iastore, 1) := by decide +kernel
theorem dX12_goesOn_74 : decode cX12_goesOn 74 = .ok (.return_, 1) := by decide +kernel
theorem dX12_step_0 : decode cX12_step 0 = .ok (.iload_n 1, 1) := by decide +kernel
theorem dX12_step_1 : decode cX12_step 1 = .ok (.iconst 2, 1) := by decide +kernel
theorem dX12_step_2 : decode cX12_step 2 = .ok (.if_icmp .ne 15, 3) := by decide +kernel
theorem dX12_step_5 : decode cX12_step 5 = .ok (.aload_n 0, 1) := by decide +kernel
theorem dX12_step_6 : decode cX12_step 6 = .ok (.invokevirtual 156, 3) := by decide +kernel
theorem dX12_step_9 : decode cX12_step 9 = .ok (.aload_n 0, 1) := by decide +kernel
theorem dX12_step_10 : decode cX12_step 10 = .ok (.iconst 1, 1) := by decide +kernel
theorem dX12_step_11 : decode cX12_step 11 = .ok (.invokevirtual 159, 3) := by decide +kernel
theorem dX12_step_14 : decode cX12_step 14 = .ok (.goto 16, 3) := by decide +kernel
theorem dX12_step_17 : decode cX12_step 17 = .ok (.aload_n 0, 1) := by decide +kernel
theorem dX12_step_18 : decode cX12_step 18 = .ok (.iload_n 1, 1) := by decide +kernel
theorem dX12_step_19 : decode cX12_step 19 = .ok (.ifCond .ne 7, 3) := by decide +kernel
theorem dX12_step_22 : decode cX12_step 22 = .ok (.iconst 1, 1) := by decide +kernel
theorem dX12_step_23 : decode cX12_step 23 = .ok (.goto 4, 3) := by decide +kernel
theorem dX12_step_26 : decode cX12_step 26 = .ok (.iconst (-1), 1) := by decide +kernel
theorem dX12_step_27 : decode cX12_step 27 = .ok (.invokevirtual 163, 3) := by decide +kernel
theorem dX12_step_30 : decode cX12_step 30 = .ok (.return_, 1) := by decide +kernel
theorem dX12_figured_0 : decode cX12_figured 0 = .ok (.aload_n 0, 1) := by decide +kernel
theorem dX12_figured_1 : decode cX12_figured 1 = .ok (.getfield 24, 3) := by decide +kernel
theorem dX12_figured_4 : decode cX12_figured 4 = .ok (.iload_n 1, 1) := by decide +kernel
theorem dX12_figured_5 : decode cX12_figured 5 = .ok (.iaload, 1) := by decide +kernel
theorem dX12_figured_6 : decode cX12_figured 6 = .ok (.istore_n 2, 1) := by decide +kernel
theorem dX12_figured_7 : decode cX12_figured 7 = .ok (.aload_n 0, 1) := by decide +kernel
theorem dX12_figured_8 : decode cX12_figured 8 = .ok (.iload_n 2, 1) := by decide +kernel
theorem dX12_figured_9 : decode cX12_figured 9 = .ok (.invokevirtual 122, 3) := by decide +kernel
theorem dX12_figured_12 : decode cX12_figured 12 = .ok (.ifCond .eq 31, 3) := by decide +kernel
theorem dX12_figured_15 : decode cX12_figured 15 = .ok (.aload_n 0, 1) := by decide +kernel
theorem dX12_figured_16 : decode cX12_figured 16 = .ok (.iload_n 2, 1) := by decide +kernel
theorem dX12_figured_17 : decode cX12_figured 17 = .ok (.iconst 1, 1) := by decide +kernel
theorem dX12_figured_18 : decode cX12_figured 18 = .ok (.if_icmp .ne 7, 3) := by decide +kernel
theorem dX12_figured_21 : decode cX12_figured 21 = .ok (.iconst 1, 1) := by decide +kernel
theorem dX12_figured_22 : decode cX12_figured 22 = .ok (.goto 18, 3) := by decide +kernel
theorem dX12_figured_25 : decode cX12_figured 25 = .ok (.iload_n 2, 1) := by decide +kernel
theorem dX12_figured_26 : decode cX12_figured 26 = .ok (.iconst 2, 1) := by decide +kernel
theorem dX12_figured_27 : decode cX12_figured 27 = .ok (.if_icmp .ne 7, 3) := by decide +kernel
theorem dX12_figured_30 : decode cX12_figured 30 = .ok (.iconst (-1), 1) := by decide +kernel
theorem dX12_figured_31 : decode cX12_figured 31 = .ok (.goto 9, 3) := by decide +kernel
theorem dX12_figured_34 : decode cX12_figured 34 = .ok (.aload_n 0, 1) := by decide +kernel
theorem dX12_figured_35 : decode cX12_figured 35 = .ok (.getfield 27, 3) := by decide +kernel
theorem dX12_figured_38 : decode cX12_figured 38 = .ok (.iload_n 1, 1) := by decide +kernel
theorem dX12_figured_39 : decode cX12_figured 39 = .ok (.iaload, 1) := by decide +kernel
theorem dX12_figured_40 : decode cX12_figured 40 = .ok (.invokevirtual 163, 3) := by decide +kernel
theorem dX12_figured_43 : decode cX12_figured 43 = .ok (.aload_n 0, 1) := by decide +kernel
theorem dX12_figured_44 : decode cX12_figured 44 = .ok (.iload_n 2, 1) := by decide +kernel
theorem dX12_figured_45 : decode cX12_figured 45 = .ok (.invokevirtual 125, 3) := by decide +kernel
theorem dX12_figured_48 : decode cX12_figured 48 = .ok (.ifCond .ne 4, 3) := by decide +kernel
theorem dX12_figured_51 : decode cX12_figured 51 = .ok (.return_, 1) := by decide +kernel
theorem dX12_figured_52 : decode cX12_figured 52 = .ok (.iload_n 2, 1) := by decide +kernel
theorem dX12_figured_53 : decode cX12_figured 53 = .ok (.bipush 6, 2) := by decide +kernel
theorem dX12_figured_55 : decode cX12_figured 55 = .ok (.if_icmp .ne 12, 3) := by decide +kernel
theorem dX12_figured_58 : decode cX12_figured 58 = .ok (.aload_n 0, 1) := by decide +kernel
theorem dX12_figured_59 : decode cX12_figured 59 = .ok (.getfield 27, 3) := by decide +kernel
theorem dX12_figured_62 : decode cX12_figured 62 = .ok (.iload_n 1, 1) := by decide +kernel
theorem dX12_figured_63 : decode cX12_figured 63 = .ok (.iaload, 1) := by decide +kernel
theorem dX12_figured_64 : decode cX12_figured 64 = .ok (.goto 4, 3) := by decide +kernel
theorem dX12_figured_67 : decode cX12_figured 67 = .ok (.iconst 1, 1) := by decide +kernel
theorem dX12_figured_68 : decode cX12_figured 68 = .ok (.istore_n 3, 1) := by decide +kernel
theorem dX12_figured_69 : decode cX12_figured 69 = .ok (.iload_n 3, 1) := by decide +kernel
theorem dX12_figured_70 : decode cX12_figured 70 = .ok (.iconst 2, 1) := by decide +kernel
theorem dX12_figured_71 : decode cX12_figured 71 = .ok (.irem, 1) := by decide +kernel
theorem dX12_figured_72 : decode cX12_figured 72 = .ok (.iconst 1, 1) := by decide +kernel
theorem dX12_figured_73 : decode cX12_figured 73 = .ok (.if_icmp .ne 7, 3) := by decide +kernel
theorem dX12_figured_76 : decode cX12_figured 76 = .ok (.aload_n 0, 1) := by decide +kernel
theorem dX12_figured_77 : decode cX12_figured 77 = .ok (.invokevirtual 156, 3) := by decide +kernel
theorem dX12_figured_80 : decode cX12_figured 80 = .ok (.aload_n 0, 1) := by decide +kernel
theorem dX12_figured_81 : decode cX12_figured 81 = .ok (.iload_n 2, 1) := by decide +kernel
theorem dX12_figured_82 : decode cX12_figured 82 = .ok (.iconst 5, 1) := by decide +kernel
theorem dX12_figured_83 : decode cX12_figured 83 = .ok (.if_icmp .ne 7, 3) := by decide +kernel
theorem dX12_figured_86 : decode cX12_figured 86 = .ok (.iconst 3, 1) := by decide +kernel
theorem dX12_figured_87 : decode cX12_figured 87 = .ok (.goto 6, 3) := by decide +kernel
theorem dX12_figured_90 : decode cX12_figured 90 = .ok (.iload_n 3, 1) := by decide +kernel
theorem dX12_figured_91 : decode cX12_figured 91 = .ok (.iconst 4, 1) := by decide +kernel
theorem dX12_figured_92 : decode cX12_figured 92 = .ok (.irem, 1) := by decide +kernel
theorem dX12_figured_93 : decode cX12_figured 93 = .ok (.invokevirtual 159, 3) := by decide +kernel
theorem dX12_figured_96 : decode cX12_figured 96 = .ok (.return_, 1) := by decide +kernel
theorem dX12_wrong_0 : decode cX12_wrong 0 = .ok (.aload_n 0, 1) := by decide +kernel
theorem dX12_wrong_1 : decode cX12_wrong 1 = .ok (.iload_n 1, 1) := by decide +kernel
theorem dX12_wrong_2 : decode cX12_wrong 2 = .ok (.putfield 166, 3) := by decide +kernel
theorem dX12_wrong_5 : decode cX12_wrong 5 = .ok (.iconst 0, 1) := by decide +kernel
theorem dX12_wrong_6 : decode cX12_wrong 6 = .ok (.ireturn, 1) := by decide +kernel
theorem dX12_word_0 : decode cX12_word 0 = .ok (.iconst 0, 1) := by decide +kernel
theorem dX12_word_1 : decode cX12_word 1 = .ok (.istore_n 1, 1) := by decide +kernel
theorem dX12_word_2 : decode cX12_word 2 = .ok (.aload_n 0, 1) := by decide +kernel
theorem dX12_word_3 : decode cX12_word 3 = .ok (.getfield 169, 3) := by decide +kernel
theorem dX12_word_6 : decode cX12_word 6 = .ok (.istore_n 2, 1) := by decide +kernel
theorem dX12_word_7 : decode cX12_word 7 = .ok (.iconst 0, 1) := by decide +kernel
theorem dX12_word_8 : decode cX12_word 8 = .ok (.istore_n 3, 1) := by decide +kernel
theorem dX12_word_9 : decode cX12_word 9 = .ok (.iload_n 3, 1) := by decide +kernel
theorem dX12_word_10 : decode cX12_word 10 = .ok (.iconst 3, 1) := by decide +kernel
theorem dX12_word_11 : decode cX12_word 11 = .ok (.if_icmp .ge 118, 3) := by decide +kernel
theorem dX12_word_14 : decode cX12_word 14 = .ok (.aload_n 0, 1) := by decide +kernel
theorem dX12_word_15 : decode cX12_word 15 = .ok (.getfield 169, 3) := by decide +kernel
theorem dX12_word_18 : decode cX12_word 18 = .ok (.istore 4, 2) := by decide +kernel
theorem dX12_word_20 : decode cX12_word 20 = .ok (.iload_n 1, 1) := by decide +kernel
theorem dX12_word_21 : decode cX12_word 21 = .ok (.istore 5, 2) := by decide +kernel
theorem dX12_word_23 : decode cX12_word 23 = .ok (.aload_n 0, 1) := by decide +kernel
theorem dX12_word_24 : decode cX12_word 24 = .ok (.getfield 58, 3) := by decide +kernel
theorem dX12_word_27 : decode cX12_word 27 = .ok (.iload 5, 2) := by decide +kernel
theorem dX12_word_29 : decode cX12_word 29 = .ok (.iaload, 1) := by decide +kernel
theorem dX12_word_30 : decode cX12_word 30 = .ok (.ifCond .eq 44, 3) := by decide +kernel
theorem dX12_word_33 : decode cX12_word 33 = .ok (.iload 4, 2) := by decide +kernel
theorem dX12_word_35 : decode cX12_word 35 = .ok (.aload_n 0, 1) := by decide +kernel
theorem dX12_word_36 : decode cX12_word 36 = .ok (.getfield 172, 3) := by decide +kernel
theorem dX12_word_39 : decode cX12_word 39 = .ok (.if_icmp .ge 35, 3) := by decide +kernel
theorem dX12_word_42 : decode cX12_word 42 = .ok (.aload_n 0, 1) := by decide +kernel
theorem dX12_word_43 : decode cX12_word 43 = .ok (.getfield 48, 3) := by decide +kernel
theorem dX12_word_46 : decode cX12_word 46 = .ok (.aload_n 0, 1) := by decide +kernel
theorem dX12_word_47 : decode cX12_word 47 = .ok (.getfield 175, 3) := by decide +kernel
theorem dX12_word_50 : decode cX12_word 50 = .ok (.iload 4, 2) := by decide +kernel
theorem dX12_word_52 : decode cX12_word 52 = .ok (.iadd, 1) := by decide +kernel
theorem dX12_word_53 : decode cX12_word 53 = .ok (.laload, 1) := by decide +kernel
theorem dX12_word_54 : decode cX12_word 54 = .ok (.l2i, 1) := by decide +kernel
theorem dX12_word_55 : decode cX12_word 55 = .ok (.aload_n 0, 1) := by decide +kernel
theorem dX12_word_56 : decode cX12_word 56 = .ok (.getfield 58, 3) := by decide +kernel
theorem dX12_word_59 : decode cX12_word 59 = .ok (.iload 5, 2) := by decide +kernel
theorem dX12_word_61 : decode cX12_word 61 = .ok (.iaload, 1) := by decide +kernel
theorem dX12_word_62 : decode cX12_word 62 = .ok (.if_icmp .ne 12, 3) := by decide +kernel
theorem dX12_word_65 : decode cX12_word 65 = .ok (.iinc 4 1, 3) := by decide +kernel
theorem dX12_word_68 : decode cX12_word 68 = .ok (.iinc 5 1, 3) := by decide +kernel
theorem dX12_word_71 : decode cX12_word 71 = .ok (.goto (-48), 3) := by decide +kernel
theorem dX12_word_74 : decode cX12_word 74 = .ok (.aload_n 0, 1) := by decide +kernel
theorem dX12_word_75 : decode cX12_word 75 = .ok (.getfield 58, 3) := by decide +kernel
theorem dX12_word_78 : decode cX12_word 78 = .ok (.iload 5, 2) := by decide +kernel
theorem dX12_word_80 : decode cX12_word 80 = .ok (.iaload, 1) := by decide +kernel
theorem dX12_word_81 : decode cX12_word 81 = .ok (.ifCond .ne 11, 3) := by decide +kernel
theorem dX12_word_84 : decode cX12_word 84 = .ok (.aload_n 0, 1) := by decide +kernel
theorem dX12_word_85 : decode cX12_word 85 = .ok (.iload 4, 2) := by decide +kernel
theorem dX12_word_87 : decode cX12_word 87 = .ok (.putfield 169, 3) := by decide +kernel
theorem dX12_word_90 : decode cX12_word 90 = .ok (.iload_n 3, 1) := by decide +kernel
theorem dX12_word_91 : decode cX12_word 91 = .ok (.ireturn, 1) := by decide +kernel
theorem dX12_word_92 : decode cX12_word 92 = .ok (.iload 4, 2) := by decide +kernel
theorem dX12_word_94 : decode cX12_word 94 = .ok (.iload_n 2, 1) := by decide +kernel
theorem dX12_word_95 : decode cX12_word 95 = .ok (.if_icmp .le 8, 3) := by decide +kernel
theorem dX12_word_98 : decode cX12_word 98 = .ok (.iload 4, 2) := by decide +kernel
theorem dX12_word_100 : decode cX12_word 100 = .ok (.goto 4, 3) := by decide +kernel
theorem dX12_word_103 : decode cX12_word 103 = .ok (.iload_n 2, 1) := by decide +kernel
theorem dX12_word_104 : decode cX12_word 104 = .ok (.istore_n 2, 1) := by decide +kernel
theorem dX12_word_105 : decode cX12_word 105 = .ok (.aload_n 0, 1) := by decide +kernel
theorem dX12_word_106 : decode cX12_word 106 = .ok (.getfield 58, 3) := by decide +kernel
theorem dX12_word_109 : decode cX12_word 109 = .ok (.iload_n 1, 1) := by decide +kernel
theorem dX12_word_110 : decode cX12_word 110 = .ok (.iaload, 1) := by decide +kernel
theorem dX12_word_111 : decode cX12_word 111 = .ok (.ifCond .eq 9, 3) := by decide +kernel
theorem dX12_word_114 : decode cX12_word 114 = .ok (.iinc 1 1, 3) := by decide +kernel
theorem dX12_word_117 : decode cX12_word 117 = .ok (.goto (-12), 3) := by decide +kernel
theorem dX12_word_120 : decode cX12_word 120 = .ok (.iinc 1 1, 3) := by decide +kernel
theorem dX12_word_123 : decode cX12_word 123 = .ok (.iinc 3 1, 3) := by decide +kernel
theorem dX12_word_126 : decode cX12_word 126 = .ok (.goto (-117), 3) := by decide +kernel
theorem dX12_word_129 : decode cX12_word 129 = .ok (.aload_n 0, 1) := by decide +kernel
theorem dX12_word_130 : decode cX12_word 130 = .ok (.iload_n 2, 1) := by decide +kernel
theorem dX12_word_131 : decode cX12_word 131 = .ok (.putfield 166, 3) := by decide +kernel
theorem dX12_word_134 : decode cX12_word 134 = .ok (.iconst (-1), 1) := by decide +kernel
theorem dX12_word_135 : decode cX12_word 135 = .ok (.ireturn, 1) := by decide +kernel
theorem dX12_isDigit_0 : decode cX12_isDigit 0 = .ok (.aload_n 0, 1) := by decide +kernel
theorem dX12_isDigit_1 : decode cX12_isDigit 1 = .ok (.getfield 169, 3) := by decide +kernel
theorem dX12_isDigit_4 : decode cX12_isDigit 4 = .ok (.aload_n 0, 1) := by decide +kernel
theorem dX12_isDigit_5 : decode cX12_isDigit 5 = .ok (.getfield 172, 3) := by decide +kernel
theorem dX12_isDigit_8 : decode cX12_isDigit 8 = .ok (.if_icmp .ge 47, 3) := by decide +kernel
theorem dX12_isDigit_11 : decode cX12_isDigit 11 = .ok (.aload_n 0, 1) := by decide +kernel
theorem dX12_isDigit_12 : decode cX12_isDigit 12 = .ok (.getfield 48, 3) := by decide +kernel
theorem dX12_isDigit_15 : decode cX12_isDigit 15 = .ok (.aload_n 0, 1) := by decide +kernel
theorem dX12_isDigit_16 : decode cX12_isDigit 16 = .ok (.getfield 175, 3) := by decide +kernel
theorem dX12_isDigit_19 : decode cX12_isDigit 19 = .ok (.aload_n 0, 1) := by decide +kernel
theorem dX12_isDigit_20 : decode cX12_isDigit 20 = .ok (.getfield 169, 3) := by decide +kernel
theorem dX12_isDigit_23 : decode cX12_isDigit 23 = .ok (.iadd, 1) := by decide +kernel
theorem dX12_isDigit_24 : decode cX12_isDigit 24 = .ok (.laload, 1) := by decide +kernel
theorem dX12_isDigit_25 : decode cX12_isDigit 25 = .ok (.l2i, 1) := by decide +kernel
theorem dX12_isDigit_26 : decode cX12_isDigit 26 = .ok (.bipush 48, 2) := by decide +kernel
theorem dX12_isDigit_28 : decode cX12_isDigit 28 = .ok (.if_icmp .lt 27, 3) := by decide +kernel
theorem dX12_isDigit_31 : decode cX12_isDigit 31 = .ok (.aload_n 0, 1) := by decide +kernel
theorem dX12_isDigit_32 : decode cX12_isDigit 32 = .ok (.getfield 48, 3) := by decide +kernel
theorem dX12_isDigit_35 : decode cX12_isDigit 35 = .ok (.aload_n 0, 1) := by decide +kernel
theorem dX12_isDigit_36 : decode cX12_isDigit 36 = .ok (.getfield 175, 3) := by decide +kernel
theorem dX12_isDigit_39 : decode cX12_isDigit 39 = .ok (.aload_n 0, 1) := by decide +kernel
theorem dX12_isDigit_40 : decode cX12_isDigit 40 = .ok (.getfield 169, 3) := by decide +kernel
theorem dX12_isDigit_43 : decode cX12_isDigit 43 = .ok (.iadd, 1) := by decide +kernel
theorem dX12_isDigit_44 : decode cX12_isDigit 44 = .ok (.laload, 1) := by decide +kernel
theorem dX12_isDigit_45 : decode cX12_isDigit 45 = .ok (.l2i, 1) := by decide +kernel
theorem dX12_isDigit_46 : decode cX12_isDigit 46 = .ok (.bipush 57, 2) := by decide +kernel
theorem dX12_isDigit_48 : decode cX12_isDigit 48 = .ok (.if_icmp .gt 7, 3) := by decide +kernel
theorem dX12_isDigit_51 : decode cX12_isDigit 51 = .ok (.iconst 1, 1) := by decide +kernel
theorem dX12_isDigit_52 : decode cX12_isDigit 52 = .ok (.goto 4, 3) := by decide +kernel
theorem dX12_isDigit_55 : decode cX12_isDigit 55 = .ok (.iconst 0, 1) := by decide +kernel
theorem dX12_isDigit_56 : decode cX12_isDigit 56 = .ok (.ireturn, 1) := by decide +kernel
theorem dX12_number_0 : decode cX12_number 0 = .ok (.aload_n 0, 1) := by decide +kernel
theorem dX12_number_1 : decode cX12_number 1 = .ok (.getfield 169, 3) := by decide +kernel
theorem dX12_number_4 : decode cX12_number 4 = .ok (.istore_n 3, 1) := by decide +kernel
theorem dX12_number_5 : decode cX12_number 5 = .ok (.aload_n 0, 1) := by decide +kernel
theorem dX12_number_6 : decode cX12_number 6 = .ok (.iconst 0, 1) := by decide +kernel
theorem dX12_number_7 : decode cX12_number 7 = .ok (.putfield 178, 3) := by decide +kernel
theorem dX12_number_10 : decode cX12_number 10 = .ok (.aload_n 0, 1) := by decide +kernel
theorem dX12_number_11 : decode cX12_number 11 = .ok (.invokevirtual 181, 3) := by decide +kernel
theorem dX12_number_14 : decode cX12_number 14 = .ok (.ifCond .ne 12, 3) := by decide +kernel
theorem dX12_number_17 : decode cX12_number 17 = .ok (.aload_n 0, 1) := by decide +kernel
theorem dX12_number_18 : decode cX12_number 18 = .ok (.aload_n 0, 1) := by decide +kernel
theorem dX12_number_19 : decode cX12_number 19 = .ok (.getfield 169, 3) := by decide +kernel
theorem dX12_number_22 : decode cX12_number 22 = .ok (.invokevirtual 185, 3) := by decide +kernel
theorem dX12_number_25 : decode cX12_number 25 = .ok (.ireturn, 1) := by decide +kernel
theorem dX12_number_26 : decode cX12_number 26 = .ok (.iconst 0, 1) := by decide +kernel
theorem dX12_number_27 : decode cX12_number 27 = .ok (.istore 4, 2) := by decide +kernel
theorem dX12_number_29 : decode cX12_number 29 = .ok (.iload 4, 2) := by decide +kernel
theorem dX12_number_31 : decode cX12_number 31 = .ok (.iconst 3, 1) := by decide +kernel
theorem dX12_number_32 : decode cX12_number 32 = .ok (.if_icmp .ge 56, 3) := by decide +kernel
theorem dX12_number_35 : decode cX12_number 35 = .ok (.aload_n 0, 1) := by decide +kernel
theorem dX12_number_36 : decode cX12_number 36 = .ok (.invokevirtual 181, 3) := by decide +kernel
theorem dX12_number_39 : decode cX12_number 39 = .ok (.ifCond .eq 49, 3) := by decide +kernel
theorem dX12_number_42 : decode cX12_number 42 = .ok (.aload_n 0, 1) := by decide +kernel
theorem dX12_number_43 : decode cX12_number 43 = .ok (.bipush 10, 2) := by decide +kernel
theorem dX12_number_45 : decode cX12_number 45 = .ok (.aload_n 0, 1) := by decide +kernel
theorem dX12_number_46 : decode cX12_number 46 = .ok (.getfield 178, 3) := by decide +kernel
theorem dX12_number_49 : decode cX12_number 49 = .ok (.imul, 1) := by decide +kernel
theorem dX12_number_50 : decode cX12_number 50 = .ok (.aload_n 0, 1) := by decide +kernel
theorem dX12_number_51 : decode cX12_number 51 = .ok (.getfield 48, 3) := by decide +kernel
theorem dX12_number_54 : decode cX12_number 54 = .ok (.aload_n 0, 1) := by decide +kernel
theorem dX12_number_55 : decode cX12_number 55 = .ok (.getfield 175, 3) := by decide +kernel
theorem dX12_number_58 : decode cX12_number 58 = .ok (.aload_n 0, 1) := by decide +kernel
theorem dX12_number_59 : decode cX12_number 59 = .ok (.getfield 169, 3) := by decide +kernel
theorem dX12_number_62 : decode cX12_number 62 = .ok (.iadd, 1) := by decide +kernel
theorem dX12_number_63 : decode cX12_number 63 = .ok (.laload, 1) := by decide +kernel
theorem dX12_number_64 : decode cX12_number 64 = .ok (.l2i, 1) := by decide +kernel
theorem dX12_number_65 : decode cX12_number 65 = .ok (.iadd, 1) := by decide +kernel
theorem dX12_number_66 : decode cX12_number 66 = .ok (.bipush 48, 2) := by decide +kernel
theorem dX12_number_68 : decode cX12_number 68 = .ok (.isub, 1) := by decide +kernel
theorem dX12_number_69 : decode cX12_number 69 = .ok (.putfield 178, 3) := by decide +kernel
theorem dX12_number_72 : decode cX12_number 72 = .ok (.aload_n 0, 1) := by decide +kernel
theorem dX12_number_73 : decode cX12_number 73 = .ok (.dup, 1) := by decide +kernel
theorem dX12_number_74 : decode cX12_number 74 = .ok (.getfield 169, 3) := by decide +kernel
theorem dX12_number_77 : decode cX12_number 77 = .ok (.iconst 1, 1) := by decide +kernel
theorem dX12_number_78 : decode cX12_number 78 = .ok (.iadd, 1) := by decide +kernel
theorem dX12_number_79 : decode cX12_number 79 = .ok (.putfield 169, 3) := by decide +kernel
theorem dX12_number_82 : decode cX12_number 82 = .ok (.iinc 4 1, 3) := by decide +kernel
theorem dX12_number_85 : decode cX12_number 85 = .ok (.goto (-56), 3) := by decide +kernel
theorem dX12_number_88 : decode cX12_number 88 = .ok (.aload_n 0, 1) := by decide +kernel
theorem dX12_number_89 : decode cX12_number 89 = .ok (.getfield 178, 3) := by decide +kernel
theorem dX12_number_92 : decode cX12_number 92 = .ok (.iload_n 1, 1) := by decide +kernel
theorem dX12_number_93 : decode cX12_number 93 = .ok (.if_icmp .lt 11, 3) := by decide +kernel
theorem dX12_number_96 : decode cX12_number 96 = .ok (.aload_n 0, 1) := by decide +kernel
theorem dX12_number_97 : decode cX12_number 97 = .ok (.getfield 178, 3) := by decide +kernel
theorem dX12_number_100 : decode cX12_number 100 = .ok (.iload_n 2, 1) := by decide +kernel
theorem dX12_number_101 : decode cX12_number 101 = .ok (.if_icmp .le 11, 3) := by decide +kernel
theorem dX12_number_104 : decode cX12_number 104 = .ok (.aload_n 0, 1) := by decide +kernel
theorem dX12_number_105 : decode cX12_number 105 = .ok (.iload_n 3, 1) := by decide +kernel
theorem dX12_number_106 : decode cX12_number 106 = .ok (.invokevirtual 185, 3) := by decide +kernel
theorem dX12_number_109 : decode cX12_number 109 = .ok (.ifCond .eq 7, 3) := by decide +kernel
theorem dX12_number_112 : decode cX12_number 112 = .ok (.iconst 1, 1) := by decide +kernel
theorem dX12_number_113 : decode cX12_number 113 = .ok (.goto 4, 3) := by decide +kernel
theorem dX12_number_116 : decode cX12_number 116 = .ok (.iconst 0, 1) := by decide +kernel
theorem dX12_number_117 : decode cX12_number 117 = .ok (.ireturn, 1) := by decide +kernel
theorem dX12_top_0 : decode cX12_top 0 = .ok (.iload_n 1, 1) := by decide +kernel
theorem dX12_top_1 : decode cX12_top 1 = .ok (.ifCond .ne 17, 3) := by decide +kernel
theorem dX12_top_4 : decode cX12_top 4 = .ok (.iload_n 2, 1) := by decide +kernel
theorem dX12_top_5 : decode cX12_top 5 = .ok (.ifCond .ne 8, 3) := by decide +kernel
theorem dX12_top_8 : decode cX12_top 8 = .ok (.bipush 6, 2) := by decide +kernel
theorem dX12_top_10 : decode cX12_top 10 = .ok (.goto 25, 3) := by decide +kernel
theorem dX12_top_13 : decode cX12_top 13 = .ok (.bipush 9, 2) := by decide +kernel
theorem dX12_top_15 : decode cX12_top 15 = .ok (.goto 20, 3) := by decide +kernel
theorem dX12_top_18 : decode cX12_top 18 = .ok (.iload_n 1, 1) := by decide +kernel
theorem dX12_top_19 : decode cX12_top 19 = .ok (.iconst 1, 1) := by decide +kernel
theorem dX12_top_20 : decode cX12_top 20 = .ok (.if_icmp .ne 12, 3) := by decide +kernel
theorem dX12_top_23 : decode cX12_top 23 = .ok (.aload_n 0, 1) := by decide +kernel
theorem dX12_top_24 : decode cX12_top 24 = .ok (.getfield 108, 3) := by decide +kernel
theorem dX12_top_27 : decode cX12_top 27 = .ok (.iconst 1, 1) := by decide +kernel
theorem dX12_top_28 : decode cX12_top 28 = .ok (.isub, 1) := by decide +kernel
theorem dX12_top_29 : decode cX12_top 29 = .ok (.goto 6, 3) := by decide +kernel
theorem dX12_top_32 : decode cX12_top 32 = .ok (.sipush 999, 3) := by decide +kernel
theorem dX12_top_35 : decode cX12_top 35 = .ok (.ireturn, 1) := by decide +kernel
theorem dX12_isFull_0 : decode cX12_isFull 0 = .ok (.iload_n 1, 1) := by decide +kernel
theorem dX12_isFull_1 : decode cX12_isFull 1 = .ok (.ifCond .ne 16, 3) := by decide +kernel
theorem dX12_isFull_4 : decode cX12_isFull 4 = .ok (.aload_n 0, 1) := by decide +kernel
theorem dX12_isFull_5 : decode cX12_isFull 5 = .ok (.getfield 108, 3) := by decide +kernel
theorem dX12_isFull_8 : decode cX12_isFull 8 = .ok (.bipush 8, 2) := by decide +kernel
theorem dX12_isFull_10 : decode cX12_isFull 10 = .ok (.if_icmp .ne 7, 3) := by decide +kernel
theorem dX12_isFull_13 : decode cX12_isFull 13 = .ok (.iconst 1, 1) := by decide +kernel
theorem dX12_isFull_14 : decode cX12_isFull 14 = .ok (.goto 4, 3) := by decide +kernel
theorem dX12_isFull_17 : decode cX12_isFull 17 = .ok (.iconst 0, 1) := by decide +kernel
theorem dX12_isFull_18 : decode cX12_isFull 18 = .ok (.ireturn, 1) := by decide +kernel
theorem dX12_isWordAt_0 : decode cX12_isWordAt 0 = .ok (.iconst 0, 1) := by decide +kernel
theorem dX12_isWordAt_1 : decode cX12_isWordAt 1 = .ok (.istore_n 2, 1) := by decide +kernel
theorem dX12_isWordAt_2 : decode cX12_isWordAt 2 = .ok (.iconst 0, 1) := by decide +kernel
theorem dX12_isWordAt_3 : decode cX12_isWordAt 3 = .ok (.istore_n 3, 1) := by decide +kernel
theorem dX12_isWordAt_4 : decode cX12_isWordAt 4 = .ok (.iload_n 3, 1) := by decide +kernel
theorem dX12_isWordAt_5 : decode cX12_isWordAt 5 = .ok (.iload_n 1, 1) := by decide +kernel
theorem dX12_isWordAt_6 : decode cX12_isWordAt 6 = .ok (.if_icmp .ge 26, 3) := by decide +kernel
theorem dX12_isWordAt_9 : decode cX12_isWordAt 9 = .ok (.iload_n 3, 1) := by decide +kernel
theorem dX12_isWordAt_10 : decode cX12_isWordAt 10 = .ok (.aload_n 0, 1) := by decide +kernel
theorem dX12_isWordAt_11 : decode cX12_isWordAt 11 = .ok (.getfield 58, 3) := by decide +kernel
theorem dX12_isWordAt_14 : decode cX12_isWordAt 14 = .ok (.iload_n 2, 1) := by decide +kernel
theorem dX12_isWordAt_15 : decode cX12_isWordAt 15 = .ok (.iaload, 1) := by decide +kernel
theorem dX12_isWordAt_16 : decode cX12_isWordAt 16 = .ok (.ifCond .ne 7, 3) := by decide +kernel
theorem dX12_isWordAt_19 : decode cX12_isWordAt 19 = .ok (.iconst 1, 1) := by decide +kernel
theorem dX12_isWordAt_20 : decode cX12_isWordAt 20 = .ok (.goto 4, 3) := by decide +kernel
theorem dX12_isWordAt_23 : decode cX12_isWordAt 23 = .ok (.iconst 0, 1) := by decide +kernel
theorem dX12_isWordAt_24 : decode cX12_isWordAt 24 = .ok (.iadd, 1) := by decide +kernel
theorem dX12_isWordAt_25 : decode cX12_isWordAt 25 = .ok (.istore_n 3, 1) := by decide +kernel
theorem dX12_isWordAt_26 : decode cX12_isWordAt 26 = .ok (.iinc 2 1, 3) := by decide +kernel
theorem dX12_isWordAt_29 : decode cX12_isWordAt 29 = .ok (.goto (-25), 3) := by decide +kernel
theorem dX12_isWordAt_32 : decode cX12_isWordAt 32 = .ok (.aload_n 0, 1) := by decide +kernel
theorem dX12_isWordAt_33 : decode cX12_isWordAt 33 = .ok (.getfield 169, 3) := by decide +kernel
theorem dX12_isWordAt_36 : decode cX12_isWordAt 36 = .ok (.istore_n 3, 1) := by decide +kernel
theorem dX12_isWordAt_37 : decode cX12_isWordAt 37 = .ok (.aload_n 0, 1) := by decide +kernel
theorem dX12_isWordAt_38 : decode cX12_isWordAt 38 = .ok (.getfield 58, 3) := by decide +kernel
theorem dX12_isWordAt_41 : decode cX12_isWordAt 41 = .ok (.iload_n 2, 1) := by decide +kernel
theorem dX12_isWordAt_42 : decode cX12_isWordAt 42 = .ok (.iaload, 1) := by decide +kernel
theorem dX12_isWordAt_43 : decode cX12_isWordAt 43 = .ok (.bipush 32, 2) := by decide +kernel
theorem dX12_isWordAt_45 : decode cX12_isWordAt 45 = .ok (.if_icmp .le 41, 3) := by decide +kernel
theorem dX12_isWordAt_48 : decode cX12_isWordAt 48 = .ok (.iload_n 3, 1) := by decide +kernel
theorem dX12_isWordAt_49 : decode cX12_isWordAt 49 = .ok (.aload_n 0, 1) := by decide +kernel
theorem dX12_isWordAt_50 : decode cX12_isWordAt 50 = .ok (.getfield 172, 3) := by decide +kernel
theorem dX12_isWordAt_53 : decode cX12_isWordAt 53 = .ok (.if_icmp .ge 33, 3) := by decide +kernel
theorem dX12_isWordAt_56 : decode cX12_isWordAt 56 = .ok (.aload_n 0, 1) := by decide +kernel
theorem dX12_isWordAt_57 : decode cX12_isWordAt 57 = .ok (.getfield 48, 3) := by decide +kernel
theorem dX12_isWordAt_60 : decode cX12_isWordAt 60 = .ok (.aload_n 0, 1) := by decide +kernel
theorem dX12_isWordAt_61 : decode cX12_isWordAt 61 = .ok (.getfield 175, 3) := by decide +kernel
theorem dX12_isWordAt_64 : decode cX12_isWordAt 64 = .ok (.iload_n 3, 1) := by decide +kernel
theorem dX12_isWordAt_65 : decode cX12_isWordAt 65 = .ok (.iadd, 1) := by decide +kernel
theorem dX12_isWordAt_66 : decode cX12_isWordAt 66 = .ok (.laload, 1) := by decide +kernel
theorem dX12_isWordAt_67 : decode cX12_isWordAt 67 = .ok (.l2i, 1) := by decide +kernel
theorem dX12_isWordAt_68 : decode cX12_isWordAt 68 = .ok (.aload_n 0, 1) := by decide +kernel
theorem dX12_isWordAt_69 : decode cX12_isWordAt 69 = .ok (.getfield 58, 3) := by decide +kernel
theorem dX12_isWordAt_72 : decode cX12_isWordAt 72 = .ok (.iload_n 2, 1) := by decide +kernel
theorem dX12_isWordAt_73 : decode cX12_isWordAt 73 = .ok (.iaload, 1) := by decide +kernel
theorem dX12_isWordAt_74 : decode cX12_isWordAt 74 = .ok (.if_icmp .ne 12, 3) := by decide +kernel
theorem dX12_isWordAt_77 : decode cX12_isWordAt 77 = .ok (.iinc 3 1, 3) := by decide +kernel
theorem dX12_isWordAt_80 : decode cX12_isWordAt 80 = .ok (.iinc 2 1, 3) := by decide +kernel
theorem dX12_isWordAt_83 : decode cX12_isWordAt 83 = .ok (.goto (-46), 3) := by decide +kernel
theorem dX12_isWordAt_86 : decode cX12_isWordAt 86 = .ok (.aload_n 0, 1) := by decide +kernel
theorem dX12_isWordAt_87 : decode cX12_isWordAt 87 = .ok (.getfield 58, 3) := by decide +kernel
theorem dX12_isWordAt_90 : decode cX12_isWordAt 90 = .ok (.iload_n 2, 1) := by decide +kernel
theorem dX12_isWordAt_91 : decode cX12_isWordAt 91 = .ok (.iaload, 1) := by decide +kernel
theorem dX12_isWordAt_92 : decode cX12_isWordAt 92 = .ok (.bipush 32, 2) := by decide +kernel
theorem dX12_isWordAt_94 : decode cX12_isWordAt 94 = .ok (.if_icmp .gt 7, 3) := by decide +kernel
theorem dX12_isWordAt_97 : decode cX12_isWordAt 97 = .ok (.iconst 1, 1) := by decide +kernel
theorem dX12_isWordAt_98 : decode cX12_isWordAt 98 = .ok (.goto 4, 3) := by decide +kernel
theorem dX12_isWordAt_101 : decode cX12_isWordAt 101 = .ok (.iconst 0, 1) := by decide +kernel
theorem dX12_isWordAt_102 : decode cX12_isWordAt 102 = .ok (.ireturn, 1) := by decide +kernel
theorem dX12_item_0 : decode cX12_item 0 = .ok (.iconst 0, 1) := by decide +kernel
theorem dX12_item_1 : decode cX12_item 1 = .ok (.istore_n 1, 1) := by decide +kernel
theorem dX12_item_2 : decode cX12_item 2 = .ok (.iload_n 1, 1) := by decide +kernel
theorem dX12_item_3 : decode cX12_item 3 = .ok (.iconst 3, 1) := by decide +kernel
theorem dX12_item_4 : decode cX12_item 4 = .ok (.if_icmp .ge 34, 3) := by decide +kernel
theorem dX12_item_7 : decode cX12_item 7 = .ok (.aload_n 0, 1) := by decide +kernel
theorem dX12_item_8 : decode cX12_item 8 = .ok (.iload_n 1, 1) := by decide +kernel
theorem dX12_item_9 : decode cX12_item 9 = .ok (.invokevirtual 188, 3) := by decide +kernel
theorem dX12_item_12 : decode cX12_item 12 = .ok (.ifCond .eq 20, 3) := by decide +kernel
theorem dX12_item_15 : decode cX12_item 15 = .ok (.aload_n 0, 1) := by decide +kernel
theorem dX12_item_16 : decode cX12_item 16 = .ok (.iload_n 1, 1) := by decide +kernel
theorem dX12_item_17 : decode cX12_item 17 = .ok (.invokevirtual 191, 3) := by decide +kernel
theorem dX12_item_20 : decode cX12_item 20 = .ok (.ifCond .eq 12, 3) := by decide +kernel
theorem dX12_item_23 : decode cX12_item 23 = .ok (.aload_n 0, 1) := by decide +kernel
theorem dX12_item_24 : decode cX12_item 24 = .ok (.aload_n 0, 1) := by decide +kernel
theorem dX12_item_25 : decode cX12_item 25 = .ok (.getfield 169, 3) := by decide +kernel
theorem dX12_item_28 : decode cX12_item 28 = .ok (.invokevirtual 185, 3) := by decide +kernel
theorem dX12_item_31 : decode cX12_item 31 = .ok (.ireturn, 1) := by decide +kernel
theorem dX12_item_32 : decode cX12_item 32 = .ok (.iinc 1 1, 3) := by decide +kernel
theorem dX12_item_35 : decode cX12_item 35 = .ok (.goto (-33), 3) := by decide +kernel
theorem dX12_item_38 : decode cX12_item 38 = .ok (.aload_n 0, 1) := by decide +kernel
theorem dX12_item_39 : decode cX12_item 39 = .ok (.getfield 169, 3) := by decide +kernel
theorem dX12_item_42 : decode cX12_item 42 = .ok (.istore_n 1, 1) := by decide +kernel
theorem dX12_item_43 : decode cX12_item 43 = .ok (.aload_n 0, 1) := by decide +kernel
theorem dX12_item_44 : decode cX12_item 44 = .ok (.invokevirtual 194, 3) := by decide +kernel
theorem dX12_item_47 : decode cX12_item 47 = .ok (.istore_n 2, 1) := by decide +kernel
theorem dX12_item_48 : decode cX12_item 48 = .ok (.iload_n 2, 1) := by decide +kernel
theorem dX12_item_49 : decode cX12_item 49 = .ok (.iconst (-1), 1) := by decide +kernel
theorem dX12_item_50 : decode cX12_item 50 = .ok (.if_icmp .ne 5, 3) := by decide +kernel
theorem dX12_item_53 : decode cX12_item 53 = .ok (.iconst 0, 1) := by decide +kernel
theorem dX12_item_54 : decode cX12_item 54 = .ok (.ireturn, 1) := by decide +kernel
theorem dX12_item_55 : decode cX12_item 55 = .ok (.iload_n 2, 1) := by decide +kernel
theorem dX12_item_56 : decode cX12_item 56 = .ok (.ifCond .ne 18, 3) := by decide +kernel
theorem dX12_item_59 : decode cX12_item 59 = .ok (.aload_n 0, 1) := by decide +kernel
theorem dX12_item_60 : decode cX12_item 60 = .ok (.getfield 108, 3) := by decide +kernel
theorem dX12_item_63 : decode cX12_item 63 = .ok (.bipush 8, 2) := by decide +kernel
theorem dX12_item_65 : decode cX12_item 65 = .ok (.if_icmp .ne 9, 3) := by decide +kernel
theorem dX12_item_68 : decode cX12_item 68 = .ok (.aload_n 0, 1) := by decide +kernel
theorem dX12_item_69 : decode cX12_item 69 = .ok (.iload_n 1, 1) := by decide +kernel
theorem dX12_item_70 : decode cX12_item 70 = .ok (.invokevirtual 185, 3) := by decide +kernel
theorem dX12_item_73 : decode cX12_item 73 = .ok (.ireturn, 1) := by decide +kernel
theorem dX12_item_74 : decode cX12_item 74 = .ok (.iload_n 2, 1) := by decide +kernel
theorem dX12_item_75 : decode cX12_item 75 = .ok (.ifCond .ne 7, 3) := by decide +kernel
theorem dX12_item_78 : decode cX12_item 78 = .ok (.iconst 3, 1) := by decide +kernel
theorem dX12_item_79 : decode cX12_item 79 = .ok (.goto 13, 3) := by decide +kernel
theorem dX12_item_82 : decode cX12_item 82 = .ok (.iload_n 2, 1) := by decide +kernel
theorem dX12_item_83 : decode cX12_item 83 = .ok (.iconst 1, 1) := by decide +kernel
theorem dX12_item_84 : decode cX12_item 84 = .ok (.if_icmp .ne 7, 3) := by decide +kernel
theorem dX12_item_87 : decode cX12_item 87 = .ok (.iconst 1, 1) := by decide +kernel
theorem dX12_item_88 : decode cX12_item 88 = .ok (.goto 4, 3) := by decide +kernel
theorem dX12_item_91 : decode cX12_item 91 = .ok (.iconst 2, 1) := by decide +kernel
theorem dX12_item_92 : decode cX12_item 92 = .ok (.istore_n 3, 1) := by decide +kernel
theorem dX12_item_93 : decode cX12_item 93 = .ok (.iconst 0, 1) := by decide +kernel
theorem dX12_item_94 : decode cX12_item 94 = .ok (.istore 4, 2) := by decide +kernel
theorem dX12_item_96 : decode cX12_item 96 = .ok (.iload 4, 2) := by decide +kernel
theorem dX12_item_98 : decode cX12_item 98 = .ok (.iload_n 3, 1) := by decide +kernel
theorem dX12_item_99 : decode cX12_item 99 = .ok (.if_icmp .ge 174, 3) := by decide +kernel
theorem dX12_item_102 : decode cX12_item 102 = .ok (.iload 4, 2) := by decide +kernel
theorem dX12_item_104 : decode cX12_item 104 = .ok (.ifCond .le 53, 3) := by decide +kernel
theorem dX12_item_107 : decode cX12_item 107 = .ok (.aload_n 0, 1) := by decide +kernel
theorem dX12_item_108 : decode cX12_item 108 = .ok (.getfield 169, 3) := by decide +kernel
theorem dX12_item_111 : decode cX12_item 111 = .ok (.aload_n 0, 1) := by decide +kernel
theorem dX12_item_112 : decode cX12_item 112 = .ok (.getfield 172, 3) := by decide +kernel
theorem dX12_item_115 : decode cX12_item 115 = .ok (.if_icmp .ge 23, 3) := by decide +kernel
theorem dX12_item_118 : decode cX12_item 118 = .ok (.aload_n 0, 1) := by decide +kernel
theorem dX12_item_119 : decode cX12_item 119 = .ok (.getfield 48, 3) := by decide +kernel
theorem dX12_item_122 : decode cX12_item 122 = .ok (.aload_n 0, 1) := by decide +kernel
theorem dX12_item_123 : decode cX12_item 123 = .ok (.getfield 175, 3) := by decide +kernel
theorem dX12_item_126 : decode cX12_item 126 = .ok (.aload_n 0, 1) := by decide +kernel
theorem dX12_item_127 : decode cX12_item 127 = .ok (.getfield 169, 3) := by decide +kernel
theorem dX12_item_130 : decode cX12_item 130 = .ok (.iadd, 1) := by decide +kernel
theorem dX12_item_131 : decode cX12_item 131 = .ok (.laload, 1) := by decide +kernel
theorem dX12_item_132 : decode cX12_item 132 = .ok (.l2i, 1) := by decide +kernel
theorem dX12_item_133 : decode cX12_item 133 = .ok (.bipush 32, 2) := by decide +kernel
theorem dX12_item_135 : decode cX12_item 135 = .ok (.if_icmp .eq 12, 3) := by decide +kernel
theorem dX12_item_138 : decode cX12_item 138 = .ok (.aload_n 0, 1) := by decide +kernel
theorem dX12_item_139 : decode cX12_item 139 = .ok (.aload_n 0, 1) := by decide +kernel
theorem dX12_item_140 : decode cX12_item 140 = .ok (.getfield 169, 3) := by decide +kernel
theorem dX12_item_143 : decode cX12_item 143 = .ok (.invokevirtual 185, 3) := by decide +kernel
theorem dX12_item_146 : decode cX12_item 146 = .ok (.ireturn, 1) := by decide +kernel
theorem dX12_item_147 : decode cX12_item 147 = .ok (.aload_n 0, 1) := by decide +kernel
theorem dX12_item_148 : decode cX12_item 148 = .ok (.dup, 1) := by decide +kernel
theorem dX12_item_149 : decode cX12_item 149 = .ok (.getfield 169, 3) := by decide +kernel
theorem dX12_item_152 : decode cX12_item 152 = .ok (.iconst 1, 1) := by decide +kernel
theorem dX12_item_153 : decode cX12_item 153 = .ok (.iadd, 1) := by decide +kernel
theorem dX12_item_154 : decode cX12_item 154 = .ok (.putfield 169, 3) := by decide +kernel
theorem dX12_item_157 : decode cX12_item 157 = .ok (.aload_n 0, 1) := by decide +kernel
theorem dX12_item_158 : decode cX12_item 158 = .ok (.getfield 169, 3) := by decide +kernel
theorem dX12_item_161 : decode cX12_item 161 = .ok (.istore 5, 2) := by decide +kernel
theorem dX12_item_163 : decode cX12_item 163 = .ok (.aload_n 0, 1) := by decide +kernel
theorem dX12_item_164 : decode cX12_item 164 = .ok (.iload_n 2, 1) := by decide +kernel
theorem dX12_item_165 : decode cX12_item 165 = .ok (.ifCond .ne 13, 3) := by decide +kernel
theorem dX12_item_168 : decode cX12_item 168 = .ok (.iload 4, 2) := by decide +kernel
theorem dX12_item_170 : decode cX12_item 170 = .ok (.iconst 2, 1) := by decide +kernel
theorem dX12_item_171 : decode cX12_item 171 = .ok (.if_icmp .ne 7, 3) := by decide +kernel
theorem dX12_item_174 : decode cX12_item 174 = .ok (.iconst 1, 1) := by decide +kernel
theorem dX12_item_175 : decode cX12_item 175 = .ok (.goto 4, 3) := by decide +kernel
theorem dX12_item_178 : decode cX12_item 178 = .ok (.iconst 0, 1) := by decide +kernel
theorem dX12_item_179 : decode cX12_item 179 = .ok (.aload_n 0, 1) := by decide +kernel
theorem dX12_item_180 : decode cX12_item 180 = .ok (.iload_n 2, 1) := by decide +kernel
theorem dX12_item_181 : decode cX12_item 181 = .ok (.iload 4, 2) := by decide +kernel
theorem dX12_item_183 : decode cX12_item 183 = .ok (.invokevirtual 198, 3) := by decide +kernel
theorem dX12_item_186 : decode cX12_item 186 = .ok (.invokevirtual 202, 3) := by decide +kernel
theorem dX12_item_189 : decode cX12_item 189 = .ok (.ifCond .ne 5, 3) := by decide +kernel
theorem dX12_item_192 : decode cX12_item 192 = .ok (.iconst 0, 1) := by decide +kernel
theorem dX12_item_193 : decode cX12_item 193 = .ok (.ireturn, 1) := by decide +kernel
theorem dX12_item_194 : decode cX12_item 194 = .ok (.aload_n 0, 1) := by decide +kernel
theorem dX12_item_195 : decode cX12_item 195 = .ok (.getfield 61, 3) := by decide +kernel
theorem dX12_item_198 : decode cX12_item 198 = .ok (.iload 4, 2) := by decide +kernel
theorem dX12_item_200 : decode cX12_item 200 = .ok (.aload_n 0, 1) := by decide +kernel
theorem dX12_item_201 : decode cX12_item 201 = .ok (.getfield 178, 3) := by decide +kernel
theorem dX12_item_204 : decode cX12_item 204 = .ok (.iastore, 1) := by decide +kernel
theorem dX12_item_205 : decode cX12_item 205 = .ok (.iload_n 2, 1) := by decide +kernel
theorem dX12_item_206 : decode cX12_item 206 = .ok (.iconst 2, 1) := by decide +kernel
theorem dX12_item_207 : decode cX12_item 207 = .ok (.if_icmp .ne 37, 3) := by decide +kernel
theorem dX12_item_210 : decode cX12_item 210 = .ok (.iload 4, 2) := by decide +kernel
theorem dX12_item_212 : decode cX12_item 212 = .ok (.iconst 1, 1) := by decide +kernel
theorem dX12_item_213 : decode cX12_item 213 = .ok (.if_icmp .ne 31, 3) := by decide +kernel
theorem dX12_item_216 : decode cX12_item 216 = .ok (.aload_n 0, 1) := by decide +kernel
theorem dX12_item_217 : decode cX12_item 217 = .ok (.aload_n 0, 1) := by decide +kernel
theorem dX12_item_218 : decode cX12_item 218 = .ok (.getfield 61, 3) := by decide +kernel
theorem dX12_item_221 : decode cX12_item 221 = .ok (.iconst 0, 1) := by decide +kernel
theorem dX12_item_222 : decode cX12_item 222 = .ok (.iaload, 1) := by decide +kernel
theorem dX12_item_223 : decode cX12_item 223 = .ok (.i2l, 1) := by decide +kernel
theorem dX12_item_224 : decode cX12_item 224 = .ok (.aload_n 0, 1) := by decide +kernel
theorem dX12_item_225 : decode cX12_item 225 = .ok (.getfield 61, 3) := by decide +kernel
theorem dX12_item_228 : decode cX12_item 228 = .ok (.iconst 1, 1) := by decide +kernel
theorem dX12_item_229 : decode cX12_item 229 = .ok (.iaload, 1) := by decide +kernel
theorem dX12_item_230 : decode cX12_item 230 = .ok (.i2l, 1) := by decide +kernel
theorem dX12_item_231 : decode cX12_item 231 = .ok (.invokevirtual 143, 3) := by decide +kernel
theorem dX12_item_234 : decode cX12_item 234 = .ok (.ifCond .ne 10, 3) := by decide +kernel
theorem dX12_item_237 : decode cX12_item 237 = .ok (.aload_n 0, 1) := by decide +kernel
theorem dX12_item_238 : decode cX12_item 238 = .ok (.iload 5, 2) := by decide +kernel
theorem dX12_item_240 : decode cX12_item 240 = .ok (.invokevirtual 185, 3) := by decide +kernel
theorem dX12_item_243 : decode cX12_item 243 = .ok (.ireturn, 1) := by decide +kernel
theorem dX12_item_244 : decode cX12_item 244 = .ok (.iload_n 2, 1) := by decide +kernel
theorem dX12_item_245 : decode cX12_item 245 = .ok (.iconst 1, 1) := by decide +kernel
theorem dX12_item_246 : decode cX12_item 246 = .ok (.if_icmp .ne 21, 3) := by decide +kernel
theorem dX12_item_249 : decode cX12_item 249 = .ok (.aload_n 0, 1) := by decide +kernel
theorem dX12_item_250 : decode cX12_item 250 = .ok (.aload_n 0, 1) := by decide +kernel
theorem dX12_item_251 : decode cX12_item 251 = .ok (.getfield 178, 3) := by decide +kernel
theorem dX12_item_254 : decode cX12_item 254 = .ok (.invokevirtual 206, 3) := by decide +kernel
theorem dX12_item_257 : decode cX12_item 257 = .ok (.ifCond .ne 10, 3) := by decide +kernel
theorem dX12_item_260 : decode cX12_item 260 = .ok (.aload_n 0, 1) := by decide +kernel
theorem dX12_item_261 : decode cX12_item 261 = .ok (.iload 5, 2) := by decide +kernel
theorem dX12_item_263 : decode cX12_item 263 = .ok (.invokevirtual 185, 3) := by decide +kernel
theorem dX12_item_266 : decode cX12_item 266 = .ok (.ireturn, 1) := by decide +kernel
theorem dX12_item_267 : decode cX12_item 267 = .ok (.iinc 4 1, 3) := by decide +kernel
theorem dX12_item_270 : decode cX12_item 270 = .ok (.goto (-174), 3) := by decide +kernel
theorem dX12_item_273 : decode cX12_item 273 = .ok (.iload_n 2, 1) := by decide +kernel
theorem dX12_item_274 : decode cX12_item 274 = .ok (.ifCond .ne 26, 3) := by decide +kernel
theorem dX12_item_277 : decode cX12_item 277 = .ok (.aload_n 0, 1) := by decide +kernel
theorem dX12_item_278 : decode cX12_item 278 = .ok (.aload_n 0, 1) := by decide +kernel
theorem dX12_item_279 : decode cX12_item 279 = .ok (.getfield 61, 3) := by decide +kernel
theorem dX12_item_282 : decode cX12_item 282 = .ok (.iconst 0, 1) := by decide +kernel
theorem dX12_item_283 : decode cX12_item 283 = .ok (.iaload, 1) := by decide +kernel
theorem dX12_item_284 : decode cX12_item 284 = .ok (.aload_n 0, 1) := by decide +kernel
theorem dX12_item_285 : decode cX12_item 285 = .ok (.getfield 61, 3) := by decide +kernel
theorem dX12_item_288 : decode cX12_item 288 = .ok (.iconst 1, 1) := by decide +kernel
theorem dX12_item_289 : decode cX12_item 289 = .ok (.iaload, 1) := by decide +kernel
theorem dX12_item_290 : decode cX12_item 290 = .ok (.aload_n 0, 1) := by decide +kernel
theorem dX12_item_291 : decode cX12_item 291 = .ok (.getfield 61, 3) := by decide +kernel
theorem dX12_item_294 : decode cX12_item 294 = .ok (.iconst 2, 1) := by decide +kernel
theorem dX12_item_295 : decode cX12_item 295 = .ok (.iaload, 1) := by decide +kernel
theorem dX12_item_296 : decode cX12_item 296 = .ok (.invokevirtual 131, 3) := by decide +kernel
theorem dX12_item_299 : decode cX12_item 299 = .ok (.pop, 1) := by decide +kernel
theorem dX12_item_300 : decode cX12_item 300 = .ok (.iload_n 2, 1) := by decide +kernel
theorem dX12_item_301 : decode cX12_item 301 = .ok (.iconst 2, 1) := by decide +kernel
theorem dX12_item_302 : decode cX12_item 302 = .ok (.if_icmp .ne 25, 3) := by decide +kernel
theorem dX12_item_305 : decode cX12_item 305 = .ok (.aload_n 0, 1) := by decide +kernel
theorem dX12_item_306 : decode cX12_item 306 = .ok (.aload_n 0, 1) := by decide +kernel
theorem dX12_item_307 : decode cX12_item 307 = .ok (.getfield 61, 3) := by decide +kernel
theorem dX12_item_310 : decode cX12_item 310 = .ok (.iconst 0, 1) := by decide +kernel
theorem dX12_item_311 : decode cX12_item 311 = .ok (.iaload, 1) := by decide +kernel
theorem dX12_item_312 : decode cX12_item 312 = .ok (.i2l, 1) := by decide +kernel
theorem dX12_item_313 : decode cX12_item 313 = .ok (.putfield 147, 3) := by decide +kernel
theorem dX12_item_316 : decode cX12_item 316 = .ok (.aload_n 0, 1) := by decide +kernel
theorem dX12_item_317 : decode cX12_item 317 = .ok (.aload_n 0, 1) := by decide +kernel
theorem dX12_item_318 : decode cX12_item 318 = .ok (.getfield 61, 3) := by decide +kernel
theorem dX12_item_321 : decode cX12_item 321 = .ok (.iconst 1, 1) := by decide +kernel
theorem dX12_item_322 : decode cX12_item 322 = .ok (.iaload, 1) := by decide +kernel
theorem dX12_item_323 : decode cX12_item 323 = .ok (.i2l, 1) := by decide +kernel
theorem dX12_item_324 : decode cX12_item 324 = .ok (.putfield 16, 3) := by decide +kernel
theorem dX12_item_327 : decode cX12_item 327 = .ok (.iconst 1, 1) := by decide +kernel
theorem dX12_item_328 : decode cX12_item 328 = .ok (.ireturn, 1) := by decide +kernel
theorem dX12_keeps_0 : decode cX12_keeps 0 = .ok (.iconst 0, 1) := by decide +kernel
theorem dX12_keeps_1 : decode cX12_keeps 1 = .ok (.istore 6, 2) := by decide +kernel
theorem dX12_keeps_3 : decode cX12_keeps 3 = .ok (.iload 6, 2) := by decide +kernel
theorem dX12_keeps_5 : decode cX12_keeps 5 = .ok (.iload_n 2, 1) := by decide +kernel
theorem dX12_keeps_6 : decode cX12_keeps 6 = .ok (.if_icmp .ge 39, 3) := by decide +kernel
theorem dX12_keeps_9 : decode cX12_keeps 9 = .ok (.iload 5, 2) := by decide +kernel
theorem dX12_keeps_11 : decode cX12_keeps 11 = .ok (.ifCond .eq 17, 3) := by decide +kernel
theorem dX12_keeps_14 : decode cX12_keeps 14 = .ok (.aload_n 1, 1) := by decide +kernel
theorem dX12_keeps_15 : decode cX12_keeps 15 = .ok (.iload 6, 2) := by decide +kernel
theorem dX12_keeps_17 : decode cX12_keeps 17 = .ok (.aload_n 3, 1) := by decide +kernel
theorem dX12_keeps_18 : decode cX12_keeps 18 = .ok (.iload 4, 2) := by decide +kernel
theorem dX12_keeps_20 : decode cX12_keeps 20 = .ok (.iload 6, 2) := by decide +kernel
theorem dX12_keeps_22 : decode cX12_keeps 22 = .ok (.iadd, 1) := by decide +kernel
theorem dX12_keeps_23 : decode cX12_keeps 23 = .ok (.iaload, 1) := by decide +kernel
theorem dX12_keeps_24 : decode cX12_keeps 24 = .ok (.iastore, 1) := by decide +kernel
theorem dX12_keeps_25 : decode cX12_keeps 25 = .ok (.goto 14, 3) := by decide +kernel
theorem dX12_keeps_28 : decode cX12_keeps 28 = .ok (.aload_n 3, 1) := by decide +kernel
theorem dX12_keeps_29 : decode cX12_keeps 29 = .ok (.iload 4, 2) := by decide +kernel
theorem dX12_keeps_31 : decode cX12_keeps 31 = .ok (.iload 6, 2) := by decide +kernel
theorem dX12_keeps_33 : decode cX12_keeps 33 = .ok (.iadd, 1) := by decide +kernel
theorem dX12_keeps_34 : decode cX12_keeps 34 = .ok (.aload_n 1, 1) := by decide +kernel
theorem dX12_keeps_35 : decode cX12_keeps 35 = .ok (.iload 6, 2) := by decide +kernel
theorem dX12_keeps_37 : decode cX12_keeps 37 = .ok (.iaload, 1) := by decide +kernel
theorem dX12_keeps_38 : decode cX12_keeps 38 = .ok (.iastore, 1) := by decide +kernel
theorem dX12_keeps_39 : decode cX12_keeps 39 = .ok (.iinc 6 1, 3) := by decide +kernel
theorem dX12_keeps_42 : decode cX12_keeps 42 = .ok (.goto (-39), 3) := by decide +kernel
theorem dX12_keeps_45 : decode cX12_keeps 45 = .ok (.iload 4, 2) := by decide +kernel
theorem dX12_keeps_47 : decode cX12_keeps 47 = .ok (.iload_n 2, 1) := by decide +kernel
theorem dX12_keeps_48 : decode cX12_keeps 48 = .ok (.iadd, 1) := by decide +kernel
theorem dX12_keeps_49 : decode cX12_keeps 49 = .ok (.ireturn, 1) := by decide +kernel
theorem dX12_all_0 : decode cX12_all 0 = .ok (.aload_n 0, 1) := by decide +kernel
theorem dX12_all_1 : decode cX12_all 1 = .ok (.aload_n 0, 1) := by decide +kernel
theorem dX12_all_2 : decode cX12_all 2 = .ok (.getfield 24, 3) := by decide +kernel
theorem dX12_all_5 : decode cX12_all 5 = .ok (.bipush 8, 2) := by decide +kernel
theorem dX12_all_7 : decode cX12_all 7 = .ok (.aload_n 1, 1) := by decide +kernel
theorem dX12_all_8 : decode cX12_all 8 = .ok (.iconst 0, 1) := by decide +kernel
theorem dX12_all_9 : decode cX12_all 9 = .ok (.iload_n 3, 1) := by decide +kernel
theorem dX12_all_10 : decode cX12_all 10 = .ok (.invokevirtual 209, 3) := by decide +kernel
theorem dX12_all_13 : decode cX12_all 13 = .ok (.istore 4, 2) := by decide +kernel
theorem dX12_all_15 : decode cX12_all 15 = .ok (.aload_n 0, 1) := by decide +kernel
theorem dX12_all_16 : decode cX12_all 16 = .ok (.aload_n 0, 1) := by decide +kernel
theorem dX12_all_17 : decode cX12_all 17 = .ok (.getfield 27, 3) := by decide +kernel
theorem dX12_all_20 : decode cX12_all 20 = .ok (.bipush 8, 2) := by decide +kernel
theorem dX12_all_22 : decode cX12_all 22 = .ok (.aload_n 1, 1) := by decide +kernel
theorem dX12_all_23 : decode cX12_all 23 = .ok (.iload 4, 2) := by decide +kernel
theorem dX12_all_25 : decode cX12_all 25 = .ok (.iload_n 3, 1) := by decide +kernel
theorem dX12_all_26 : decode cX12_all 26 = .ok (.invokevirtual 209, 3) := by decide +kernel
theorem dX12_all_29 : decode cX12_all 29 = .ok (.istore 4, 2) := by decide +kernel
theorem dX12_all_31 : decode cX12_all 31 = .ok (.aload_n 0, 1) := by decide +kernel
theorem dX12_all_32 : decode cX12_all 32 = .ok (.aload_n 0, 1) := by decide +kernel
theorem dX12_all_33 : decode cX12_all 33 = .ok (.getfield 30, 3) := by decide +kernel
theorem dX12_all_36 : decode cX12_all 36 = .ok (.bipush 8, 2) := by decide +kernel
theorem dX12_all_38 : decode cX12_all 38 = .ok (.aload_n 1, 1) := by decide +kernel
theorem dX12_all_39 : decode cX12_all 39 = .ok (.iload 4, 2) := by decide +kernel
theorem dX12_all_41 : decode cX12_all 41 = .ok (.iload_n 3, 1) := by decide +kernel
theorem dX12_all_42 : decode cX12_all 42 = .ok (.invokevirtual 209, 3) := by decide +kernel
theorem dX12_all_45 : decode cX12_all 45 = .ok (.istore 4, 2) := by decide +kernel
theorem dX12_all_47 : decode cX12_all 47 = .ok (.aload_n 0, 1) := by decide +kernel
theorem dX12_all_48 : decode cX12_all 48 = .ok (.aload_n 0, 1) := by decide +kernel
theorem dX12_all_49 : decode cX12_all 49 = .ok (.getfield 33, 3) := by decide +kernel
theorem dX12_all_52 : decode cX12_all 52 = .ok (.iconst 4, 1) := by decide +kernel
theorem dX12_all_53 : decode cX12_all 53 = .ok (.aload_n 1, 1) := by decide +kernel
theorem dX12_all_54 : decode cX12_all 54 = .ok (.iload 4, 2) := by decide +kernel
theorem dX12_all_56 : decode cX12_all 56 = .ok (.iload_n 3, 1) := by decide +kernel
theorem dX12_all_57 : decode cX12_all 57 = .ok (.invokevirtual 209, 3) := by decide +kernel
theorem dX12_all_60 : decode cX12_all 60 = .ok (.istore 4, 2) := by decide +kernel
theorem dX12_all_62 : decode cX12_all 62 = .ok (.iload_n 3, 1) := by decide +kernel
theorem dX12_all_63 : decode cX12_all 63 = .ok (.ifCond .eq 58, 3) := by decide +kernel
theorem dX12_all_66 : decode cX12_all 66 = .ok (.aload_n 0, 1) := by decide +kernel
theorem dX12_all_67 : decode cX12_all 67 = .ok (.aload_n 1, 1) := by decide +kernel
theorem dX12_all_68 : decode cX12_all 68 = .ok (.iload 4, 2) := by decide +kernel
theorem dX12_all_70 : decode cX12_all 70 = .ok (.iaload, 1) := by decide +kernel
theorem dX12_all_71 : decode cX12_all 71 = .ok (.putfield 108, 3) := by decide +kernel
theorem dX12_all_74 : decode cX12_all 74 = .ok (.aload_n 0, 1) := by decide +kernel
theorem dX12_all_75 : decode cX12_all 75 = .ok (.aload_n 1, 1) := by decide +kernel
theorem dX12_all_76 : decode cX12_all 76 = .ok (.iload 4, 2) := by decide +kernel
theorem dX12_all_78 : decode cX12_all 78 = .ok (.iconst 1, 1) := by decide +kernel
theorem dX12_all_79 : decode cX12_all 79 = .ok (.iadd, 1) := by decide +kernel
theorem dX12_all_80 : decode cX12_all 80 = .ok (.iaload, 1) := by decide +kernel
theorem dX12_all_81 : decode cX12_all 81 = .ok (.putfield 213, 3) := by decide +kernel
theorem dX12_all_84 : decode cX12_all 84 = .ok (.aload_n 0, 1) := by decide +kernel
theorem dX12_all_85 : decode cX12_all 85 = .ok (.aload_n 1, 1) := by decide +kernel
theorem dX12_all_86 : decode cX12_all 86 = .ok (.iload 4, 2) := by decide +kernel
theorem dX12_all_88 : decode cX12_all 88 = .ok (.iconst 2, 1) := by decide +kernel
theorem dX12_all_89 : decode cX12_all 89 = .ok (.iadd, 1) := by decide +kernel
theorem dX12_all_90 : decode cX12_all 90 = .ok (.iaload, 1) := by decide +kernel
theorem dX12_all_91 : decode cX12_all 91 = .ok (.putfield 216, 3) := by decide +kernel
theorem dX12_all_94 : decode cX12_all 94 = .ok (.aload_n 0, 1) := by decide +kernel
theorem dX12_all_95 : decode cX12_all 95 = .ok (.aload_n 1, 1) := by decide +kernel
theorem dX12_all_96 : decode cX12_all 96 = .ok (.iload 4, 2) := by decide +kernel
theorem dX12_all_98 : decode cX12_all 98 = .ok (.iconst 3, 1) := by decide +kernel
theorem dX12_all_99 : decode cX12_all 99 = .ok (.iadd, 1) := by decide +kernel
theorem dX12_all_100 : decode cX12_all 100 = .ok (.iaload, 1) := by decide +kernel
theorem dX12_all_101 : decode cX12_all 101 = .ok (.putfield 7, 3) := by decide +kernel
theorem dX12_all_104 : decode cX12_all 104 = .ok (.aload_n 0, 1) := by decide +kernel
theorem dX12_all_105 : decode cX12_all 105 = .ok (.aload_n 2, 1) := by decide +kernel
theorem dX12_all_106 : decode cX12_all 106 = .ok (.iconst 0, 1) := by decide +kernel
theorem dX12_all_107 : decode cX12_all 107 = .ok (.laload, 1) := by decide +kernel
theorem dX12_all_108 : decode cX12_all 108 = .ok (.putfield 147, 3) := by decide +kernel
theorem dX12_all_111 : decode cX12_all 111 = .ok (.aload_n 0, 1) := by decide +kernel
theorem dX12_all_112 : decode cX12_all 112 = .ok (.aload_n 2, 1) := by decide +kernel
theorem dX12_all_113 : decode cX12_all 113 = .ok (.iconst 1, 1) := by decide +kernel
theorem dX12_all_114 : decode cX12_all 114 = .ok (.laload, 1) := by decide +kernel
theorem dX12_all_115 : decode cX12_all 115 = .ok (.putfield 16, 3) := by decide +kernel
theorem dX12_all_118 : decode cX12_all 118 = .ok (.goto 55, 3) := by decide +kernel
theorem dX12_all_121 : decode cX12_all 121 = .ok (.aload_n 1, 1) := by decide +kernel
theorem dX12_all_122 : decode cX12_all 122 = .ok (.iload 4, 2) := by decide +kernel
theorem dX12_all_124 : decode cX12_all 124 = .ok (.aload_n 0, 1) := by decide +kernel
theorem dX12_all_125 : decode cX12_all 125 = .ok (.getfield 108, 3) := by decide +kernel
theorem dX12_all_128 : decode cX12_all 128 = .ok (.iastore, 1) := by decide +kernel
theorem dX12_all_129 : decode cX12_all 129 = .ok (.aload_n 1, 1) := by decide +kernel
theorem dX12_all_130 : decode cX12_all 130 = .ok (.iload 4, 2) := by decide +kernel
theorem dX12_all_132 : decode cX12_all 132 = .ok (.iconst 1, 1) := by decide +kernel
theorem dX12_all_133 : decode cX12_all 133 = .ok (.iadd, 1) := by decide +kernel
theorem dX12_all_134 : decode cX12_all 134 = .ok (.aload_n 0, 1) := by decide +kernel
theorem dX12_all_135 : decode cX12_all 135 = .ok (.getfield 213, 3) := by decide +kernel
theorem dX12_all_138 : decode cX12_all 138 = .ok (.iastore, 1) := by decide +kernel
theorem dX12_all_139 : decode cX12_all 139 = .ok (.aload_n 1, 1) := by decide +kernel
theorem dX12_all_140 : decode cX12_all 140 = .ok (.iload 4, 2) := by decide +kernel
theorem dX12_all_142 : decode cX12_all 142 = .ok (.iconst 2, 1) := by decide +kernel
theorem dX12_all_143 : decode cX12_all 143 = .ok (.iadd, 1) := by decide +kernel
theorem dX12_all_144 : decode cX12_all 144 = .ok (.aload_n 0, 1) := by decide +kernel
theorem dX12_all_145 : decode cX12_all 145 = .ok (.getfield 216, 3) := by decide +kernel
theorem dX12_all_148 : decode cX12_all 148 = .ok (.iastore, 1) := by decide +kernel
theorem dX12_all_149 : decode cX12_all 149 = .ok (.aload_n 1, 1) := by decide +kernel
theorem dX12_all_150 : decode cX12_all 150 = .ok (.iload 4, 2) := by decide +kernel
theorem dX12_all_152 : decode cX12_all 152 = .ok (.iconst 3, 1) := by decide +kernel
theorem dX12_all_153 : decode cX12_all 153 = .ok (.iadd, 1) := by decide +kernel
theorem dX12_all_154 : decode cX12_all 154 = .ok (.aload_n 0, 1) := by decide +kernel
theorem dX12_all_155 : decode cX12_all 155 = .ok (.getfield 7, 3) := by decide +kernel
theorem dX12_all_158 : decode cX12_all 158 = .ok (.iastore, 1) := by decide +kernel
theorem dX12_all_159 : decode cX12_all 159 = .ok (.aload_n 2, 1) := by decide +kernel
theorem dX12_all_160 : decode cX12_all 160 = .ok (.iconst 0, 1) := by decide +kernel
theorem dX12_all_161 : decode cX12_all 161 = .ok (.aload_n 0, 1) := by decide +kernel
theorem dX12_all_162 : decode cX12_all 162 = .ok (.getfield 147, 3) := by decide +kernel
theorem dX12_all_165 : decode cX12_all 165 = .ok (.lastore, 1) := by decide +kernel
theorem dX12_all_166 : decode cX12_all 166 = .ok (.aload_n 2, 1) := by decide +kernel
theorem dX12_all_167 : decode cX12_all 167 = .ok (.iconst 1, 1) := by decide +kernel
theorem dX12_all_168 : decode cX12_all 168 = .ok (.aload_n 0, 1) := by decide +kernel
theorem dX12_all_169 : decode cX12_all 169 = .ok (.getfield 16, 3) := by decide +kernel
theorem dX12_all_172 : decode cX12_all 172 = .ok (.lastore, 1) := by decide +kernel
theorem dX12_all_173 : decode cX12_all 173 = .ok (.return_, 1) := by decide +kernel
theorem dX12_barn_0 : decode cX12_barn 0 = .ok (.aload_n 0, 1) := by decide +kernel
theorem dX12_barn_1 : decode cX12_barn 1 = .ok (.iload_n 1, 1) := by decide +kernel
theorem dX12_barn_2 : decode cX12_barn 2 = .ok (.invokevirtual 128, 3) := by decide +kernel
theorem dX12_barn_5 : decode cX12_barn 5 = .ok (.istore_n 2, 1) := by decide +kernel
theorem dX12_barn_6 : decode cX12_barn 6 = .ok (.iload_n 2, 1) := by decide +kernel
theorem dX12_barn_7 : decode cX12_barn 7 = .ok (.ifCond .eq 9, 3) := by decide +kernel
theorem dX12_barn_10 : decode cX12_barn 10 = .ok (.aload_n 0, 1) := by decide +kernel
theorem dX12_barn_11 : decode cX12_barn 11 = .ok (.iload_n 2, 1) := by decide +kernel
theorem dX12_barn_12 : decode cX12_barn 12 = .ok (.invokevirtual 115, 3) := by decide +kernel
theorem dX12_barn_15 : decode cX12_barn 15 = .ok (.ireturn, 1) := by decide +kernel
theorem dX12_barn_16 : decode cX12_barn 16 = .ok (.aload_n 0, 1) := by decide +kernel
theorem dX12_barn_17 : decode cX12_barn 17 = .ok (.aload_n 0, 1) := by decide +kernel
theorem dX12_barn_18 : decode cX12_barn 18 = .ok (.getfield 64, 3) := by decide +kernel
theorem dX12_barn_21 : decode cX12_barn 21 = .ok (.aload_n 0, 1) := by decide +kernel
theorem dX12_barn_22 : decode cX12_barn 22 = .ok (.getfield 70, 3) := by decide +kernel
theorem dX12_barn_25 : decode cX12_barn 25 = .ok (.iconst 0, 1) := by decide +kernel
theorem dX12_barn_26 : decode cX12_barn 26 = .ok (.invokevirtual 219, 3) := by decide +kernel
theorem dX12_barn_29 : decode cX12_barn 29 = .ok (.aload_n 0, 1) := by decide +kernel
theorem dX12_barn_30 : decode cX12_barn 30 = .ok (.sipush 160, 3) := by decide +kernel
theorem dX12_barn_33 : decode cX12_barn 33 = .ok (.iload_n 1, 1) := by decide +kernel
theorem dX12_barn_34 : decode cX12_barn 34 = .ok (.imul, 1) := by decide +kernel
theorem dX12_barn_35 : decode cX12_barn 35 = .ok (.putfield 175, 3) := by decide +kernel
theorem dX12_barn_38 : decode cX12_barn 38 = .ok (.aload_n 0, 1) := by decide +kernel
theorem dX12_barn_39 : decode cX12_barn 39 = .ok (.iconst 0, 1) := by decide +kernel
theorem dX12_barn_40 : decode cX12_barn 40 = .ok (.putfield 169, 3) := by decide +kernel
theorem dX12_barn_43 : decode cX12_barn 43 = .ok (.aload_n 0, 1) := by decide +kernel
theorem dX12_barn_44 : decode cX12_barn 44 = .ok (.aload_n 0, 1) := by decide +kernel
theorem dX12_barn_45 : decode cX12_barn 45 = .ok (.getfield 42, 3) := by decide +kernel
theorem dX12_barn_48 : decode cX12_barn 48 = .ok (.iload_n 1, 1) := by decide +kernel
theorem dX12_barn_49 : decode cX12_barn 49 = .ok (.iaload, 1) := by decide +kernel
theorem dX12_barn_50 : decode cX12_barn 50 = .ok (.putfield 172, 3) := by decide +kernel
theorem dX12_barn_53 : decode cX12_barn 53 = .ok (.aload_n 0, 1) := by decide +kernel
theorem dX12_barn_54 : decode cX12_barn 54 = .ok (.iconst (-1), 1) := by decide +kernel
theorem dX12_barn_55 : decode cX12_barn 55 = .ok (.putfield 13, 3) := by decide +kernel
theorem dX12_barn_58 : decode cX12_barn 58 = .ok (.iconst 1, 1) := by decide +kernel
theorem dX12_barn_59 : decode cX12_barn 59 = .ok (.istore_n 3, 1) := by decide +kernel
theorem dX12_barn_60 : decode cX12_barn 60 = .ok (.aload_n 0, 1) := by decide +kernel
theorem dX12_barn_61 : decode cX12_barn 61 = .ok (.invokevirtual 223, 3) := by decide +kernel
theorem dX12_barn_64 : decode cX12_barn 64 = .ok (.istore 4, 2) := by decide +kernel
theorem dX12_barn_66 : decode cX12_barn 66 = .ok (.iload 4, 2) := by decide +kernel
theorem dX12_barn_68 : decode cX12_barn 68 = .ok (.ifCond .eq 69, 3) := by decide +kernel
theorem dX12_barn_71 : decode cX12_barn 71 = .ok (.aload_n 0, 1) := by decide +kernel
theorem dX12_barn_72 : decode cX12_barn 72 = .ok (.getfield 169, 3) := by decide +kernel
theorem dX12_barn_75 : decode cX12_barn 75 = .ok (.aload_n 0, 1) := by decide +kernel
theorem dX12_barn_76 : decode cX12_barn 76 = .ok (.getfield 172, 3) := by decide +kernel
theorem dX12_barn_79 : decode cX12_barn 79 = .ok (.if_icmp .ge 58, 3) := by decide +kernel
theorem dX12_barn_82 : decode cX12_barn 82 = .ok (.aload_n 0, 1) := by decide +kernel
theorem dX12_barn_83 : decode cX12_barn 83 = .ok (.getfield 48, 3) := by decide +kernel
theorem dX12_barn_86 : decode cX12_barn 86 = .ok (.aload_n 0, 1) := by decide +kernel
theorem dX12_barn_87 : decode cX12_barn 87 = .ok (.getfield 175, 3) := by decide +kernel
theorem dX12_barn_90 : decode cX12_barn 90 = .ok (.aload_n 0, 1) := by decide +kernel
theorem dX12_barn_91 : decode cX12_barn 91 = .ok (.getfield 169, 3) := by decide +kernel
theorem dX12_barn_94 : decode cX12_barn 94 = .ok (.iadd, 1) := by decide +kernel
theorem dX12_barn_95 : decode cX12_barn 95 = .ok (.laload, 1) := by decide +kernel
theorem dX12_barn_96 : decode cX12_barn 96 = .ok (.l2i, 1) := by decide +kernel
theorem dX12_barn_97 : decode cX12_barn 97 = .ok (.bipush 59, 2) := by decide +kernel
theorem dX12_barn_99 : decode cX12_barn 99 = .ok (.if_icmp .eq 16, 3) := by decide +kernel
theorem dX12_barn_102 : decode cX12_barn 102 = .ok (.aload_n 0, 1) := by decide +kernel
theorem dX12_barn_103 : decode cX12_barn 103 = .ok (.aload_n 0, 1) := by decide +kernel
theorem dX12_barn_104 : decode cX12_barn 104 = .ok (.getfield 169, 3) := by decide +kernel
theorem dX12_barn_107 : decode cX12_barn 107 = .ok (.invokevirtual 185, 3) := by decide +kernel
theorem dX12_barn_110 : decode cX12_barn 110 = .ok (.istore 4, 2) := by decide +kernel
theorem dX12_barn_112 : decode cX12_barn 112 = .ok (.goto (-46), 3) := by decide +kernel
theorem dX12_barn_115 : decode cX12_barn 115 = .ok (.aload_n 0, 1) := by decide +kernel
theorem dX12_barn_116 : decode cX12_barn 116 = .ok (.dup, 1) := by decide +kernel
theorem dX12_barn_117 : decode cX12_barn 117 = .ok (.getfield 169, 3) := by decide +kernel
theorem dX12_barn_120 : decode cX12_barn 120 = .ok (.iconst 1, 1) := by decide +kernel
theorem dX12_barn_121 : decode cX12_barn 121 = .ok (.iadd, 1) := by decide +kernel
theorem dX12_barn_122 : decode cX12_barn 122 = .ok (.putfield 169, 3) := by decide +kernel
theorem dX12_barn_125 : decode cX12_barn 125 = .ok (.iinc 3 1, 3) := by decide +kernel
theorem dX12_barn_128 : decode cX12_barn 128 = .ok (.aload_n 0, 1) := by decide +kernel
theorem dX12_barn_129 : decode cX12_barn 129 = .ok (.invokevirtual 223, 3) := by decide +kernel
theorem dX12_barn_132 : decode cX12_barn 132 = .ok (.istore 4, 2) := by decide +kernel
theorem dX12_barn_134 : decode cX12_barn 134 = .ok (.goto (-68), 3) := by decide +kernel
theorem dX12_barn_137 : decode cX12_barn 137 = .ok (.iload 4, 2) := by decide +kernel
theorem dX12_barn_139 : decode cX12_barn 139 = .ok (.ifCond .eq 5, 3) := by decide +kernel
theorem dX12_barn_142 : decode cX12_barn 142 = .ok (.iload_n 3, 1) := by decide +kernel
theorem dX12_barn_143 : decode cX12_barn 143 = .ok (.ireturn, 1) := by decide +kernel
theorem dX12_barn_144 : decode cX12_barn 144 = .ok (.aload_n 0, 1) := by decide +kernel
theorem dX12_barn_145 : decode cX12_barn 145 = .ok (.aload_n 0, 1) := by decide +kernel
theorem dX12_barn_146 : decode cX12_barn 146 = .ok (.getfield 64, 3) := by decide +kernel
theorem dX12_barn_149 : decode cX12_barn 149 = .ok (.aload_n 0, 1) := by decide +kernel
theorem dX12_barn_150 : decode cX12_barn 150 = .ok (.getfield 70, 3) := by decide +kernel
theorem dX12_barn_153 : decode cX12_barn 153 = .ok (.iconst 1, 1) := by decide +kernel
theorem dX12_barn_154 : decode cX12_barn 154 = .ok (.invokevirtual 219, 3) := by decide +kernel
theorem dX12_barn_157 : decode cX12_barn 157 = .ok (.aload_n 0, 1) := by decide +kernel
theorem dX12_barn_158 : decode cX12_barn 158 = .ok (.aload_n 0, 1) := by decide +kernel
theorem dX12_barn_159 : decode cX12_barn 159 = .ok (.getfield 166, 3) := by decide +kernel
theorem dX12_barn_162 : decode cX12_barn 162 = .ok (.putfield 13, 3) := by decide +kernel
theorem dX12_barn_165 : decode cX12_barn 165 = .ok (.aload_n 0, 1) := by decide +kernel
theorem dX12_barn_166 : decode cX12_barn 166 = .ok (.bipush (-6), 2) := by decide +kernel
theorem dX12_barn_168 : decode cX12_barn 168 = .ok (.invokevirtual 115, 3) := by decide +kernel
theorem dX12_barn_171 : decode cX12_barn 171 = .ok (.ireturn, 1) := by decide +kernel
theorem dX12_fault_0 : decode cX12_fault 0 = .ok (.aload_n 0, 1) := by decide +kernel
theorem dX12_fault_1 : decode cX12_fault 1 = .ok (.getfield 13, 3) := by decide +kernel
theorem dX12_fault_4 : decode cX12_fault 4 = .ok (.ireturn, 1) := by decide +kernel
theorem dX12_now_0 : decode cX12_now 0 = .ok (.iload_n 1, 1) := by decide +kernel
theorem dX12_now_1 : decode cX12_now 1 = .ok (.ifCond .lt 8, 3) := by decide +kernel
theorem dX12_now_4 : decode cX12_now 4 = .ok (.iload_n 1, 1) := by decide +kernel
theorem dX12_now_5 : decode cX12_now 5 = .ok (.iconst 1, 1) := by decide +kernel
theorem dX12_now_6 : decode cX12_now 6 = .ok (.if_icmp .le 10, 3) := by decide +kernel
theorem dX12_now_9 : decode cX12_now 9 = .ok (.aload_n 0, 1) := by decide +kernel
theorem dX12_now_10 : decode cX12_now 10 = .ok (.bipush (-5), 2) := by decide +kernel
theorem dX12_now_12 : decode cX12_now 12 = .ok (.invokevirtual 226, 3) := by decide +kernel
theorem dX12_now_15 : decode cX12_now 15 = .ok (.lreturn, 1) := by decide +kernel
theorem dX12_now_16 : decode cX12_now 16 = .ok (.iload_n 1, 1) := by decide +kernel
theorem dX12_now_17 : decode cX12_now 17 = .ok (.ifCond .ne 10, 3) := by decide +kernel
theorem dX12_now_20 : decode cX12_now 20 = .ok (.aload_n 0, 1) := by decide +kernel
theorem dX12_now_21 : decode cX12_now 21 = .ok (.getfield 147, 3) := by decide +kernel
theorem dX12_now_24 : decode cX12_now 24 = .ok (.goto 7, 3) := by decide +kernel
theorem dX12_now_27 : decode cX12_now 27 = .ok (.aload_n 0, 1) := by decide +kernel
theorem dX12_now_28 : decode cX12_now 28 = .ok (.getfield 16, 3) := by decide +kernel
theorem dX12_now_31 : decode cX12_now 31 = .ok (.lreturn, 1) := by decide +kernel
theorem dX12_stand_0 : decode cX12_stand 0 = .ok (.iload_n 1, 1) := by decide +kernel
theorem dX12_stand_1 : decode cX12_stand 1 = .ok (.ifCond .lt 17, 3) := by decide +kernel
theorem dX12_stand_4 : decode cX12_stand 4 = .ok (.iload_n 1, 1) := by decide +kernel
theorem dX12_stand_5 : decode cX12_stand 5 = .ok (.iconst 4, 1) := by decide +kernel
theorem dX12_stand_6 : decode cX12_stand 6 = .ok (.if_icmp .ge 12, 3) := by decide +kernel
theorem dX12_stand_9 : decode cX12_stand 9 = .ok (.aload_n 0, 1) := by decide +kernel
theorem dX12_stand_10 : decode cX12_stand 10 = .ok (.getfield 33, 3) := by decide +kernel
theorem dX12_stand_13 : decode cX12_stand 13 = .ok (.iload_n 1, 1) := by decide +kernel
theorem dX12_stand_14 : decode cX12_stand 14 = .ok (.iaload, 1) := by decide +kernel
theorem dX12_stand_15 : decode cX12_stand 15 = .ok (.goto 9, 3) := by decide +kernel
theorem dX12_stand_18 : decode cX12_stand 18 = .ok (.aload_n 0, 1) := by decide +kernel
theorem dX12_stand_19 : decode cX12_stand 19 = .ok (.bipush (-5), 2) := by decide +kernel
theorem dX12_stand_21 : decode cX12_stand 21 = .ok (.invokevirtual 115, 3) := by decide +kernel
theorem dX12_stand_24 : decode cX12_stand 24 = .ok (.ireturn, 1) := by decide +kernel
theorem dX12_calls_0 : decode cX12_calls 0 = .ok (.aload_n 0, 1) := by decide +kernel
theorem dX12_calls_1 : decode cX12_calls 1 = .ok (.invokevirtual 230, 3) := by decide +kernel
theorem dX12_calls_4 : decode cX12_calls 4 = .ok (.aload_n 0, 1) := by decide +kernel
theorem dX12_calls_5 : decode cX12_calls 5 = .ok (.iload_n 1, 1) := by decide +kernel
theorem dX12_calls_6 : decode cX12_calls 6 = .ok (.invokevirtual 233, 3) := by decide +kernel
theorem dX12_calls_9 : decode cX12_calls 9 = .ok (.aload_n 0, 1) := by decide +kernel
theorem dX12_calls_10 : decode cX12_calls 10 = .ok (.invokevirtual 236, 3) := by decide +kernel
theorem dX12_calls_13 : decode cX12_calls 13 = .ok (.ifCond .ne 5, 3) := by decide +kernel
theorem dX12_calls_16 : decode cX12_calls 16 = .ok (.iconst 0, 1) := by decide +kernel
theorem dX12_calls_17 : decode cX12_calls 17 = .ok (.ireturn, 1) := by decide +kernel
theorem dX12_calls_18 : decode cX12_calls 18 = .ok (.aload_n 0, 1) := by decide +kernel
theorem dX12_calls_19 : decode cX12_calls 19 = .ok (.invokevirtual 239, 3) := by decide +kernel
theorem dX12_calls_22 : decode cX12_calls 22 = .ok (.aload_n 0, 1) := by decide +kernel
theorem dX12_calls_23 : decode cX12_calls 23 = .ok (.dup, 1) := by decide +kernel
theorem dX12_calls_24 : decode cX12_calls 24 = .ok (.getfield 213, 3) := by decide +kernel
theorem dX12_calls_27 : decode cX12_calls 27 = .ok (.iconst 1, 1) := by decide +kernel
theorem dX12_calls_28 : decode cX12_calls 28 = .ok (.iadd, 1) := by decide +kernel
theorem dX12_calls_29 : decode cX12_calls 29 = .ok (.putfield 213, 3) := by decide +kernel
theorem dX12_calls_32 : decode cX12_calls 32 = .ok (.aload_n 0, 1) := by decide +kernel
theorem dX12_calls_33 : decode cX12_calls 33 = .ok (.dup, 1) := by decide +kernel
theorem dX12_calls_34 : decode cX12_calls 34 = .ok (.getfield 216, 3) := by decide +kernel
theorem dX12_calls_37 : decode cX12_calls 37 = .ok (.aload_n 0, 1) := by decide +kernel
theorem dX12_calls_38 : decode cX12_calls 38 = .ok (.getfield 30, 3) := by decide +kernel
theorem dX12_calls_41 : decode cX12_calls 41 = .ok (.iload_n 1, 1) := by decide +kernel
theorem dX12_calls_42 : decode cX12_calls 42 = .ok (.iaload, 1) := by decide +kernel
theorem dX12_calls_43 : decode cX12_calls 43 = .ok (.iadd, 1) := by decide +kernel
theorem dX12_calls_44 : decode cX12_calls 44 = .ok (.putfield 216, 3) := by decide +kernel
theorem dX12_calls_47 : decode cX12_calls 47 = .ok (.iconst 1, 1) := by decide +kernel
theorem dX12_calls_48 : decode cX12_calls 48 = .ok (.ireturn, 1) := by decide +kernel
theorem dX12_call_0 : decode cX12_call 0 = .ok (.aload_n 0, 1) := by decide +kernel
theorem dX12_call_1 : decode cX12_call 1 = .ok (.iload_n 1, 1) := by decide +kernel
theorem dX12_call_2 : decode cX12_call 2 = .ok (.invokevirtual 119, 3) := by decide +kernel
theorem dX12_call_5 : decode cX12_call 5 = .ok (.ifCond .ne 9, 3) := by decide +kernel
theorem dX12_call_8 : decode cX12_call 8 = .ok (.aload_n 0, 1) := by decide +kernel
theorem dX12_call_9 : decode cX12_call 9 = .ok (.iconst (-1), 1) := by decide +kernel
theorem dX12_call_10 : decode cX12_call 10 = .ok (.invokevirtual 115, 3) := by decide +kernel
theorem dX12_call_13 : decode cX12_call 13 = .ok (.ireturn, 1) := by decide +kernel
theorem dX12_call_14 : decode cX12_call 14 = .ok (.aload_n 0, 1) := by decide +kernel
theorem dX12_call_15 : decode cX12_call 15 = .ok (.iload_n 1, 1) := by decide +kernel
theorem dX12_call_16 : decode cX12_call 16 = .ok (.invokevirtual 206, 3) := by decide +kernel
theorem dX12_call_19 : decode cX12_call 19 = .ok (.ifCond .eq 10, 3) := by decide +kernel
theorem dX12_call_22 : decode cX12_call 22 = .ok (.aload_n 0, 1) := by decide +kernel
theorem dX12_call_23 : decode cX12_call 23 = .ok (.getfield 213, 3) := by decide +kernel
theorem dX12_call_26 : decode cX12_call 26 = .ok (.goto 9, 3) := by decide +kernel
theorem dX12_call_29 : decode cX12_call 29 = .ok (.aload_n 0, 1) := by decide +kernel
theorem dX12_call_30 : decode cX12_call 30 = .ok (.bipush (-7), 2) := by decide +kernel
theorem dX12_call_32 : decode cX12_call 32 = .ok (.invokevirtual 115, 3) := by decide +kernel
theorem dX12_call_35 : decode cX12_call 35 = .ok (.ireturn, 1) := by decide +kernel
theorem dX12_led_0 : decode cX12_led 0 = .ok (.iconst 0, 1) := by decide +kernel
theorem dX12_led_1 : decode cX12_led 1 = .ok (.istore_n 3, 1) := by decide +kernel
theorem dX12_led_2 : decode cX12_led 2 = .ok (.iload_n 3, 1) := by decide +kernel
theorem dX12_led_3 : decode cX12_led 3 = .ok (.iload_n 2, 1) := by decide +kernel
theorem dX12_led_4 : decode cX12_led 4 = .ok (.if_icmp .ge 64, 3) := by decide +kernel
theorem dX12_led_7 : decode cX12_led 7 = .ok (.aload_n 0, 1) := by decide +kernel
theorem dX12_led_8 : decode cX12_led 8 = .ok (.iload_n 1, 1) := by decide +kernel
theorem dX12_led_9 : decode cX12_led 9 = .ok (.iload_n 3, 1) := by decide +kernel
theorem dX12_led_10 : decode cX12_led 10 = .ok (.invokevirtual 242, 3) := by decide +kernel
theorem dX12_led_13 : decode cX12_led 13 = .ok (.istore 4, 2) := by decide +kernel
theorem dX12_led_15 : decode cX12_led 15 = .ok (.aload_n 0, 1) := by decide +kernel
theorem dX12_led_16 : decode cX12_led 16 = .ok (.iload_n 3, 1) := by decide +kernel
theorem dX12_led_17 : decode cX12_led 17 = .ok (.putfield 245, 3) := by decide +kernel
theorem dX12_led_20 : decode cX12_led 20 = .ok (.aload_n 0, 1) := by decide +kernel
theorem dX12_led_21 : decode cX12_led 21 = .ok (.iload 4, 2) := by decide +kernel
theorem dX12_led_23 : decode cX12_led 23 = .ok (.invokevirtual 119, 3) := by decide +kernel
theorem dX12_led_26 : decode cX12_led 26 = .ok (.ifCond .ne 5, 3) := by decide +kernel
theorem dX12_led_29 : decode cX12_led 29 = .ok (.iconst 0, 1) := by decide +kernel
theorem dX12_led_30 : decode cX12_led 30 = .ok (.ireturn, 1) := by decide +kernel
theorem dX12_led_31 : decode cX12_led 31 = .ok (.aload_n 0, 1) := by decide +kernel
theorem dX12_led_32 : decode cX12_led 32 = .ok (.iload 4, 2) := by decide +kernel
theorem dX12_led_34 : decode cX12_led 34 = .ok (.invokevirtual 233, 3) := by decide +kernel
theorem dX12_led_37 : decode cX12_led 37 = .ok (.aload_n 0, 1) := by decide +kernel
theorem dX12_led_38 : decode cX12_led 38 = .ok (.dup, 1) := by decide +kernel
theorem dX12_led_39 : decode cX12_led 39 = .ok (.getfield 248, 3) := by decide +kernel
theorem dX12_led_42 : decode cX12_led 42 = .ok (.aload_n 0, 1) := by decide +kernel
theorem dX12_led_43 : decode cX12_led 43 = .ok (.getfield 30, 3) := by decide +kernel
theorem dX12_led_46 : decode cX12_led 46 = .ok (.iload 4, 2) := by decide +kernel
theorem dX12_led_48 : decode cX12_led 48 = .ok (.iaload, 1) := by decide +kernel
theorem dX12_led_49 : decode cX12_led 49 = .ok (.iadd, 1) := by decide +kernel
theorem dX12_led_50 : decode cX12_led 50 = .ok (.putfield 248, 3) := by decide +kernel
theorem dX12_led_53 : decode cX12_led 53 = .ok (.aload_n 0, 1) := by decide +kernel
theorem dX12_led_54 : decode cX12_led 54 = .ok (.invokevirtual 236, 3) := by decide +kernel
theorem dX12_led_57 : decode cX12_led 57 = .ok (.ifCond .ne 5, 3) := by decide +kernel
theorem dX12_led_60 : decode cX12_led 60 = .ok (.iconst 0, 1) := by decide +kernel
theorem dX12_led_61 : decode cX12_led 61 = .ok (.ireturn, 1) := by decide +kernel
theorem dX12_led_62 : decode cX12_led 62 = .ok (.iinc 3 1, 3) := by decide +kernel
theorem dX12_led_65 : decode cX12_led 65 = .ok (.goto (-63), 3) := by decide +kernel
theorem dX12_led_68 : decode cX12_led 68 = .ok (.aload_n 0, 1) := by decide +kernel
theorem dX12_led_69 : decode cX12_led 69 = .ok (.iconst (-1), 1) := by decide +kernel
theorem dX12_led_70 : decode cX12_led 70 = .ok (.putfield 245, 3) := by decide +kernel
theorem dX12_led_73 : decode cX12_led 73 = .ok (.iconst 1, 1) := by decide +kernel
theorem dX12_led_74 : decode cX12_led 74 = .ok (.ireturn, 1) := by decide +kernel
theorem dX12_danced_0 : decode cX12_danced 0 = .ok (.aload_n 0, 1) := by decide +kernel
theorem dX12_danced_1 : decode cX12_danced 1 = .ok (.invokevirtual 230, 3) := by decide +kernel
theorem dX12_danced_4 : decode cX12_danced 4 = .ok (.aload_n 0, 1) := by decide +kernel
theorem dX12_danced_5 : decode cX12_danced 5 = .ok (.iconst 0, 1) := by decide +kernel
theorem dX12_danced_6 : decode cX12_danced 6 = .ok (.putfield 248, 3) := by decide +kernel
theorem dX12_danced_9 : decode cX12_danced 9 = .ok (.aload_n 0, 1) := by decide +kernel
theorem dX12_danced_10 : decode cX12_danced 10 = .ok (.iload_n 1, 1) := by decide +kernel
theorem dX12_danced_11 : decode cX12_danced 11 = .ok (.iload_n 2, 1) := by decide +kernel
theorem dX12_danced_12 : decode cX12_danced 12 = .ok (.invokevirtual 251, 3) := by decide +kernel
theorem dX12_danced_15 : decode cX12_danced 15 = .ok (.ireturn, 1) := by decide +kernel
theorem dX12_judge_0 : decode cX12_judge 0 = .ok (.aload_n 0, 1) := by decide +kernel
theorem dX12_judge_1 : decode cX12_judge 1 = .ok (.iload_n 1, 1) := by decide +kernel
theorem dX12_judge_2 : decode cX12_judge 2 = .ok (.iload_n 2, 1) := by decide +kernel
theorem dX12_judge_3 : decode cX12_judge 3 = .ok (.invokevirtual 254, 3) := by decide +kernel
theorem dX12_judge_6 : decode cX12_judge 6 = .ok (.istore_n 3, 1) := by decide +kernel
theorem dX12_judge_7 : decode cX12_judge 7 = .ok (.iload_n 3, 1) := by decide +kernel
theorem dX12_judge_8 : decode cX12_judge 8 = .ok (.ifCond .eq 9, 3) := by decide +kernel
theorem dX12_judge_11 : decode cX12_judge 11 = .ok (.aload_n 0, 1) := by decide +kernel
theorem dX12_judge_12 : decode cX12_judge 12 = .ok (.iload_n 3, 1) := by decide +kernel
theorem dX12_judge_13 : decode cX12_judge 13 = .ok (.invokevirtual 115, 3) := by decide +kernel
theorem dX12_judge_16 : decode cX12_judge 16 = .ok (.ireturn, 1) := by decide +kernel
theorem dX12_judge_17 : decode cX12_judge 17 = .ok (.aload_n 0, 1) := by decide +kernel
theorem dX12_judge_18 : decode cX12_judge 18 = .ok (.iload_n 1, 1) := by decide +kernel
theorem dX12_judge_19 : decode cX12_judge 19 = .ok (.iload_n 2, 1) := by decide +kernel
theorem dX12_judge_20 : decode cX12_judge 20 = .ok (.invokevirtual 257, 3) := by decide +kernel
theorem dX12_judge_23 : decode cX12_judge 23 = .ok (.pop, 1) := by decide +kernel
theorem dX12_judge_24 : decode cX12_judge 24 = .ok (.aload_n 0, 1) := by decide +kernel
theorem dX12_judge_25 : decode cX12_judge 25 = .ok (.getfield 245, 3) := by decide +kernel
theorem dX12_judge_28 : decode cX12_judge 28 = .ok (.ireturn, 1) := by decide +kernel
theorem dX12_told_0 : decode cX12_told 0 = .ok (.aload_n 0, 1) := by decide +kernel
theorem dX12_told_1 : decode cX12_told 1 = .ok (.iload_n 1, 1) := by decide +kernel
theorem dX12_told_2 : decode cX12_told 2 = .ok (.iload_n 2, 1) := by decide +kernel
theorem dX12_told_3 : decode cX12_told 3 = .ok (.invokevirtual 254, 3) := by decide +kernel
theorem dX12_told_6 : decode cX12_told 6 = .ok (.istore 4, 2) := by decide +kernel
theorem dX12_told_8 : decode cX12_told 8 = .ok (.iload 4, 2) := by decide +kernel
theorem dX12_told_10 : decode cX12_told 10 = .ok (.ifCond .ne 17, 3) := by decide +kernel
theorem dX12_told_13 : decode cX12_told 13 = .ok (.iload_n 3, 1) := by decide +kernel
theorem dX12_told_14 : decode cX12_told 14 = .ok (.ifCond .lt 9, 3) := by decide +kernel
theorem dX12_told_17 : decode cX12_told 17 = .ok (.iload_n 3, 1) := by decide +kernel
theorem dX12_told_18 : decode cX12_told 18 = .ok (.bipush 6, 2) := by decide +kernel
theorem dX12_told_20 : decode cX12_told 20 = .ok (.if_icmp .le 7, 3) := by decide +kernel
theorem dX12_told_23 : decode cX12_told 23 = .ok (.bipush (-5), 2) := by decide +kernel
theorem dX12_told_25 : decode cX12_told 25 = .ok (.istore 4, 2) := by decide +kernel
theorem dX12_told_27 : decode cX12_told 27 = .ok (.iload 4, 2) := by decide +kernel
theorem dX12_told_29 : decode cX12_told 29 = .ok (.ifCond .ne 16, 3) := by decide +kernel
theorem dX12_told_32 : decode cX12_told 32 = .ok (.aload_n 0, 1) := by decide +kernel
theorem dX12_told_33 : decode cX12_told 33 = .ok (.iload_n 1, 1) := by decide +kernel
theorem dX12_told_34 : decode cX12_told 34 = .ok (.iload_n 2, 1) := by decide +kernel
theorem dX12_told_35 : decode cX12_told 35 = .ok (.invokevirtual 257, 3) := by decide +kernel
theorem dX12_told_38 : decode cX12_told 38 = .ok (.ifCond .ne 7, 3) := by decide +kernel
theorem dX12_told_41 : decode cX12_told 41 = .ok (.bipush (-6), 2) := by decide +kernel
theorem dX12_told_43 : decode cX12_told 43 = .ok (.istore 4, 2) := by decide +kernel
theorem dX12_told_45 : decode cX12_told 45 = .ok (.iload 4, 2) := by decide +kernel
theorem dX12_told_47 : decode cX12_told 47 = .ok (.ifCond .eq 10, 3) := by decide +kernel
theorem dX12_told_50 : decode cX12_told 50 = .ok (.aload_n 0, 1) := by decide +kernel
theorem dX12_told_51 : decode cX12_told 51 = .ok (.iload 4, 2) := by decide +kernel
theorem dX12_told_53 : decode cX12_told 53 = .ok (.invokevirtual 226, 3) := by decide +kernel
theorem dX12_told_56 : decode cX12_told 56 = .ok (.lreturn, 1) := by decide +kernel
theorem dX12_told_57 : decode cX12_told 57 = .ok (.iload_n 3, 1) := by decide +kernel
theorem dX12_told_58 : decode cX12_told 58 = .ok (.ifCond .ne 10, 3) := by decide +kernel
theorem dX12_told_61 : decode cX12_told 61 = .ok (.aload_n 0, 1) := by decide +kernel
theorem dX12_told_62 : decode cX12_told 62 = .ok (.getfield 150, 3) := by decide +kernel
theorem dX12_told_65 : decode cX12_told 65 = .ok (.goto 38, 3) := by decide +kernel
theorem dX12_told_68 : decode cX12_told 68 = .ok (.iload_n 3, 1) := by decide +kernel
theorem dX12_told_69 : decode cX12_told 69 = .ok (.iconst 1, 1) := by decide +kernel
theorem dX12_told_70 : decode cX12_told 70 = .ok (.if_icmp .ne 10, 3) := by decide +kernel
theorem dX12_told_73 : decode cX12_told 73 = .ok (.aload_n 0, 1) := by decide +kernel
theorem dX12_told_74 : decode cX12_told 74 = .ok (.getfield 153, 3) := by decide +kernel
theorem dX12_told_77 : decode cX12_told 77 = .ok (.goto 26, 3) := by decide +kernel
theorem dX12_told_80 : decode cX12_told 80 = .ok (.iload_n 3, 1) := by decide +kernel
theorem dX12_told_81 : decode cX12_told 81 = .ok (.bipush 6, 2) := by decide +kernel
theorem dX12_told_83 : decode cX12_told 83 = .ok (.if_icmp .ne 11, 3) := by decide +kernel
theorem dX12_told_86 : decode cX12_told 86 = .ok (.aload_n 0, 1) := by decide +kernel
theorem dX12_told_87 : decode cX12_told 87 = .ok (.getfield 248, 3) := by decide +kernel
theorem dX12_told_90 : decode cX12_told 90 = .ok (.i2l, 1) := by decide +kernel
theorem dX12_told_91 : decode cX12_told 91 = .ok (.goto 12, 3) := by decide +kernel
theorem dX12_told_94 : decode cX12_told 94 = .ok (.aload_n 0, 1) := by decide +kernel
theorem dX12_told_95 : decode cX12_told 95 = .ok (.getfield 55, 3) := by decide +kernel
theorem dX12_told_98 : decode cX12_told 98 = .ok (.iload_n 3, 1) := by decide +kernel
theorem dX12_told_99 : decode cX12_told 99 = .ok (.iconst 2, 1) := by decide +kernel
theorem dX12_told_100 : decode cX12_told 100 = .ok (.isub, 1) := by decide +kernel
theorem dX12_told_101 : decode cX12_told 101 = .ok (.iaload, 1) := by decide +kernel
theorem dX12_told_102 : decode cX12_told 102 = .ok (.i2l, 1) := by decide +kernel
theorem dX12_told_103 : decode cX12_told 103 = .ok (.lreturn, 1) := by decide +kernel
theorem dX12_dances_0 : decode cX12_dances 0 = .ok (.aload_n 0, 1) := by decide +kernel
theorem dX12_dances_1 : decode cX12_dances 1 = .ok (.iload_n 1, 1) := by decide +kernel
theorem dX12_dances_2 : decode cX12_dances 2 = .ok (.iload_n 2, 1) := by decide +kernel
theorem dX12_dances_3 : decode cX12_dances 3 = .ok (.invokevirtual 254, 3) := by decide +kernel
theorem dX12_dances_6 : decode cX12_dances 6 = .ok (.istore_n 3, 1) := by decide +kernel
theorem dX12_dances_7 : decode cX12_dances 7 = .ok (.iload_n 3, 1) := by decide +kernel
theorem dX12_dances_8 : decode cX12_dances 8 = .ok (.ifCond .ne 15, 3) := by decide +kernel
theorem dX12_dances_11 : decode cX12_dances 11 = .ok (.aload_n 0, 1) := by decide +kernel
theorem dX12_dances_12 : decode cX12_dances 12 = .ok (.iload_n 1, 1) := by decide +kernel
theorem dX12_dances_13 : decode cX12_dances 13 = .ok (.iload_n 2, 1) := by decide +kernel
theorem dX12_dances_14 : decode cX12_dances 14 = .ok (.invokevirtual 257, 3) := by decide +kernel
theorem dX12_dances_17 : decode cX12_dances 17 = .ok (.ifCond .ne 6, 3) := by decide +kernel
theorem dX12_dances_20 : decode cX12_dances 20 = .ok (.bipush (-6), 2) := by decide +kernel
theorem dX12_dances_22 : decode cX12_dances 22 = .ok (.istore_n 3, 1) := by decide +kernel
theorem dX12_dances_23 : decode cX12_dances 23 = .ok (.iload_n 3, 1) := by decide +kernel
theorem dX12_dances_24 : decode cX12_dances 24 = .ok (.ifCond .eq 9, 3) := by decide +kernel
theorem dX12_dances_27 : decode cX12_dances 27 = .ok (.aload_n 0, 1) := by decide +kernel
theorem dX12_dances_28 : decode cX12_dances 28 = .ok (.iload_n 3, 1) := by decide +kernel
theorem dX12_dances_29 : decode cX12_dances 29 = .ok (.invokevirtual 115, 3) := by decide +kernel
theorem dX12_dances_32 : decode cX12_dances 32 = .ok (.ireturn, 1) := by decide +kernel
theorem dX12_dances_33 : decode cX12_dances 33 = .ok (.aload_n 0, 1) := by decide +kernel
theorem dX12_dances_34 : decode cX12_dances 34 = .ok (.invokevirtual 239, 3) := by decide +kernel
theorem dX12_dances_37 : decode cX12_dances 37 = .ok (.aload_n 0, 1) := by decide +kernel
theorem dX12_dances_38 : decode cX12_dances 38 = .ok (.dup, 1) := by decide +kernel
theorem dX12_dances_39 : decode cX12_dances 39 = .ok (.getfield 213, 3) := by decide +kernel
theorem dX12_dances_42 : decode cX12_dances 42 = .ok (.iload_n 2, 1) := by decide +kernel
theorem dX12_dances_43 : decode cX12_dances 43 = .ok (.iadd, 1) := by decide +kernel
theorem dX12_dances_44 : decode cX12_dances 44 = .ok (.putfield 213, 3) := by decide +kernel
theorem dX12_dances_47 : decode cX12_dances 47 = .ok (.aload_n 0, 1) := by decide +kernel
theorem dX12_dances_48 : decode cX12_dances 48 = .ok (.dup, 1) := by decide +kernel
theorem dX12_dances_49 : decode cX12_dances 49 = .ok (.getfield 216, 3) := by decide +kernel
theorem dX12_dances_52 : decode cX12_dances 52 = .ok (.aload_n 0, 1) := by decide +kernel
theorem dX12_dances_53 : decode cX12_dances 53 = .ok (.getfield 248, 3) := by decide +kernel
theorem dX12_dances_56 : decode cX12_dances 56 = .ok (.iadd, 1) := by decide +kernel
theorem dX12_dances_57 : decode cX12_dances 57 = .ok (.putfield 216, 3) := by decide +kernel
theorem dX12_dances_60 : decode cX12_dances 60 = .ok (.aload_n 0, 1) := by decide +kernel
theorem dX12_dances_61 : decode cX12_dances 61 = .ok (.getfield 213, 3) := by decide +kernel
theorem dX12_dances_64 : decode cX12_dances 64 = .ok (.ireturn, 1) := by decide +kernel
theorem dX12_repeated_0 : decode cX12_repeated 0 = .ok (.aload_n 0, 1) := by decide +kernel
theorem dX12_repeated_1 : decode cX12_repeated 1 = .ok (.iload_n 1, 1) := by decide +kernel
theorem dX12_repeated_2 : decode cX12_repeated 2 = .ok (.iload_n 2, 1) := by decide +kernel
theorem dX12_repeated_3 : decode cX12_repeated 3 = .ok (.invokevirtual 254, 3) := by decide +kernel
theorem dX12_repeated_6 : decode cX12_repeated 6 = .ok (.istore 5, 2) := by decide +kernel
theorem dX12_repeated_8 : decode cX12_repeated 8 = .ok (.iload 5, 2) := by decide +kernel
theorem dX12_repeated_10 : decode cX12_repeated 10 = .ok (.ifCond .ne 18, 3) := by decide +kernel
theorem dX12_repeated_13 : decode cX12_repeated 13 = .ok (.iload 4, 2) := by decide +kernel
theorem dX12_repeated_15 : decode cX12_repeated 15 = .ok (.ifCond .lt 9, 3) := by decide +kernel
theorem dX12_repeated_18 : decode cX12_repeated 18 = .ok (.iload 4, 2) := by decide +kernel
theorem dX12_repeated_20 : decode cX12_repeated 20 = .ok (.iconst 2, 1) := by decide +kernel
theorem dX12_repeated_21 : decode cX12_repeated 21 = .ok (.if_icmp .le 7, 3) := by decide +kernel
theorem dX12_repeated_24 : decode cX12_repeated 24 = .ok (.bipush (-5), 2) := by decide +kernel
theorem dX12_repeated_26 : decode cX12_repeated 26 = .ok (.istore 5, 2) := by decide +kernel
theorem dX12_repeated_28 : decode cX12_repeated 28 = .ok (.iload 5, 2) := by decide +kernel
theorem dX12_repeated_30 : decode cX12_repeated 30 = .ok (.ifCond .eq 10, 3) := by decide +kernel
theorem dX12_repeated_33 : decode cX12_repeated 33 = .ok (.aload_n 0, 1) := by decide +kernel
theorem dX12_repeated_34 : decode cX12_repeated 34 = .ok (.iload 5, 2) := by decide +kernel
theorem dX12_repeated_36 : decode cX12_repeated 36 = .ok (.invokevirtual 226, 3) := by decide +kernel
theorem dX12_repeated_39 : decode cX12_repeated 39 = .ok (.lreturn, 1) := by decide +kernel
theorem dX12_repeated_40 : decode cX12_repeated 40 = .ok (.iload_n 3, 1) := by decide +kernel
theorem dX12_repeated_41 : decode cX12_repeated 41 = .ok (.ifCond .lt 10, 3) := by decide +kernel
theorem dX12_repeated_44 : decode cX12_repeated 44 = .ok (.iload_n 3, 1) := by decide +kernel
theorem dX12_repeated_45 : decode cX12_repeated 45 = .ok (.sipush 10000, 3) := by decide +kernel
theorem dX12_repeated_48 : decode cX12_repeated 48 = .ok (.if_icmp .le 10, 3) := by decide +kernel
theorem dX12_repeated_51 : decode cX12_repeated 51 = .ok (.aload_n 0, 1) := by decide +kernel
theorem dX12_repeated_52 : decode cX12_repeated 52 = .ok (.bipush (-6), 2) := by decide +kernel
theorem dX12_repeated_54 : decode cX12_repeated 54 = .ok (.invokevirtual 226, 3) := by decide +kernel
theorem dX12_repeated_57 : decode cX12_repeated 57 = .ok (.lreturn, 1) := by decide +kernel
theorem dX12_repeated_58 : decode cX12_repeated 58 = .ok (.iconst 0, 1) := by decide +kernel
theorem dX12_repeated_59 : decode cX12_repeated 59 = .ok (.istore 6, 2) := by decide +kernel
theorem dX12_repeated_61 : decode cX12_repeated 61 = .ok (.iload 6, 2) := by decide +kernel
theorem dX12_repeated_63 : decode cX12_repeated 63 = .ok (.iload_n 2, 1) := by decide +kernel
theorem dX12_repeated_64 : decode cX12_repeated 64 = .ok (.if_icmp .ge 30, 3) := by decide +kernel
theorem dX12_repeated_67 : decode cX12_repeated 67 = .ok (.aload_n 0, 1) := by decide +kernel
theorem dX12_repeated_68 : decode cX12_repeated 68 = .ok (.aload_n 0, 1) := by decide +kernel
theorem dX12_repeated_69 : decode cX12_repeated 69 = .ok (.iload_n 1, 1) := by decide +kernel
theorem dX12_repeated_70 : decode cX12_repeated 70 = .ok (.iload 6, 2) := by decide +kernel
theorem dX12_repeated_72 : decode cX12_repeated 72 = .ok (.invokevirtual 242, 3) := by decide +kernel
theorem dX12_repeated_75 : decode cX12_repeated 75 = .ok (.invokevirtual 119, 3) := by decide +kernel
theorem dX12_repeated_78 : decode cX12_repeated 78 = .ok (.ifCond .ne 10, 3) := by decide +kernel
theorem dX12_repeated_81 : decode cX12_repeated 81 = .ok (.aload_n 0, 1) := by decide +kernel
theorem dX12_repeated_82 : decode cX12_repeated 82 = .ok (.bipush (-6), 2) := by decide +kernel
theorem dX12_repeated_84 : decode cX12_repeated 84 = .ok (.invokevirtual 226, 3) := by decide +kernel
theorem dX12_repeated_87 : decode cX12_repeated 87 = .ok (.lreturn, 1) := by decide +kernel
theorem dX12_repeated_88 : decode cX12_repeated 88 = .ok (.iinc 6 1, 3) := by decide +kernel
theorem dX12_repeated_91 : decode cX12_repeated 91 = .ok (.goto (-30), 3) := by decide +kernel
theorem dX12_repeated_94 : decode cX12_repeated 94 = .ok (.aload_n 0, 1) := by decide +kernel
theorem dX12_repeated_95 : decode cX12_repeated 95 = .ok (.invokevirtual 230, 3) := by decide +kernel
theorem dX12_repeated_98 : decode cX12_repeated 98 = .ok (.iconst 0, 1) := by decide +kernel
theorem dX12_repeated_99 : decode cX12_repeated 99 = .ok (.istore 6, 2) := by decide +kernel
theorem dX12_repeated_101 : decode cX12_repeated 101 = .ok (.iload 6, 2) := by decide +kernel
theorem dX12_repeated_103 : decode cX12_repeated 103 = .ok (.iload_n 3, 1) := by decide +kernel
theorem dX12_repeated_104 : decode cX12_repeated 104 = .ok (.if_icmp .ge 25, 3) := by decide +kernel
theorem dX12_repeated_107 : decode cX12_repeated 107 = .ok (.aload_n 0, 1) := by decide +kernel
theorem dX12_repeated_108 : decode cX12_repeated 108 = .ok (.iload_n 1, 1) := by decide +kernel
theorem dX12_repeated_109 : decode cX12_repeated 109 = .ok (.iload_n 2, 1) := by decide +kernel
theorem dX12_repeated_110 : decode cX12_repeated 110 = .ok (.invokevirtual 251, 3) := by decide +kernel
theorem dX12_repeated_113 : decode cX12_repeated 113 = .ok (.ifCond .ne 10, 3) := by decide +kernel
theorem dX12_repeated_116 : decode cX12_repeated 116 = .ok (.aload_n 0, 1) := by decide +kernel
theorem dX12_repeated_117 : decode cX12_repeated 117 = .ok (.bipush (-7), 2) := by decide +kernel
theorem dX12_repeated_119 : decode cX12_repeated 119 = .ok (.invokevirtual 226, 3) := by decide +kernel
theorem dX12_repeated_122 : decode cX12_repeated 122 = .ok (.lreturn, 1) := by decide +kernel
theorem dX12_repeated_123 : decode cX12_repeated 123 = .ok (.iinc 6 1, 3) := by decide +kernel
theorem dX12_repeated_126 : decode cX12_repeated 126 = .ok (.goto (-25), 3) := by decide +kernel
theorem dX12_repeated_129 : decode cX12_repeated 129 = .ok (.iload 4, 2) := by decide +kernel
theorem dX12_repeated_131 : decode cX12_repeated 131 = .ok (.ifCond .ne 10, 3) := by decide +kernel
theorem dX12_repeated_134 : decode cX12_repeated 134 = .ok (.aload_n 0, 1) := by decide +kernel
theorem dX12_repeated_135 : decode cX12_repeated 135 = .ok (.getfield 150, 3) := by decide +kernel
theorem dX12_repeated_138 : decode cX12_repeated 138 = .ok (.goto 23, 3) := by decide +kernel
theorem dX12_repeated_141 : decode cX12_repeated 141 = .ok (.iload 4, 2) := by decide +kernel
theorem dX12_repeated_143 : decode cX12_repeated 143 = .ok (.iconst 1, 1) := by decide +kernel
theorem dX12_repeated_144 : decode cX12_repeated 144 = .ok (.if_icmp .ne 10, 3) := by decide +kernel
theorem dX12_repeated_147 : decode cX12_repeated 147 = .ok (.aload_n 0, 1) := by decide +kernel
theorem dX12_repeated_148 : decode cX12_repeated 148 = .ok (.getfield 153, 3) := by decide +kernel
theorem dX12_repeated_151 : decode cX12_repeated 151 = .ok (.goto 10, 3) := by decide +kernel
theorem dX12_repeated_154 : decode cX12_repeated 154 = .ok (.aload_n 0, 1) := by decide +kernel
theorem dX12_repeated_155 : decode cX12_repeated 155 = .ok (.getfield 55, 3) := by decide +kernel
theorem dX12_repeated_158 : decode cX12_repeated 158 = .ok (.iconst 0, 1) := by decide +kernel
theorem dX12_repeated_159 : decode cX12_repeated 159 = .ok (.iaload, 1) := by decide +kernel
theorem dX12_repeated_160 : decode cX12_repeated 160 = .ok (.i2l, 1) := by decide +kernel
theorem dX12_repeated_161 : decode cX12_repeated 161 = .ok (.lreturn, 1) := by decide +kernel
theorem dX12_same_0 : decode cX12_same 0 = .ok (.aload_n 0, 1) := by decide +kernel
theorem dX12_same_1 : decode cX12_same 1 = .ok (.iload_n 1, 1) := by decide +kernel
theorem dX12_same_2 : decode cX12_same 2 = .ok (.invokevirtual 111, 3) := by decide +kernel
theorem dX12_same_5 : decode cX12_same 5 = .ok (.ifCond .eq 11, 3) := by decide +kernel
theorem dX12_same_8 : decode cX12_same 8 = .ok (.aload_n 0, 1) := by decide +kernel
theorem dX12_same_9 : decode cX12_same 9 = .ok (.iload_n 2, 1) := by decide +kernel
theorem dX12_same_10 : decode cX12_same 10 = .ok (.invokevirtual 111, 3) := by decide +kernel
theorem dX12_same_13 : decode cX12_same 13 = .ok (.ifCond .ne 9, 3) := by decide +kernel
theorem dX12_same_16 : decode cX12_same 16 = .ok (.aload_n 0, 1) := by decide +kernel
theorem dX12_same_17 : decode cX12_same 17 = .ok (.iconst (-1), 1) := by decide +kernel
theorem dX12_same_18 : decode cX12_same 18 = .ok (.invokevirtual 115, 3) := by decide +kernel
theorem dX12_same_21 : decode cX12_same 21 = .ok (.ireturn, 1) := by decide +kernel
theorem dX12_same_22 : decode cX12_same 22 = .ok (.aload_n 0, 1) := by decide +kernel
theorem dX12_same_23 : decode cX12_same 23 = .ok (.getfield 36, 3) := by decide +kernel
theorem dX12_same_26 : decode cX12_same 26 = .ok (.iload_n 1, 1) := by decide +kernel
theorem dX12_same_27 : decode cX12_same 27 = .ok (.iaload, 1) := by decide +kernel
theorem dX12_same_28 : decode cX12_same 28 = .ok (.iconst 2, 1) := by decide +kernel
theorem dX12_same_29 : decode cX12_same 29 = .ok (.if_icmp .eq 13, 3) := by decide +kernel
theorem dX12_same_32 : decode cX12_same 32 = .ok (.aload_n 0, 1) := by decide +kernel
theorem dX12_same_33 : decode cX12_same 33 = .ok (.getfield 36, 3) := by decide +kernel
theorem dX12_same_36 : decode cX12_same 36 = .ok (.iload_n 2, 1) := by decide +kernel
theorem dX12_same_37 : decode cX12_same 37 = .ok (.iaload, 1) := by decide +kernel
theorem dX12_same_38 : decode cX12_same 38 = .ok (.iconst 2, 1) := by decide +kernel
theorem dX12_same_39 : decode cX12_same 39 = .ok (.if_icmp .ne 10, 3) := by decide +kernel
theorem dX12_same_42 : decode cX12_same 42 = .ok (.aload_n 0, 1) := by decide +kernel
theorem dX12_same_43 : decode cX12_same 43 = .ok (.bipush (-2), 2) := by decide +kernel
theorem dX12_same_45 : decode cX12_same 45 = .ok (.invokevirtual 115, 3) := by decide +kernel
theorem dX12_same_48 : decode cX12_same 48 = .ok (.ireturn, 1) := by decide +kernel
theorem dX12_same_49 : decode cX12_same 49 = .ok (.aload_n 0, 1) := by decide +kernel
theorem dX12_same_50 : decode cX12_same 50 = .ok (.getfield 36, 3) := by decide +kernel
theorem dX12_same_53 : decode cX12_same 53 = .ok (.iload_n 1, 1) := by decide +kernel
theorem dX12_same_54 : decode cX12_same 54 = .ok (.iaload, 1) := by decide +kernel
theorem dX12_same_55 : decode cX12_same 55 = .ok (.ifCond .eq 12, 3) := by decide +kernel
theorem dX12_same_58 : decode cX12_same 58 = .ok (.aload_n 0, 1) := by decide +kernel
theorem dX12_same_59 : decode cX12_same 59 = .ok (.getfield 36, 3) := by decide +kernel
theorem dX12_same_62 : decode cX12_same 62 = .ok (.iload_n 2, 1) := by decide +kernel
theorem dX12_same_63 : decode cX12_same 63 = .ok (.iaload, 1) := by decide +kernel
theorem dX12_same_64 : decode cX12_same 64 = .ok (.ifCond .ne 10, 3) := by decide +kernel
theorem dX12_same_67 : decode cX12_same 67 = .ok (.aload_n 0, 1) := by decide +kernel
theorem dX12_same_68 : decode cX12_same 68 = .ok (.bipush (-3), 2) := by decide +kernel
theorem dX12_same_70 : decode cX12_same 70 = .ok (.invokevirtual 115, 3) := by decide +kernel
theorem dX12_same_73 : decode cX12_same 73 = .ok (.ireturn, 1) := by decide +kernel
theorem dX12_same_74 : decode cX12_same 74 = .ok (.iload_n 3, 1) := by decide +kernel
theorem dX12_same_75 : decode cX12_same 75 = .ok (.ifCond .ge 10, 3) := by decide +kernel
theorem dX12_same_78 : decode cX12_same 78 = .ok (.aload_n 0, 1) := by decide +kernel
theorem dX12_same_79 : decode cX12_same 79 = .ok (.bipush (-4), 2) := by decide +kernel
theorem dX12_same_81 : decode cX12_same 81 = .ok (.invokevirtual 115, 3) := by decide +kernel
theorem dX12_same_84 : decode cX12_same 84 = .ok (.ireturn, 1) := by decide +kernel
theorem dX12_same_85 : decode cX12_same 85 = .ok (.iload_n 3, 1) := by decide +kernel
theorem dX12_same_86 : decode cX12_same 86 = .ok (.aload_n 0, 1) := by decide +kernel
theorem dX12_same_87 : decode cX12_same 87 = .ok (.getfield 42, 3) := by decide +kernel
theorem dX12_same_90 : decode cX12_same 90 = .ok (.iload_n 1, 1) := by decide +kernel
theorem dX12_same_91 : decode cX12_same 91 = .ok (.iaload, 1) := by decide +kernel
theorem dX12_same_92 : decode cX12_same 92 = .ok (.if_icmp .gt 13, 3) := by decide +kernel
theorem dX12_same_95 : decode cX12_same 95 = .ok (.iload_n 3, 1) := by decide +kernel
theorem dX12_same_96 : decode cX12_same 96 = .ok (.aload_n 0, 1) := by decide +kernel
theorem dX12_same_97 : decode cX12_same 97 = .ok (.getfield 42, 3) := by decide +kernel
theorem dX12_same_100 : decode cX12_same 100 = .ok (.iload_n 2, 1) := by decide +kernel
theorem dX12_same_101 : decode cX12_same 101 = .ok (.iaload, 1) := by decide +kernel
theorem dX12_same_102 : decode cX12_same 102 = .ok (.if_icmp .le 10, 3) := by decide +kernel
theorem dX12_same_105 : decode cX12_same 105 = .ok (.aload_n 0, 1) := by decide +kernel
theorem dX12_same_106 : decode cX12_same 106 = .ok (.bipush (-5), 2) := by decide +kernel
theorem dX12_same_108 : decode cX12_same 108 = .ok (.invokevirtual 115, 3) := by decide +kernel
theorem dX12_same_111 : decode cX12_same 111 = .ok (.ireturn, 1) := by decide +kernel
theorem dX12_same_112 : decode cX12_same 112 = .ok (.aload_n 0, 1) := by decide +kernel
theorem dX12_same_113 : decode cX12_same 113 = .ok (.iload_n 1, 1) := by decide +kernel
theorem dX12_same_114 : decode cX12_same 114 = .ok (.iload_n 3, 1) := by decide +kernel
theorem dX12_same_115 : decode cX12_same 115 = .ok (.invokevirtual 257, 3) := by decide +kernel
theorem dX12_same_118 : decode cX12_same 118 = .ok (.ifCond .ne 10, 3) := by decide +kernel
theorem dX12_same_121 : decode cX12_same 121 = .ok (.aload_n 0, 1) := by decide +kernel
theorem dX12_same_122 : decode cX12_same 122 = .ok (.bipush (-6), 2) := by decide +kernel
theorem dX12_same_124 : decode cX12_same 124 = .ok (.invokevirtual 115, 3) := by decide +kernel
theorem dX12_same_127 : decode cX12_same 127 = .ok (.ireturn, 1) := by decide +kernel
theorem dX12_same_128 : decode cX12_same 128 = .ok (.aload_n 0, 1) := by decide +kernel
theorem dX12_same_129 : decode cX12_same 129 = .ok (.getfield 150, 3) := by decide +kernel
theorem dX12_same_132 : decode cX12_same 132 = .ok (.lstore 5, 2) := by decide +kernel
theorem dX12_same_134 : decode cX12_same 134 = .ok (.aload_n 0, 1) := by decide +kernel
theorem dX12_same_135 : decode cX12_same 135 = .ok (.getfield 153, 3) := by decide +kernel
theorem dX12_same_138 : decode cX12_same 138 = .ok (.lstore 7, 2) := by decide +kernel
theorem dX12_same_140 : decode cX12_same 140 = .ok (.iconst 0, 1) := by decide +kernel
theorem dX12_same_141 : decode cX12_same 141 = .ok (.istore 9, 2) := by decide +kernel
theorem dX12_same_143 : decode cX12_same 143 = .ok (.iload 9, 2) := by decide +kernel
theorem dX12_same_145 : decode cX12_same 145 = .ok (.iconst 4, 1) := by decide +kernel
theorem dX12_same_146 : decode cX12_same 146 = .ok (.if_icmp .ge 23, 3) := by decide +kernel
theorem dX12_same_149 : decode cX12_same 149 = .ok (.aload_n 0, 1) := by decide +kernel
theorem dX12_same_150 : decode cX12_same 150 = .ok (.getfield 76, 3) := by decide +kernel
theorem dX12_same_153 : decode cX12_same 153 = .ok (.iload 9, 2) := by decide +kernel
theorem dX12_same_155 : decode cX12_same 155 = .ok (.aload_n 0, 1) := by decide +kernel
theorem dX12_same_156 : decode cX12_same 156 = .ok (.getfield 55, 3) := by decide +kernel
theorem dX12_same_159 : decode cX12_same 159 = .ok (.iload 9, 2) := by decide +kernel
theorem dX12_same_161 : decode cX12_same 161 = .ok (.iaload, 1) := by decide +kernel
theorem dX12_same_162 : decode cX12_same 162 = .ok (.iastore, 1) := by decide +kernel
theorem dX12_same_163 : decode cX12_same 163 = .ok (.iinc 9 1, 3) := by decide +kernel
theorem dX12_same_166 : decode cX12_same 166 = .ok (.goto (-23), 3) := by decide +kernel
theorem dX12_same_169 : decode cX12_same 169 = .ok (.aload_n 0, 1) := by decide +kernel
theorem dX12_same_170 : decode cX12_same 170 = .ok (.iload_n 2, 1) := by decide +kernel
theorem dX12_same_171 : decode cX12_same 171 = .ok (.iload_n 3, 1) := by decide +kernel
theorem dX12_same_172 : decode cX12_same 172 = .ok (.invokevirtual 257, 3) := by decide +kernel
theorem dX12_same_175 : decode cX12_same 175 = .ok (.ifCond .ne 10, 3) := by decide +kernel
theorem dX12_same_178 : decode cX12_same 178 = .ok (.aload_n 0, 1) := by decide +kernel
theorem dX12_same_179 : decode cX12_same 179 = .ok (.bipush (-6), 2) := by decide +kernel
theorem dX12_same_181 : decode cX12_same 181 = .ok (.invokevirtual 115, 3) := by decide +kernel
theorem dX12_same_184 : decode cX12_same 184 = .ok (.ireturn, 1) := by decide +kernel
theorem dX12_same_185 : decode cX12_same 185 = .ok (.lload 5, 2) := by decide +kernel
theorem dX12_same_187 : decode cX12_same 187 = .ok (.aload_n 0, 1) := by decide +kernel
theorem dX12_same_188 : decode cX12_same 188 = .ok (.getfield 150, 3) := by decide +kernel
theorem dX12_same_191 : decode cX12_same 191 = .ok (.lcmp, 1) := by decide +kernel
theorem dX12_same_192 : decode cX12_same 192 = .ok (.ifCond .ne 17, 3) := by decide +kernel
theorem dX12_same_195 : decode cX12_same 195 = .ok (.lload 7, 2) := by decide +kernel
theorem dX12_same_197 : decode cX12_same 197 = .ok (.aload_n 0, 1) := by decide +kernel
theorem dX12_same_198 : decode cX12_same 198 = .ok (.getfield 153, 3) := by decide +kernel
theorem dX12_same_201 : decode cX12_same 201 = .ok (.lcmp, 1) := by decide +kernel
theorem dX12_same_202 : decode cX12_same 202 = .ok (.ifCond .ne 7, 3) := by decide +kernel
theorem dX12_same_205 : decode cX12_same 205 = .ok (.iconst 1, 1) := by decide +kernel
theorem dX12_same_206 : decode cX12_same 206 = .ok (.goto 4, 3) := by decide +kernel
theorem dX12_same_209 : decode cX12_same 209 = .ok (.iconst 0, 1) := by decide +kernel
theorem dX12_same_210 : decode cX12_same 210 = .ok (.istore 9, 2) := by decide +kernel
theorem dX12_same_212 : decode cX12_same 212 = .ok (.iconst 0, 1) := by decide +kernel
theorem dX12_same_213 : decode cX12_same 213 = .ok (.istore 10, 2) := by decide +kernel
theorem dX12_same_215 : decode cX12_same 215 = .ok (.iload 10, 2) := by decide +kernel
theorem dX12_same_217 : decode cX12_same 217 = .ok (.iconst 4, 1) := by decide +kernel
theorem dX12_same_218 : decode cX12_same 218 = .ok (.if_icmp .ge 43, 3) := by decide +kernel
theorem dX12_same_221 : decode cX12_same 221 = .ok (.iload 4, 2) := by decide +kernel
theorem dX12_same_223 : decode cX12_same 223 = .ok (.ifCond .eq 38, 3) := by decide +kernel
theorem dX12_same_226 : decode cX12_same 226 = .ok (.iload 9, 2) := by decide +kernel
theorem dX12_same_228 : decode cX12_same 228 = .ok (.ifCond .eq 24, 3) := by decide +kernel
theorem dX12_same_231 : decode cX12_same 231 = .ok (.aload_n 0, 1) := by decide +kernel
theorem dX12_same_232 : decode cX12_same 232 = .ok (.getfield 76, 3) := by decide +kernel
theorem dX12_same_235 : decode cX12_same 235 = .ok (.iload 10, 2) := by decide +kernel
theorem dX12_same_237 : decode cX12_same 237 = .ok (.iaload, 1) := by decide +kernel
theorem dX12_same_238 : decode cX12_same 238 = .ok (.aload_n 0, 1) := by decide +kernel
theorem dX12_same_239 : decode cX12_same 239 = .ok (.getfield 55, 3) := by decide +kernel
theorem dX12_same_242 : decode cX12_same 242 = .ok (.iload 10, 2) := by decide +kernel
theorem dX12_same_244 : decode cX12_same 244 = .ok (.iaload, 1) := by decide +kernel
theorem dX12_same_245 : decode cX12_same 245 = .ok (.if_icmp .ne 7, 3) := by decide +kernel
theorem dX12_same_248 : decode cX12_same 248 = .ok (.iconst 1, 1) := by decide +kernel
theorem dX12_same_249 : decode cX12_same 249 = .ok (.goto 4, 3) := by decide +kernel
theorem dX12_same_252 : decode cX12_same 252 = .ok (.iconst 0, 1) := by decide +kernel
theorem dX12_same_253 : decode cX12_same 253 = .ok (.istore 9, 2) := by decide +kernel
theorem dX12_same_255 : decode cX12_same 255 = .ok (.iinc 10 1, 3) := by decide +kernel
theorem dX12_same_258 : decode cX12_same 258 = .ok (.goto (-43), 3) := by decide +kernel
theorem dX12_same_261 : decode cX12_same 261 = .ok (.iload 9, 2) := by decide +kernel
theorem dX12_same_263 : decode cX12_same 263 = .ok (.ifCond .eq 7, 3) := by decide +kernel
theorem dX12_same_266 : decode cX12_same 266 = .ok (.iconst 1, 1) := by decide +kernel
theorem dX12_same_267 : decode cX12_same 267 = .ok (.goto 4, 3) := by decide +kernel
theorem dX12_same_270 : decode cX12_same 270 = .ok (.iconst 0, 1) := by decide +kernel
theorem dX12_same_271 : decode cX12_same 271 = .ok (.ireturn, 1) := by decide +kernel
theorem dX12_goes_0 : decode cX12_goes 0 = .ok (.aload_n 0, 1) := by decide +kernel
theorem dX12_goes_1 : decode cX12_goes 1 = .ok (.getfield 260, 3) := by decide +kernel
theorem dX12_goes_4 : decode cX12_goes 4 = .ok (.lconst 0, 1) := by decide +kernel
theorem dX12_goes_5 : decode cX12_goes 5 = .ok (.lcmp, 1) := by decide +kernel
theorem dX12_goes_6 : decode cX12_goes 6 = .ok (.ifCond .lt 17, 3) := by decide +kernel
theorem dX12_goes_9 : decode cX12_goes 9 = .ok (.aload_n 0, 1) := by decide +kernel
theorem dX12_goes_10 : decode cX12_goes 10 = .ok (.getfield 260, 3) := by decide +kernel
theorem dX12_goes_13 : decode cX12_goes 13 = .ok (.lload_n 1, 1) := by decide +kernel
theorem dX12_goes_14 : decode cX12_goes 14 = .ok (.lcmp, 1) := by decide +kernel
theorem dX12_goes_15 : decode cX12_goes 15 = .ok (.ifCond .ge 8, 3) := by decide +kernel
theorem dX12_goes_18 : decode cX12_goes 18 = .ok (.aload_n 0, 1) := by decide +kernel
theorem dX12_goes_19 : decode cX12_goes 19 = .ok (.iload_n 3, 1) := by decide +kernel
theorem dX12_goes_20 : decode cX12_goes 20 = .ok (.putfield 263, 3) := by decide +kernel
theorem dX12_goes_23 : decode cX12_goes 23 = .ok (.aload_n 0, 1) := by decide +kernel
theorem dX12_goes_24 : decode cX12_goes 24 = .ok (.getfield 260, 3) := by decide +kernel
theorem dX12_goes_27 : decode cX12_goes 27 = .ok (.lconst 0, 1) := by decide +kernel
theorem dX12_goes_28 : decode cX12_goes 28 = .ok (.lcmp, 1) := by decide +kernel
theorem dX12_goes_29 : decode cX12_goes 29 = .ok (.ifCond .lt 16, 3) := by decide +kernel
theorem dX12_goes_32 : decode cX12_goes 32 = .ok (.aload_n 0, 1) := by decide +kernel
theorem dX12_goes_33 : decode cX12_goes 33 = .ok (.getfield 260, 3) := by decide +kernel
theorem dX12_goes_36 : decode cX12_goes 36 = .ok (.lload_n 1, 1) := by decide +kernel
theorem dX12_goes_37 : decode cX12_goes 37 = .ok (.lcmp, 1) := by decide +kernel
theorem dX12_goes_38 : decode cX12_goes 38 = .ok (.ifCond .ge 7, 3) := by decide +kernel
theorem dX12_goes_41 : decode cX12_goes 41 = .ok (.iconst 1, 1) := by decide +kernel
theorem dX12_goes_42 : decode cX12_goes 42 = .ok (.goto 4, 3) := by decide +kernel
theorem dX12_goes_45 : decode cX12_goes 45 = .ok (.iconst 0, 1) := by decide +kernel
theorem dX12_goes_46 : decode cX12_goes 46 = .ok (.istore 4, 2) := by decide +kernel
theorem dX12_goes_48 : decode cX12_goes 48 = .ok (.aload_n 0, 1) := by decide +kernel
theorem dX12_goes_49 : decode cX12_goes 49 = .ok (.dup, 1) := by decide +kernel
theorem dX12_goes_50 : decode cX12_goes 50 = .ok (.getfield 260, 3) := by decide +kernel
theorem dX12_goes_53 : decode cX12_goes 53 = .ok (.lload_n 1, 1) := by decide +kernel
theorem dX12_goes_54 : decode cX12_goes 54 = .ok (.lsub, 1) := by decide +kernel
theorem dX12_goes_55 : decode cX12_goes 55 = .ok (.putfield 260, 3) := by decide +kernel
theorem dX12_goes_58 : decode cX12_goes 58 = .ok (.iload 4, 2) := by decide +kernel
theorem dX12_goes_60 : decode cX12_goes 60 = .ok (.ireturn, 1) := by decide +kernel
theorem dX12_undone_0 : decode cX12_undone 0 = .ok (.lload_n 1, 1) := by decide +kernel
theorem dX12_undone_1 : decode cX12_undone 1 = .ok (.lstore 7, 2) := by decide +kernel
theorem dX12_undone_3 : decode cX12_undone 3 = .ok (.lload_n 3, 1) := by decide +kernel
theorem dX12_undone_4 : decode cX12_undone 4 = .ok (.lstore 9, 2) := by decide +kernel
theorem dX12_undone_6 : decode cX12_undone 6 = .ok (.lconst 0, 1) := by decide +kernel
theorem dX12_undone_7 : decode cX12_undone 7 = .ok (.lstore 11, 2) := by decide +kernel
theorem dX12_undone_9 : decode cX12_undone 9 = .ok (.aload_n 0, 1) := by decide +kernel
theorem dX12_undone_10 : decode cX12_undone 10 = .ok (.lload 5, 2) := by decide +kernel
theorem dX12_undone_12 : decode cX12_undone 12 = .ok (.putfield 260, 3) := by decide +kernel
theorem dX12_undone_15 : decode cX12_undone 15 = .ok (.aload_n 0, 1) := by decide +kernel
theorem dX12_undone_16 : decode cX12_undone 16 = .ok (.iconst (-1), 1) := by decide +kernel
theorem dX12_undone_17 : decode cX12_undone 17 = .ok (.putfield 263, 3) := by decide +kernel
theorem dX12_undone_20 : decode cX12_undone 20 = .ok (.lload 7, 2) := by decide +kernel
theorem dX12_undone_22 : decode cX12_undone 22 = .ok (.lconst 0, 1) := by decide +kernel
theorem dX12_undone_23 : decode cX12_undone 23 = .ok (.lcmp, 1) := by decide +kernel
theorem dX12_undone_24 : decode cX12_undone 24 = .ok (.ifCond .eq 218, 3) := by decide +kernel
theorem dX12_undone_27 : decode cX12_undone 27 = .ok (.lload 7, 2) := by decide +kernel
theorem dX12_undone_29 : decode cX12_undone 29 = .ok (.lconst 0, 1) := by decide +kernel
theorem dX12_undone_30 : decode cX12_undone 30 = .ok (.lcmp, 1) := by decide +kernel
theorem dX12_undone_31 : decode cX12_undone 31 = .ok (.ifCond .ge 44, 3) := by decide +kernel
theorem dX12_undone_34 : decode cX12_undone 34 = .ok (.lload 7, 2) := by decide +kernel
theorem dX12_undone_36 : decode cX12_undone 36 = .ok (.lneg, 1) := by decide +kernel
theorem dX12_undone_37 : decode cX12_undone 37 = .ok (.lload 9, 2) := by decide +kernel
theorem dX12_undone_39 : decode cX12_undone 39 = .ok (.ladd, 1) := by decide +kernel
theorem dX12_undone_40 : decode cX12_undone 40 = .ok (.lconst 1, 1) := by decide +kernel
theorem dX12_undone_41 : decode cX12_undone 41 = .ok (.lsub, 1) := by decide +kernel
theorem dX12_undone_42 : decode cX12_undone 42 = .ok (.lload 9, 2) := by decide +kernel
theorem dX12_undone_44 : decode cX12_undone 44 = .ok (.ldiv, 1) := by decide +kernel
theorem dX12_undone_45 : decode cX12_undone 45 = .ok (.lstore 13, 2) := by decide +kernel
theorem dX12_undone_47 : decode cX12_undone 47 = .ok (.aload_n 0, 1) := by decide +kernel
theorem dX12_undone_48 : decode cX12_undone 48 = .ok (.lload 13, 2) := by decide +kernel
theorem dX12_undone_50 : decode cX12_undone 50 = .ok (.iconst 0, 1) := by decide +kernel
theorem dX12_undone_51 : decode cX12_undone 51 = .ok (.invokevirtual 266, 3) := by decide +kernel
theorem dX12_undone_54 : decode cX12_undone 54 = .ok (.pop, 1) := by decide +kernel
theorem dX12_undone_55 : decode cX12_undone 55 = .ok (.lload 11, 2) := by decide +kernel
theorem dX12_undone_57 : decode cX12_undone 57 = .ok (.lload 13, 2) := by decide +kernel
theorem dX12_undone_59 : decode cX12_undone 59 = .ok (.ladd, 1) := by decide +kernel
theorem dX12_undone_60 : decode cX12_undone 60 = .ok (.lstore 11, 2) := by decide +kernel
theorem dX12_undone_62 : decode cX12_undone 62 = .ok (.lload 7, 2) := by decide +kernel
theorem dX12_undone_64 : decode cX12_undone 64 = .ok (.lload 13, 2) := by decide +kernel
theorem dX12_undone_66 : decode cX12_undone 66 = .ok (.lload 9, 2) := by decide +kernel
theorem dX12_undone_68 : decode cX12_undone 68 = .ok (.lmul, 1) := by decide +kernel
theorem dX12_undone_69 : decode cX12_undone 69 = .ok (.ladd, 1) := by decide +kernel
theorem dX12_undone_70 : decode cX12_undone 70 = .ok (.lstore 7, 2) := by decide +kernel
theorem dX12_undone_72 : decode cX12_undone 72 = .ok (.goto (-52), 3) := by decide +kernel
theorem dX12_undone_75 : decode cX12_undone 75 = .ok (.lload 9, 2) := by decide +kernel
theorem dX12_undone_77 : decode cX12_undone 77 = .ok (.lload 7, 2) := by decide +kernel
theorem dX12_undone_79 : decode cX12_undone 79 = .ok (.lcmp, 1) := by decide +kernel
theorem dX12_undone_80 : decode cX12_undone 80 = .ok (.ifCond .le 123, 3) := by decide +kernel
theorem dX12_undone_83 : decode cX12_undone 83 = .ok (.lload 9, 2) := by decide +kernel
theorem dX12_undone_85 : decode cX12_undone 85 = .ok (.ldc2_w 270, 3) := by decide +kernel
theorem dX12_undone_88 : decode cX12_undone 88 = .ok (.lload 7, 2) := by decide +kernel
theorem dX12_undone_90 : decode cX12_undone 90 = .ok (.lmul, 1) := by decide +kernel
theorem dX12_undone_91 : decode cX12_undone 91 = .ok (.lcmp, 1) := by decide +kernel
theorem dX12_undone_92 : decode cX12_undone 92 = .ok (.ifCond .gt 111, 3) := by decide +kernel
theorem dX12_undone_95 : decode cX12_undone 95 = .ok (.lload 9, 2) := by decide +kernel
theorem dX12_undone_97 : decode cX12_undone 97 = .ok (.lload 7, 2) := by decide +kernel
theorem dX12_undone_99 : decode cX12_undone 99 = .ok (.lsub, 1) := by decide +kernel
theorem dX12_undone_100 : decode cX12_undone 100 = .ok (.lstore 13, 2) := by decide +kernel
theorem dX12_undone_102 : decode cX12_undone 102 = .ok (.lload 7, 2) := by decide +kernel
theorem dX12_undone_104 : decode cX12_undone 104 = .ok (.lload 13, 2) := by decide +kernel
theorem dX12_undone_106 : decode cX12_undone 106 = .ok (.ldiv, 1) := by decide +kernel
theorem dX12_undone_107 : decode cX12_undone 107 = .ok (.lstore 15, 2) := by decide +kernel
theorem dX12_undone_109 : decode cX12_undone 109 = .ok (.aload_n 0, 1) := by decide +kernel
theorem dX12_undone_110 : decode cX12_undone 110 = .ok (.getfield 260, 3) := by decide +kernel
theorem dX12_undone_113 : decode cX12_undone 113 = .ok (.lconst 0, 1) := by decide +kernel
theorem dX12_undone_114 : decode cX12_undone 114 = .ok (.lcmp, 1) := by decide +kernel
theorem dX12_undone_115 : decode cX12_undone 115 = .ok (.ifCond .lt 39, 3) := by decide +kernel
theorem dX12_undone_118 : decode cX12_undone 118 = .ok (.aload_n 0, 1) := by decide +kernel
theorem dX12_undone_119 : decode cX12_undone 119 = .ok (.getfield 260, 3) := by decide +kernel
theorem dX12_undone_122 : decode cX12_undone 122 = .ok (.ldc2_w 272, 3) := by decide +kernel
theorem dX12_undone_125 : decode cX12_undone 125 = .ok (.lload 15, 2) := by decide +kernel
theorem dX12_undone_127 : decode cX12_undone 127 = .ok (.lmul, 1) := by decide +kernel
theorem dX12_undone_128 : decode cX12_undone 128 = .ok (.lcmp, 1) := by decide +kernel
theorem dX12_undone_129 : decode cX12_undone 129 = .ok (.ifCond .ge 25, 3) := by decide +kernel
theorem dX12_undone_132 : decode cX12_undone 132 = .ok (.aload_n 0, 1) := by decide +kernel
theorem dX12_undone_133 : decode cX12_undone 133 = .ok (.aload_n 0, 1) := by decide +kernel
theorem dX12_undone_134 : decode cX12_undone 134 = .ok (.getfield 260, 3) := by decide +kernel
theorem dX12_undone_137 : decode cX12_undone 137 = .ok (.ldc2_w 272, 3) := by decide +kernel
theorem dX12_undone_140 : decode cX12_undone 140 = .ok (.lrem, 1) := by decide +kernel
theorem dX12_undone_141 : decode cX12_undone 141 = .ok (.lconst 0, 1) := by decide +kernel
theorem dX12_undone_142 : decode cX12_undone 142 = .ok (.lcmp, 1) := by decide +kernel
theorem dX12_undone_143 : decode cX12_undone 143 = .ok (.ifCond .ne 7, 3) := by decide +kernel
theorem dX12_undone_146 : decode cX12_undone 146 = .ok (.iconst 2, 1) := by decide +kernel
theorem dX12_undone_147 : decode cX12_undone 147 = .ok (.goto 4, 3) := by decide +kernel
theorem dX12_undone_150 : decode cX12_undone 150 = .ok (.iconst 0, 1) := by decide +kernel
theorem dX12_undone_151 : decode cX12_undone 151 = .ok (.putfield 263, 3) := by decide +kernel
theorem dX12_undone_154 : decode cX12_undone 154 = .ok (.aload_n 0, 1) := by decide +kernel
theorem dX12_undone_155 : decode cX12_undone 155 = .ok (.dup, 1) := by decide +kernel
theorem dX12_undone_156 : decode cX12_undone 156 = .ok (.getfield 260, 3) := by decide +kernel
theorem dX12_undone_159 : decode cX12_undone 159 = .ok (.ldc2_w 272, 3) := by decide +kernel
theorem dX12_undone_162 : decode cX12_undone 162 = .ok (.lload 15, 2) := by decide +kernel
theorem dX12_undone_164 : decode cX12_undone 164 = .ok (.lmul, 1) := by decide +kernel
theorem dX12_undone_165 : decode cX12_undone 165 = .ok (.lsub, 1) := by decide +kernel
theorem dX12_undone_166 : decode cX12_undone 166 = .ok (.putfield 260, 3) := by decide +kernel
theorem dX12_undone_169 : decode cX12_undone 169 = .ok (.lload 11, 2) := by decide +kernel
theorem dX12_undone_171 : decode cX12_undone 171 = .ok (.ldc2_w 272, 3) := by decide +kernel
theorem dX12_undone_174 : decode cX12_undone 174 = .ok (.lload 15, 2) := by decide +kernel
theorem dX12_undone_176 : decode cX12_undone 176 = .ok (.lmul, 1) := by decide +kernel
theorem dX12_undone_177 : decode cX12_undone 177 = .ok (.ladd, 1) := by decide +kernel
theorem dX12_undone_178 : decode cX12_undone 178 = .ok (.lstore 11, 2) := by decide +kernel
theorem dX12_undone_180 : decode cX12_undone 180 = .ok (.lload 7, 2) := by decide +kernel
theorem dX12_undone_182 : decode cX12_undone 182 = .ok (.lload 15, 2) := by decide +kernel
theorem dX12_undone_184 : decode cX12_undone 184 = .ok (.lload 13, 2) := by decide +kernel
theorem dX12_undone_186 : decode cX12_undone 186 = .ok (.lmul, 1) := by decide +kernel
theorem dX12_undone_187 : decode cX12_undone 187 = .ok (.lsub, 1) := by decide +kernel
theorem dX12_undone_188 : decode cX12_undone 188 = .ok (.lstore 7, 2) := by decide +kernel
theorem dX12_undone_190 : decode cX12_undone 190 = .ok (.lload 9, 2) := by decide +kernel
theorem dX12_undone_192 : decode cX12_undone 192 = .ok (.lload 15, 2) := by decide +kernel
theorem dX12_undone_194 : decode cX12_undone 194 = .ok (.lload 13, 2) := by decide +kernel
theorem dX12_undone_196 : decode cX12_undone 196 = .ok (.lmul, 1) := by decide +kernel
theorem dX12_undone_197 : decode cX12_undone 197 = .ok (.lsub, 1) := by decide +kernel
theorem dX12_undone_198 : decode cX12_undone 198 = .ok (.lstore 9, 2) := by decide +kernel
theorem dX12_undone_200 : decode cX12_undone 200 = .ok (.goto (-180), 3) := by decide +kernel
theorem dX12_undone_203 : decode cX12_undone 203 = .ok (.aload_n 0, 1) := by decide +kernel
theorem dX12_undone_204 : decode cX12_undone 204 = .ok (.lconst 1, 1) := by decide +kernel
theorem dX12_undone_205 : decode cX12_undone 205 = .ok (.iconst 2, 1) := by decide +kernel
theorem dX12_undone_206 : decode cX12_undone 206 = .ok (.invokevirtual 266, 3) := by decide +kernel
theorem dX12_undone_209 : decode cX12_undone 209 = .ok (.pop, 1) := by decide +kernel
theorem dX12_undone_210 : decode cX12_undone 210 = .ok (.lload 11, 2) := by decide +kernel
theorem dX12_undone_212 : decode cX12_undone 212 = .ok (.lconst 1, 1) := by decide +kernel
theorem dX12_undone_213 : decode cX12_undone 213 = .ok (.ladd, 1) := by decide +kernel
theorem dX12_undone_214 : decode cX12_undone 214 = .ok (.lstore 11, 2) := by decide +kernel
theorem dX12_undone_216 : decode cX12_undone 216 = .ok (.lload 7, 2) := by decide +kernel
theorem dX12_undone_218 : decode cX12_undone 218 = .ok (.lstore 13, 2) := by decide +kernel
theorem dX12_undone_220 : decode cX12_undone 220 = .ok (.lload 9, 2) := by decide +kernel
theorem dX12_undone_222 : decode cX12_undone 222 = .ok (.lneg, 1) := by decide +kernel
theorem dX12_undone_223 : decode cX12_undone 223 = .ok (.lstore 7, 2) := by decide +kernel
theorem dX12_undone_225 : decode cX12_undone 225 = .ok (.lload 13, 2) := by decide +kernel
theorem dX12_undone_227 : decode cX12_undone 227 = .ok (.lstore 9, 2) := by decide +kernel
theorem dX12_undone_229 : decode cX12_undone 229 = .ok (.lload 7, 2) := by decide +kernel
theorem dX12_undone_231 : decode cX12_undone 231 = .ok (.lconst 0, 1) := by decide +kernel
theorem dX12_undone_232 : decode cX12_undone 232 = .ok (.lcmp, 1) := by decide +kernel
theorem dX12_undone_233 : decode cX12_undone 233 = .ok (.ifCond .ne 6, 3) := by decide +kernel
theorem dX12_undone_236 : decode cX12_undone 236 = .ok (.lconst 1, 1) := by decide +kernel
theorem dX12_undone_237 : decode cX12_undone 237 = .ok (.lstore 9, 2) := by decide +kernel
theorem dX12_undone_239 : decode cX12_undone 239 = .ok (.goto (-219), 3) := by decide +kernel
theorem dX12_undone_242 : decode cX12_undone 242 = .ok (.lload 11, 2) := by decide +kernel
theorem dX12_undone_244 : decode cX12_undone 244 = .ok (.lreturn, 1) := by decide +kernel
theorem dX12_undo_0 : decode cX12_undo 0 = .ok (.aload_n 0, 1) := by decide +kernel
theorem dX12_undo_1 : decode cX12_undo 1 = .ok (.aload_n 0, 1) := by decide +kernel
theorem dX12_undo_2 : decode cX12_undo 2 = .ok (.getfield 147, 3) := by decide +kernel
theorem dX12_undo_5 : decode cX12_undo 5 = .ok (.aload_n 0, 1) := by decide +kernel
theorem dX12_undo_6 : decode cX12_undo 6 = .ok (.getfield 16, 3) := by decide +kernel
theorem dX12_undo_9 : decode cX12_undo 9 = .ok (.ldc2_w 274, 3) := by decide +kernel
theorem dX12_undo_12 : decode cX12_undo 12 = .ok (.invokevirtual 276, 3) := by decide +kernel
theorem dX12_undo_15 : decode cX12_undo 15 = .ok (.lreturn, 1) := by decide +kernel
theorem dX12_undoes_0 : decode cX12_undoes 0 = .ok (.lload_n 1, 1) := by decide +kernel
theorem dX12_undoes_1 : decode cX12_undoes 1 = .ok (.lconst 0, 1) := by decide +kernel
theorem dX12_undoes_2 : decode cX12_undoes 2 = .ok (.lcmp, 1) := by decide +kernel
theorem dX12_undoes_3 : decode cX12_undoes 3 = .ok (.ifCond .lt 23, 3) := by decide +kernel
theorem dX12_undoes_6 : decode cX12_undoes 6 = .ok (.lload_n 1, 1) := by decide +kernel
theorem dX12_undoes_7 : decode cX12_undoes 7 = .ok (.aload_n 0, 1) := by decide +kernel
theorem dX12_undoes_8 : decode cX12_undoes 8 = .ok (.aload_n 0, 1) := by decide +kernel
theorem dX12_undoes_9 : decode cX12_undoes 9 = .ok (.getfield 147, 3) := by decide +kernel
theorem dX12_undoes_12 : decode cX12_undoes 12 = .ok (.aload_n 0, 1) := by decide +kernel
theorem dX12_undoes_13 : decode cX12_undoes 13 = .ok (.getfield 16, 3) := by decide +kernel
theorem dX12_undoes_16 : decode cX12_undoes 16 = .ok (.ldc2_w 274, 3) := by decide +kernel
theorem dX12_undoes_19 : decode cX12_undoes 19 = .ok (.invokevirtual 276, 3) := by decide +kernel
theorem dX12_undoes_22 : decode cX12_undoes 22 = .ok (.lcmp, 1) := by decide +kernel
theorem dX12_undoes_23 : decode cX12_undoes 23 = .ok (.ifCond .lt 10, 3) := by decide +kernel
theorem dX12_undoes_26 : decode cX12_undoes 26 = .ok (.aload_n 0, 1) := by decide +kernel
theorem dX12_undoes_27 : decode cX12_undoes 27 = .ok (.bipush (-5), 2) := by decide +kernel
theorem dX12_undoes_29 : decode cX12_undoes 29 = .ok (.invokevirtual 115, 3) := by decide +kernel
theorem dX12_undoes_32 : decode cX12_undoes 32 = .ok (.ireturn, 1) := by decide +kernel
theorem dX12_undoes_33 : decode cX12_undoes 33 = .ok (.aload_n 0, 1) := by decide +kernel
theorem dX12_undoes_34 : decode cX12_undoes 34 = .ok (.aload_n 0, 1) := by decide +kernel
theorem dX12_undoes_35 : decode cX12_undoes 35 = .ok (.getfield 147, 3) := by decide +kernel
theorem dX12_undoes_38 : decode cX12_undoes 38 = .ok (.aload_n 0, 1) := by decide +kernel
theorem dX12_undoes_39 : decode cX12_undoes 39 = .ok (.getfield 16, 3) := by decide +kernel
theorem dX12_undoes_42 : decode cX12_undoes 42 = .ok (.lload_n 1, 1) := by decide +kernel
theorem dX12_undoes_43 : decode cX12_undoes 43 = .ok (.invokevirtual 276, 3) := by decide +kernel
theorem dX12_undoes_46 : decode cX12_undoes 46 = .ok (.pop2, 1) := by decide +kernel
theorem dX12_undoes_47 : decode cX12_undoes 47 = .ok (.aload_n 0, 1) := by decide +kernel
theorem dX12_undoes_48 : decode cX12_undoes 48 = .ok (.getfield 263, 3) := by decide +kernel
theorem dX12_undoes_51 : decode cX12_undoes 51 = .ok (.ireturn, 1) := by decide +kernel
theorem dX12_made_0 : decode cX12_made 0 = .ok (.aload_n 0, 1) := by decide +kernel
theorem dX12_made_1 : decode cX12_made 1 = .ok (.lload_n 1, 1) := by decide +kernel
theorem dX12_made_2 : decode cX12_made 2 = .ok (.lload_n 3, 1) := by decide +kernel
theorem dX12_made_3 : decode cX12_made 3 = .ok (.invokevirtual 143, 3) := by decide +kernel
theorem dX12_made_6 : decode cX12_made 6 = .ok (.ifCond .ne 10, 3) := by decide +kernel
theorem dX12_made_9 : decode cX12_made 9 = .ok (.aload_n 0, 1) := by decide +kernel
theorem dX12_made_10 : decode cX12_made 10 = .ok (.bipush (-6), 2) := by decide +kernel
theorem dX12_made_12 : decode cX12_made 12 = .ok (.invokevirtual 115, 3) := by decide +kernel
theorem dX12_made_15 : decode cX12_made 15 = .ok (.ireturn, 1) := by decide +kernel
theorem dX12_made_16 : decode cX12_made 16 = .ok (.aload_n 0, 1) := by decide +kernel
theorem dX12_made_17 : decode cX12_made 17 = .ok (.lload_n 1, 1) := by decide +kernel
theorem dX12_made_18 : decode cX12_made 18 = .ok (.lload_n 3, 1) := by decide +kernel
theorem dX12_made_19 : decode cX12_made 19 = .ok (.ldc2_w 274, 3) := by decide +kernel
theorem dX12_made_22 : decode cX12_made 22 = .ok (.invokevirtual 276, 3) := by decide +kernel
theorem dX12_made_25 : decode cX12_made 25 = .ok (.lstore 7, 2) := by decide +kernel
theorem dX12_made_27 : decode cX12_made 27 = .ok (.lload 5, 2) := by decide +kernel
theorem dX12_made_29 : decode cX12_made 29 = .ok (.lconst 0, 1) := by decide +kernel
theorem dX12_made_30 : decode cX12_made 30 = .ok (.lcmp, 1) := by decide +kernel
theorem dX12_made_31 : decode cX12_made 31 = .ok (.ifCond .lt 11, 3) := by decide +kernel
theorem dX12_made_34 : decode cX12_made 34 = .ok (.lload 5, 2) := by decide +kernel
theorem dX12_made_36 : decode cX12_made 36 = .ok (.lload 7, 2) := by decide +kernel
theorem dX12_made_38 : decode cX12_made 38 = .ok (.lcmp, 1) := by decide +kernel
theorem dX12_made_39 : decode cX12_made 39 = .ok (.ifCond .lt 10, 3) := by decide +kernel
theorem dX12_made_42 : decode cX12_made 42 = .ok (.aload_n 0, 1) := by decide +kernel
theorem dX12_made_43 : decode cX12_made 43 = .ok (.bipush (-5), 2) := by decide +kernel
theorem dX12_made_45 : decode cX12_made 45 = .ok (.invokevirtual 115, 3) := by decide +kernel
theorem dX12_made_48 : decode cX12_made 48 = .ok (.ireturn, 1) := by decide +kernel
theorem dX12_made_49 : decode cX12_made 49 = .ok (.aload_n 0, 1) := by decide +kernel
theorem dX12_made_50 : decode cX12_made 50 = .ok (.lload_n 1, 1) := by decide +kernel
theorem dX12_made_51 : decode cX12_made 51 = .ok (.lload_n 3, 1) := by decide +kernel
theorem dX12_made_52 : decode cX12_made 52 = .ok (.lload 7, 2) := by decide +kernel
theorem dX12_made_54 : decode cX12_made 54 = .ok (.lconst 1, 1) := by decide +kernel
theorem dX12_made_55 : decode cX12_made 55 = .ok (.lsub, 1) := by decide +kernel
theorem dX12_made_56 : decode cX12_made 56 = .ok (.lload 5, 2) := by decide +kernel
theorem dX12_made_58 : decode cX12_made 58 = .ok (.lsub, 1) := by decide +kernel
theorem dX12_made_59 : decode cX12_made 59 = .ok (.invokevirtual 276, 3) := by decide +kernel
theorem dX12_made_62 : decode cX12_made 62 = .ok (.pop2, 1) := by decide +kernel
theorem dX12_made_63 : decode cX12_made 63 = .ok (.aload_n 0, 1) := by decide +kernel
theorem dX12_made_64 : decode cX12_made 64 = .ok (.getfield 263, 3) := by decide +kernel
theorem dX12_made_67 : decode cX12_made 67 = .ok (.ifCond .ne 7, 3) := by decide +kernel
theorem dX12_made_70 : decode cX12_made 70 = .ok (.iconst 1, 1) := by decide +kernel
theorem dX12_made_71 : decode cX12_made 71 = .ok (.goto 4, 3) := by decide +kernel
theorem dX12_made_74 : decode cX12_made 74 = .ok (.iconst 2, 1) := by decide +kernel
theorem dX12_made_75 : decode cX12_made 75 = .ok (.ireturn, 1) := by decide +kernel
theorem dX12_finds_0 : decode cX12_finds 0 = .ok (.iload_n 1, 1) := by decide +kernel
theorem dX12_finds_1 : decode cX12_finds 1 = .ok (.iload_n 2, 1) := by decide +kernel
theorem dX12_finds_2 : decode cX12_finds 2 = .ok (.if_icmp .ne 33, 3) := by decide +kernel
theorem dX12_finds_5 : decode cX12_finds 5 = .ok (.aload_n 0, 1) := by decide +kernel
theorem dX12_finds_6 : decode cX12_finds 6 = .ok (.getfield 150, 3) := by decide +kernel
theorem dX12_finds_9 : decode cX12_finds 9 = .ok (.aload_n 0, 1) := by decide +kernel
theorem dX12_finds_10 : decode cX12_finds 10 = .ok (.getfield 280, 3) := by decide +kernel
theorem dX12_finds_13 : decode cX12_finds 13 = .ok (.lcmp, 1) := by decide +kernel
theorem dX12_finds_14 : decode cX12_finds 14 = .ok (.ifCond .ne 19, 3) := by decide +kernel
theorem dX12_finds_17 : decode cX12_finds 17 = .ok (.aload_n 0, 1) := by decide +kernel
theorem dX12_finds_18 : decode cX12_finds 18 = .ok (.getfield 153, 3) := by decide +kernel
theorem dX12_finds_21 : decode cX12_finds 21 = .ok (.aload_n 0, 1) := by decide +kernel
theorem dX12_finds_22 : decode cX12_finds 22 = .ok (.getfield 283, 3) := by decide +kernel
theorem dX12_finds_25 : decode cX12_finds 25 = .ok (.lcmp, 1) := by decide +kernel
theorem dX12_finds_26 : decode cX12_finds 26 = .ok (.ifCond .ne 7, 3) := by decide +kernel
theorem dX12_finds_29 : decode cX12_finds 29 = .ok (.iconst 1, 1) := by decide +kernel
theorem dX12_finds_30 : decode cX12_finds 30 = .ok (.goto 4, 3) := by decide +kernel
theorem dX12_finds_33 : decode cX12_finds 33 = .ok (.iconst 0, 1) := by decide +kernel
theorem dX12_finds_34 : decode cX12_finds 34 = .ok (.ireturn, 1) := by decide +kernel
theorem dX12_finds_35 : decode cX12_finds 35 = .ok (.aload_n 0, 1) := by decide +kernel
theorem dX12_finds_36 : decode cX12_finds 36 = .ok (.getfield 150, 3) := by decide +kernel
theorem dX12_finds_39 : decode cX12_finds 39 = .ok (.lstore_n 3, 1) := by decide +kernel
theorem dX12_finds_40 : decode cX12_finds 40 = .ok (.aload_n 0, 1) := by decide +kernel
theorem dX12_finds_41 : decode cX12_finds 41 = .ok (.getfield 153, 3) := by decide +kernel
theorem dX12_finds_44 : decode cX12_finds 44 = .ok (.lstore 5, 2) := by decide +kernel
theorem dX12_finds_46 : decode cX12_finds 46 = .ok (.iconst 0, 1) := by decide +kernel
theorem dX12_finds_47 : decode cX12_finds 47 = .ok (.istore 7, 2) := by decide +kernel
theorem dX12_finds_49 : decode cX12_finds 49 = .ok (.iload 7, 2) := by decide +kernel
theorem dX12_finds_51 : decode cX12_finds 51 = .ok (.iconst 3, 1) := by decide +kernel
theorem dX12_finds_52 : decode cX12_finds 52 = .ok (.if_icmp .ge 51, 3) := by decide +kernel
theorem dX12_finds_55 : decode cX12_finds 55 = .ok (.aload_n 0, 1) := by decide +kernel
theorem dX12_finds_56 : decode cX12_finds 56 = .ok (.getfield 79, 3) := by decide +kernel
theorem dX12_finds_59 : decode cX12_finds 59 = .ok (.iload_n 1, 1) := by decide +kernel
theorem dX12_finds_60 : decode cX12_finds 60 = .ok (.iload 7, 2) := by decide +kernel
theorem dX12_finds_62 : decode cX12_finds 62 = .ok (.iastore, 1) := by decide +kernel
theorem dX12_finds_63 : decode cX12_finds 63 = .ok (.aload_n 0, 1) := by decide +kernel
theorem dX12_finds_64 : decode cX12_finds 64 = .ok (.iload 7, 2) := by decide +kernel
theorem dX12_finds_66 : decode cX12_finds 66 = .ok (.invokevirtual 286, 3) := by decide +kernel
theorem dX12_finds_69 : decode cX12_finds 69 = .ok (.aload_n 0, 1) := by decide +kernel
theorem dX12_finds_70 : decode cX12_finds 70 = .ok (.iload_n 1, 1) := by decide +kernel
theorem dX12_finds_71 : decode cX12_finds 71 = .ok (.iconst 1, 1) := by decide +kernel
theorem dX12_finds_72 : decode cX12_finds 72 = .ok (.iadd, 1) := by decide +kernel
theorem dX12_finds_73 : decode cX12_finds 73 = .ok (.iload_n 2, 1) := by decide +kernel
theorem dX12_finds_74 : decode cX12_finds 74 = .ok (.invokevirtual 289, 3) := by decide +kernel
theorem dX12_finds_77 : decode cX12_finds 77 = .ok (.istore 8, 2) := by decide +kernel
theorem dX12_finds_79 : decode cX12_finds 79 = .ok (.aload_n 0, 1) := by decide +kernel
theorem dX12_finds_80 : decode cX12_finds 80 = .ok (.lload_n 3, 1) := by decide +kernel
theorem dX12_finds_81 : decode cX12_finds 81 = .ok (.putfield 150, 3) := by decide +kernel
theorem dX12_finds_84 : decode cX12_finds 84 = .ok (.aload_n 0, 1) := by decide +kernel
theorem dX12_finds_85 : decode cX12_finds 85 = .ok (.lload 5, 2) := by decide +kernel
theorem dX12_finds_87 : decode cX12_finds 87 = .ok (.putfield 153, 3) := by decide +kernel
theorem dX12_finds_90 : decode cX12_finds 90 = .ok (.iload 8, 2) := by decide +kernel
theorem dX12_finds_92 : decode cX12_finds 92 = .ok (.ifCond .eq 5, 3) := by decide +kernel
theorem dX12_finds_95 : decode cX12_finds 95 = .ok (.iconst 1, 1) := by decide +kernel
theorem dX12_finds_96 : decode cX12_finds 96 = .ok (.ireturn, 1) := by decide +kernel
theorem dX12_finds_97 : decode cX12_finds 97 = .ok (.iinc 7 1, 3) := by decide +kernel
theorem dX12_finds_100 : decode cX12_finds 100 = .ok (.goto (-51), 3) := by decide +kernel
theorem dX12_finds_103 : decode cX12_finds 103 = .ok (.iconst 0, 1) := by decide +kernel
theorem dX12_finds_104 : decode cX12_finds 104 = .ok (.ireturn, 1) := by decide +kernel
theorem dX12_zero_0 : decode cX12_zero 0 = .ok (.aload_n 0, 1) := by decide +kernel
theorem dX12_zero_1 : decode cX12_zero 1 = .ok (.lconst 0, 1) := by decide +kernel
theorem dX12_zero_2 : decode cX12_zero 2 = .ok (.putfield 150, 3) := by decide +kernel
theorem dX12_zero_5 : decode cX12_zero 5 = .ok (.aload_n 0, 1) := by decide +kernel
theorem dX12_zero_6 : decode cX12_zero 6 = .ok (.lconst 1, 1) := by decide +kernel
theorem dX12_zero_7 : decode cX12_zero 7 = .ok (.putfield 153, 3) := by decide +kernel
theorem dX12_zero_10 : decode cX12_zero 10 = .ok (.return_, 1) := by decide +kernel
theorem dX12_least_0 : decode cX12_least 0 = .ok (.aload_n 0, 1) := by decide +kernel
theorem dX12_least_1 : decode cX12_least 1 = .ok (.lload_n 1, 1) := by decide +kernel
theorem dX12_least_2 : decode cX12_least 2 = .ok (.lload_n 3, 1) := by decide +kernel
theorem dX12_least_3 : decode cX12_least 3 = .ok (.invokevirtual 143, 3) := by decide +kernel
theorem dX12_least_6 : decode cX12_least 6 = .ok (.ifCond .ne 10, 3) := by decide +kernel
theorem dX12_least_9 : decode cX12_least 9 = .ok (.aload_n 0, 1) := by decide +kernel
theorem dX12_least_10 : decode cX12_least 10 = .ok (.bipush (-6), 2) := by decide +kernel
theorem dX12_least_12 : decode cX12_least 12 = .ok (.invokevirtual 292, 3) := by decide +kernel
theorem dX12_least_15 : decode cX12_least 15 = .ok (.ireturn, 1) := by decide +kernel
theorem dX12_least_16 : decode cX12_least 16 = .ok (.aload_n 0, 1) := by decide +kernel
theorem dX12_least_17 : decode cX12_least 17 = .ok (.lload_n 1, 1) := by decide +kernel
theorem dX12_least_18 : decode cX12_least 18 = .ok (.putfield 280, 3) := by decide +kernel
theorem dX12_least_21 : decode cX12_least 21 = .ok (.aload_n 0, 1) := by decide +kernel
theorem dX12_least_22 : decode cX12_least 22 = .ok (.lload_n 3, 1) := by decide +kernel
theorem dX12_least_23 : decode cX12_least 23 = .ok (.putfield 283, 3) := by decide +kernel
theorem dX12_least_26 : decode cX12_least 26 = .ok (.iconst 0, 1) := by decide +kernel
theorem dX12_least_27 : decode cX12_least 27 = .ok (.istore 6, 2) := by decide +kernel
theorem dX12_least_29 : decode cX12_least 29 = .ok (.iload 6, 2) := by decide +kernel
theorem dX12_least_31 : decode cX12_least 31 = .ok (.bipush 9, 2) := by decide +kernel
theorem dX12_least_33 : decode cX12_least 33 = .ok (.if_icmp .gt 65, 3) := by decide +kernel
theorem dX12_least_36 : decode cX12_least 36 = .ok (.aload_n 0, 1) := by decide +kernel
theorem dX12_least_37 : decode cX12_least 37 = .ok (.invokevirtual 295, 3) := by decide +kernel
theorem dX12_least_40 : decode cX12_least 40 = .ok (.aload_n 0, 1) := by decide +kernel
theorem dX12_least_41 : decode cX12_least 41 = .ok (.iconst 0, 1) := by decide +kernel
theorem dX12_least_42 : decode cX12_least 42 = .ok (.iload 6, 2) := by decide +kernel
theorem dX12_least_44 : decode cX12_least 44 = .ok (.invokevirtual 289, 3) := by decide +kernel
theorem dX12_least_47 : decode cX12_least 47 = .ok (.ifCond .ne 6, 3) := by decide +kernel
theorem dX12_least_50 : decode cX12_least 50 = .ok (.goto 42, 3) := by decide +kernel
theorem dX12_least_53 : decode cX12_least 53 = .ok (.iload 5, 2) := by decide +kernel
theorem dX12_least_55 : decode cX12_least 55 = .ok (.iconst (-1), 1) := by decide +kernel
theorem dX12_least_56 : decode cX12_least 56 = .ok (.if_icmp .lt 10, 3) := by decide +kernel
theorem dX12_least_59 : decode cX12_least 59 = .ok (.iload 5, 2) := by decide +kernel
theorem dX12_least_61 : decode cX12_least 61 = .ok (.iload 6, 2) := by decide +kernel
theorem dX12_least_63 : decode cX12_least 63 = .ok (.if_icmp .lt 10, 3) := by decide +kernel
theorem dX12_least_66 : decode cX12_least 66 = .ok (.aload_n 0, 1) := by decide +kernel
theorem dX12_least_67 : decode cX12_least 67 = .ok (.bipush (-5), 2) := by decide +kernel
theorem dX12_least_69 : decode cX12_least 69 = .ok (.invokevirtual 292, 3) := by decide +kernel
theorem dX12_least_72 : decode cX12_least 72 = .ok (.ireturn, 1) := by decide +kernel
theorem dX12_least_73 : decode cX12_least 73 = .ok (.iload 5, 2) := by decide +kernel
theorem dX12_least_75 : decode cX12_least 75 = .ok (.iconst (-1), 1) := by decide +kernel
theorem dX12_least_76 : decode cX12_least 76 = .ok (.if_icmp .ne 8, 3) := by decide +kernel
theorem dX12_least_79 : decode cX12_least 79 = .ok (.iload 6, 2) := by decide +kernel
theorem dX12_least_81 : decode cX12_least 81 = .ok (.goto 10, 3) := by decide +kernel
theorem dX12_least_84 : decode cX12_least 84 = .ok (.aload_n 0, 1) := by decide +kernel
theorem dX12_least_85 : decode cX12_least 85 = .ok (.getfield 79, 3) := by decide +kernel
theorem dX12_least_88 : decode cX12_least 88 = .ok (.iload 5, 2) := by decide +kernel
theorem dX12_least_90 : decode cX12_least 90 = .ok (.iaload, 1) := by decide +kernel
theorem dX12_least_91 : decode cX12_least 91 = .ok (.ireturn, 1) := by decide +kernel
theorem dX12_least_92 : decode cX12_least 92 = .ok (.iinc 6 1, 3) := by decide +kernel
theorem dX12_least_95 : decode cX12_least 95 = .ok (.goto (-66), 3) := by decide +kernel
theorem dX12_least_98 : decode cX12_least 98 = .ok (.aload_n 0, 1) := by decide +kernel
theorem dX12_least_99 : decode cX12_least 99 = .ok (.bipush (-5), 2) := by decide +kernel
theorem dX12_least_101 : decode cX12_least 101 = .ok (.invokevirtual 292, 3) := by decide +kernel
theorem dX12_least_104 : decode cX12_least 104 = .ok (.ireturn, 1) := by decide +kernel
theorem dX12_cheaper_0 : decode cX12_cheaper 0 = .ok (.aload_n 0, 1) := by decide +kernel
theorem dX12_cheaper_1 : decode cX12_cheaper 1 = .ok (.getfield 150, 3) := by decide +kernel
theorem dX12_cheaper_4 : decode cX12_cheaper 4 = .ok (.aload_n 0, 1) := by decide +kernel
theorem dX12_cheaper_5 : decode cX12_cheaper 5 = .ok (.getfield 280, 3) := by decide +kernel
theorem dX12_cheaper_8 : decode cX12_cheaper 8 = .ok (.lcmp, 1) := by decide +kernel
theorem dX12_cheaper_9 : decode cX12_cheaper 9 = .ok (.ifCond .ne 82, 3) := by decide +kernel
theorem dX12_cheaper_12 : decode cX12_cheaper 12 = .ok (.aload_n 0, 1) := by decide +kernel
theorem dX12_cheaper_13 : decode cX12_cheaper 13 = .ok (.getfield 153, 3) := by decide +kernel
theorem dX12_cheaper_16 : decode cX12_cheaper 16 = .ok (.aload_n 0, 1) := by decide +kernel
theorem dX12_cheaper_17 : decode cX12_cheaper 17 = .ok (.getfield 283, 3) := by decide +kernel
theorem dX12_cheaper_20 : decode cX12_cheaper 20 = .ok (.lcmp, 1) := by decide +kernel
theorem dX12_cheaper_21 : decode cX12_cheaper 21 = .ok (.ifCond .ne 70, 3) := by decide +kernel
theorem dX12_cheaper_24 : decode cX12_cheaper 24 = .ok (.aload_n 0, 1) := by decide +kernel
theorem dX12_cheaper_25 : decode cX12_cheaper 25 = .ok (.getfield 298, 3) := by decide +kernel
theorem dX12_cheaper_28 : decode cX12_cheaper 28 = .ok (.iconst (-1), 1) := by decide +kernel
theorem dX12_cheaper_29 : decode cX12_cheaper 29 = .ok (.if_icmp .eq 27, 3) := by decide +kernel
theorem dX12_cheaper_32 : decode cX12_cheaper 32 = .ok (.iload_n 2, 1) := by decide +kernel
theorem dX12_cheaper_33 : decode cX12_cheaper 33 = .ok (.aload_n 0, 1) := by decide +kernel
theorem dX12_cheaper_34 : decode cX12_cheaper 34 = .ok (.getfield 301, 3) := by decide +kernel
theorem dX12_cheaper_37 : decode cX12_cheaper 37 = .ok (.if_icmp .lt 19, 3) := by decide +kernel
theorem dX12_cheaper_40 : decode cX12_cheaper 40 = .ok (.iload_n 2, 1) := by decide +kernel
theorem dX12_cheaper_41 : decode cX12_cheaper 41 = .ok (.aload_n 0, 1) := by decide +kernel
theorem dX12_cheaper_42 : decode cX12_cheaper 42 = .ok (.getfield 301, 3) := by decide +kernel
theorem dX12_cheaper_45 : decode cX12_cheaper 45 = .ok (.if_icmp .ne 46, 3) := by decide +kernel
theorem dX12_cheaper_48 : decode cX12_cheaper 48 = .ok (.iload_n 1, 1) := by decide +kernel
theorem dX12_cheaper_49 : decode cX12_cheaper 49 = .ok (.aload_n 0, 1) := by decide +kernel
theorem dX12_cheaper_50 : decode cX12_cheaper 50 = .ok (.getfield 298, 3) := by decide +kernel
theorem dX12_cheaper_53 : decode cX12_cheaper 53 = .ok (.if_icmp .ge 38, 3) := by decide +kernel
theorem dX12_cheaper_56 : decode cX12_cheaper 56 = .ok (.aload_n 0, 1) := by decide +kernel
theorem dX12_cheaper_57 : decode cX12_cheaper 57 = .ok (.iload_n 1, 1) := by decide +kernel
theorem dX12_cheaper_58 : decode cX12_cheaper 58 = .ok (.putfield 298, 3) := by decide +kernel
theorem dX12_cheaper_61 : decode cX12_cheaper 61 = .ok (.aload_n 0, 1) := by decide +kernel
theorem dX12_cheaper_62 : decode cX12_cheaper 62 = .ok (.iload_n 2, 1) := by decide +kernel
theorem dX12_cheaper_63 : decode cX12_cheaper 63 = .ok (.putfield 301, 3) := by decide +kernel
theorem dX12_cheaper_66 : decode cX12_cheaper 66 = .ok (.iconst 0, 1) := by decide +kernel
theorem dX12_cheaper_67 : decode cX12_cheaper 67 = .ok (.istore_n 3, 1) := by decide +kernel
theorem dX12_cheaper_68 : decode cX12_cheaper 68 = .ok (.iload_n 3, 1) := by decide +kernel
theorem dX12_cheaper_69 : decode cX12_cheaper 69 = .ok (.iload_n 1, 1) := by decide +kernel
theorem dX12_cheaper_70 : decode cX12_cheaper 70 = .ok (.if_icmp .ge 21, 3) := by decide +kernel
theorem dX12_cheaper_73 : decode cX12_cheaper 73 = .ok (.aload_n 0, 1) := by decide +kernel
theorem dX12_cheaper_74 : decode cX12_cheaper 74 = .ok (.getfield 82, 3) := by decide +kernel
theorem dX12_cheaper_77 : decode cX12_cheaper 77 = .ok (.iload_n 3, 1) := by decide +kernel
theorem dX12_cheaper_78 : decode cX12_cheaper 78 = .ok (.aload_n 0, 1) := by decide +kernel
theorem dX12_cheaper_79 : decode cX12_cheaper 79 = .ok (.getfield 79, 3) := by decide +kernel
theorem dX12_cheaper_82 : decode cX12_cheaper 82 = .ok (.iload_n 3, 1) := by decide +kernel
theorem dX12_cheaper_83 : decode cX12_cheaper 83 = .ok (.iaload, 1) := by decide +kernel
theorem dX12_cheaper_84 : decode cX12_cheaper 84 = .ok (.iastore, 1) := by decide +kernel
theorem dX12_cheaper_85 : decode cX12_cheaper 85 = .ok (.iinc 3 1, 3) := by decide +kernel
theorem dX12_cheaper_88 : decode cX12_cheaper 88 = .ok (.goto (-20), 3) := by decide +kernel
theorem dX12_cheaper_91 : decode cX12_cheaper 91 = .ok (.iload_n 1, 1) := by decide +kernel
theorem dX12_cheaper_92 : decode cX12_cheaper 92 = .ok (.bipush 7, 2) := by decide +kernel
theorem dX12_cheaper_94 : decode cX12_cheaper 94 = .ok (.if_icmp .ne 4, 3) := by decide +kernel
theorem dX12_cheaper_97 : decode cX12_cheaper 97 = .ok (.return_, 1) := by decide +kernel
theorem dX12_cheaper_98 : decode cX12_cheaper 98 = .ok (.aload_n 0, 1) := by decide +kernel
theorem dX12_cheaper_99 : decode cX12_cheaper 99 = .ok (.getfield 150, 3) := by decide +kernel
theorem dX12_cheaper_102 : decode cX12_cheaper 102 = .ok (.lstore_n 3, 1) := by decide +kernel
theorem dX12_cheaper_103 : decode cX12_cheaper 103 = .ok (.aload_n 0, 1) := by decide +kernel
theorem dX12_cheaper_104 : decode cX12_cheaper 104 = .ok (.getfield 153, 3) := by decide +kernel
theorem dX12_cheaper_107 : decode cX12_cheaper 107 = .ok (.lstore 5, 2) := by decide +kernel
theorem dX12_cheaper_109 : decode cX12_cheaper 109 = .ok (.iconst 0, 1) := by decide +kernel
theorem dX12_cheaper_110 : decode cX12_cheaper 110 = .ok (.istore 7, 2) := by decide +kernel
theorem dX12_cheaper_112 : decode cX12_cheaper 112 = .ok (.iload 7, 2) := by decide +kernel
theorem dX12_cheaper_114 : decode cX12_cheaper 114 = .ok (.iconst 3, 1) := by decide +kernel
theorem dX12_cheaper_115 : decode cX12_cheaper 115 = .ok (.if_icmp .ge 72, 3) := by decide +kernel
theorem dX12_cheaper_118 : decode cX12_cheaper 118 = .ok (.aload_n 0, 1) := by decide +kernel
theorem dX12_cheaper_119 : decode cX12_cheaper 119 = .ok (.getfield 79, 3) := by decide +kernel
theorem dX12_cheaper_122 : decode cX12_cheaper 122 = .ok (.iload_n 1, 1) := by decide +kernel
theorem dX12_cheaper_123 : decode cX12_cheaper 123 = .ok (.iload 7, 2) := by decide +kernel
theorem dX12_cheaper_125 : decode cX12_cheaper 125 = .ok (.iastore, 1) := by decide +kernel
theorem dX12_cheaper_126 : decode cX12_cheaper 126 = .ok (.aload_n 0, 1) := by decide +kernel
theorem dX12_cheaper_127 : decode cX12_cheaper 127 = .ok (.iload 7, 2) := by decide +kernel
theorem dX12_cheaper_129 : decode cX12_cheaper 129 = .ok (.invokevirtual 286, 3) := by decide +kernel
theorem dX12_cheaper_132 : decode cX12_cheaper 132 = .ok (.aload_n 0, 1) := by decide +kernel
theorem dX12_cheaper_133 : decode cX12_cheaper 133 = .ok (.iload_n 1, 1) := by decide +kernel
theorem dX12_cheaper_134 : decode cX12_cheaper 134 = .ok (.iconst 1, 1) := by decide +kernel
theorem dX12_cheaper_135 : decode cX12_cheaper 135 = .ok (.iadd, 1) := by decide +kernel
theorem dX12_cheaper_136 : decode cX12_cheaper 136 = .ok (.iload_n 2, 1) := by decide +kernel
theorem dX12_cheaper_137 : decode cX12_cheaper 137 = .ok (.iload 7, 2) := by decide +kernel
theorem dX12_cheaper_139 : decode cX12_cheaper 139 = .ok (.ifCond .ne 10, 3) := by decide +kernel
theorem dX12_cheaper_142 : decode cX12_cheaper 142 = .ok (.aload_n 0, 1) := by decide +kernel
theorem dX12_cheaper_143 : decode cX12_cheaper 143 = .ok (.getfield 304, 3) := by decide +kernel
theorem dX12_cheaper_146 : decode cX12_cheaper 146 = .ok (.goto 20, 3) := by decide +kernel
theorem dX12_cheaper_149 : decode cX12_cheaper 149 = .ok (.iload 7, 2) := by decide +kernel
theorem dX12_cheaper_151 : decode cX12_cheaper 151 = .ok (.iconst 1, 1) := by decide +kernel
theorem dX12_cheaper_152 : decode cX12_cheaper 152 = .ok (.if_icmp .ne 10, 3) := by decide +kernel
theorem dX12_cheaper_155 : decode cX12_cheaper 155 = .ok (.aload_n 0, 1) := by decide +kernel
theorem dX12_cheaper_156 : decode cX12_cheaper 156 = .ok (.getfield 307, 3) := by decide +kernel
theorem dX12_cheaper_159 : decode cX12_cheaper 159 = .ok (.goto 7, 3) := by decide +kernel
theorem dX12_cheaper_162 : decode cX12_cheaper 162 = .ok (.aload_n 0, 1) := by decide +kernel
theorem dX12_cheaper_163 : decode cX12_cheaper 163 = .ok (.getfield 310, 3) := by decide +kernel
theorem dX12_cheaper_166 : decode cX12_cheaper 166 = .ok (.iadd, 1) := by decide +kernel
theorem dX12_cheaper_167 : decode cX12_cheaper 167 = .ok (.invokevirtual 313, 3) := by decide +kernel
theorem dX12_cheaper_170 : decode cX12_cheaper 170 = .ok (.aload_n 0, 1) := by decide +kernel
theorem dX12_cheaper_171 : decode cX12_cheaper 171 = .ok (.lload_n 3, 1) := by decide +kernel
theorem dX12_cheaper_172 : decode cX12_cheaper 172 = .ok (.putfield 150, 3) := by decide +kernel
theorem dX12_cheaper_175 : decode cX12_cheaper 175 = .ok (.aload_n 0, 1) := by decide +kernel
theorem dX12_cheaper_176 : decode cX12_cheaper 176 = .ok (.lload 5, 2) := by decide +kernel
theorem dX12_cheaper_178 : decode cX12_cheaper 178 = .ok (.putfield 153, 3) := by decide +kernel
theorem dX12_cheaper_181 : decode cX12_cheaper 181 = .ok (.iinc 7 1, 3) := by decide +kernel
theorem dX12_cheaper_184 : decode cX12_cheaper 184 = .ok (.goto (-72), 3) := by decide +kernel
theorem dX12_cheaper_187 : decode cX12_cheaper 187 = .ok (.return_, 1) := by decide +kernel
theorem dX12_isCost_0 : decode cX12_isCost 0 = .ok (.iload_n 1, 1) := by decide +kernel
theorem dX12_isCost_1 : decode cX12_isCost 1 = .ok (.iconst 1, 1) := by decide +kernel
theorem dX12_isCost_2 : decode cX12_isCost 2 = .ok (.if_icmp .lt 13, 3) := by decide +kernel
theorem dX12_isCost_5 : decode cX12_isCost 5 = .ok (.iload_n 1, 1) := by decide +kernel
theorem dX12_isCost_6 : decode cX12_isCost 6 = .ok (.bipush 9, 2) := by decide +kernel
theorem dX12_isCost_8 : decode cX12_isCost 8 = .ok (.if_icmp .gt 7, 3) := by decide +kernel
theorem dX12_isCost_11 : decode cX12_isCost 11 = .ok (.iconst 1, 1) := by decide +kernel
theorem dX12_isCost_12 : decode cX12_isCost 12 = .ok (.goto 4, 3) := by decide +kernel
theorem dX12_isCost_15 : decode cX12_isCost 15 = .ok (.iconst 0, 1) := by decide +kernel
theorem dX12_isCost_16 : decode cX12_isCost 16 = .ok (.ireturn, 1) := by decide +kernel
theorem dX12_cheapest_0 : decode cX12_cheapest 0 = .ok (.aload_n 0, 1) := by decide +kernel
theorem dX12_cheapest_1 : decode cX12_cheapest 1 = .ok (.lload_n 1, 1) := by decide +kernel
theorem dX12_cheapest_2 : decode cX12_cheapest 2 = .ok (.lload_n 3, 1) := by decide +kernel
theorem dX12_cheapest_3 : decode cX12_cheapest 3 = .ok (.invokevirtual 143, 3) := by decide +kernel
theorem dX12_cheapest_6 : decode cX12_cheapest 6 = .ok (.ifCond .eq 30, 3) := by decide +kernel
theorem dX12_cheapest_9 : decode cX12_cheapest 9 = .ok (.aload_n 0, 1) := by decide +kernel
theorem dX12_cheapest_10 : decode cX12_cheapest 10 = .ok (.iload 5, 2) := by decide +kernel
theorem dX12_cheapest_12 : decode cX12_cheapest 12 = .ok (.invokevirtual 317, 3) := by decide +kernel
theorem dX12_cheapest_15 : decode cX12_cheapest 15 = .ok (.ifCond .eq 21, 3) := by decide +kernel
theorem dX12_cheapest_18 : decode cX12_cheapest 18 = .ok (.aload_n 0, 1) := by decide +kernel
theorem dX12_cheapest_19 : decode cX12_cheapest 19 = .ok (.iload 6, 2) := by decide +kernel
theorem dX12_cheapest_21 : decode cX12_cheapest 21 = .ok (.invokevirtual 317, 3) := by decide +kernel
theorem dX12_cheapest_24 : decode cX12_cheapest 24 = .ok (.ifCond .eq 12, 3) := by decide +kernel
theorem dX12_cheapest_27 : decode cX12_cheapest 27 = .ok (.aload_n 0, 1) := by decide +kernel
theorem dX12_cheapest_28 : decode cX12_cheapest 28 = .ok (.iload 7, 2) := by decide +kernel
theorem dX12_cheapest_30 : decode cX12_cheapest 30 = .ok (.invokevirtual 317, 3) := by decide +kernel
theorem dX12_cheapest_33 : decode cX12_cheapest 33 = .ok (.ifCond .ne 10, 3) := by decide +kernel
theorem dX12_cheapest_36 : decode cX12_cheapest 36 = .ok (.aload_n 0, 1) := by decide +kernel
theorem dX12_cheapest_37 : decode cX12_cheapest 37 = .ok (.bipush (-6), 2) := by decide +kernel
theorem dX12_cheapest_39 : decode cX12_cheapest 39 = .ok (.invokevirtual 292, 3) := by decide +kernel
theorem dX12_cheapest_42 : decode cX12_cheapest 42 = .ok (.ireturn, 1) := by decide +kernel
theorem dX12_cheapest_43 : decode cX12_cheapest 43 = .ok (.aload_n 0, 1) := by decide +kernel
theorem dX12_cheapest_44 : decode cX12_cheapest 44 = .ok (.lload_n 1, 1) := by decide +kernel
theorem dX12_cheapest_45 : decode cX12_cheapest 45 = .ok (.putfield 280, 3) := by decide +kernel
theorem dX12_cheapest_48 : decode cX12_cheapest 48 = .ok (.aload_n 0, 1) := by decide +kernel
theorem dX12_cheapest_49 : decode cX12_cheapest 49 = .ok (.lload_n 3, 1) := by decide +kernel
theorem dX12_cheapest_50 : decode cX12_cheapest 50 = .ok (.putfield 283, 3) := by decide +kernel
theorem dX12_cheapest_53 : decode cX12_cheapest 53 = .ok (.aload_n 0, 1) := by decide +kernel
theorem dX12_cheapest_54 : decode cX12_cheapest 54 = .ok (.iload 5, 2) := by decide +kernel
theorem dX12_cheapest_56 : decode cX12_cheapest 56 = .ok (.putfield 304, 3) := by decide +kernel
theorem dX12_cheapest_59 : decode cX12_cheapest 59 = .ok (.aload_n 0, 1) := by decide +kernel
theorem dX12_cheapest_60 : decode cX12_cheapest 60 = .ok (.iload 6, 2) := by decide +kernel
theorem dX12_cheapest_62 : decode cX12_cheapest 62 = .ok (.putfield 307, 3) := by decide +kernel
theorem dX12_cheapest_65 : decode cX12_cheapest 65 = .ok (.aload_n 0, 1) := by decide +kernel
theorem dX12_cheapest_66 : decode cX12_cheapest 66 = .ok (.iload 7, 2) := by decide +kernel
theorem dX12_cheapest_68 : decode cX12_cheapest 68 = .ok (.putfield 310, 3) := by decide +kernel
theorem dX12_cheapest_71 : decode cX12_cheapest 71 = .ok (.aload_n 0, 1) := by decide +kernel
theorem dX12_cheapest_72 : decode cX12_cheapest 72 = .ok (.iconst (-1), 1) := by decide +kernel
theorem dX12_cheapest_73 : decode cX12_cheapest 73 = .ok (.putfield 298, 3) := by decide +kernel
theorem dX12_cheapest_76 : decode cX12_cheapest 76 = .ok (.aload_n 0, 1) := by decide +kernel
theorem dX12_cheapest_77 : decode cX12_cheapest 77 = .ok (.invokevirtual 295, 3) := by decide +kernel
theorem dX12_cheapest_80 : decode cX12_cheapest 80 = .ok (.aload_n 0, 1) := by decide +kernel
theorem dX12_cheapest_81 : decode cX12_cheapest 81 = .ok (.iconst 0, 1) := by decide +kernel
theorem dX12_cheapest_82 : decode cX12_cheapest 82 = .ok (.iconst 0, 1) := by decide +kernel
theorem dX12_cheapest_83 : decode cX12_cheapest 83 = .ok (.invokevirtual 313, 3) := by decide +kernel
theorem dX12_cheapest_86 : decode cX12_cheapest 86 = .ok (.aload_n 0, 1) := by decide +kernel
theorem dX12_cheapest_87 : decode cX12_cheapest 87 = .ok (.getfield 298, 3) := by decide +kernel
theorem dX12_cheapest_90 : decode cX12_cheapest 90 = .ok (.iconst (-1), 1) := by decide +kernel
theorem dX12_cheapest_91 : decode cX12_cheapest 91 = .ok (.if_icmp .eq 18, 3) := by decide +kernel
theorem dX12_cheapest_94 : decode cX12_cheapest 94 = .ok (.iload 8, 2) := by decide +kernel
theorem dX12_cheapest_96 : decode cX12_cheapest 96 = .ok (.iconst (-1), 1) := by decide +kernel
theorem dX12_cheapest_97 : decode cX12_cheapest 97 = .ok (.if_icmp .lt 12, 3) := by decide +kernel
theorem dX12_cheapest_100 : decode cX12_cheapest 100 = .ok (.iload 8, 2) := by decide +kernel
theorem dX12_cheapest_102 : decode cX12_cheapest 102 = .ok (.aload_n 0, 1) := by decide +kernel
theorem dX12_cheapest_103 : decode cX12_cheapest 103 = .ok (.getfield 298, 3) := by decide +kernel
theorem dX12_cheapest_106 : decode cX12_cheapest 106 = .ok (.if_icmp .lt 10, 3) := by decide +kernel
theorem dX12_cheapest_109 : decode cX12_cheapest 109 = .ok (.aload_n 0, 1) := by decide +kernel
theorem dX12_cheapest_110 : decode cX12_cheapest 110 = .ok (.bipush (-5), 2) := by decide +kernel
theorem dX12_cheapest_112 : decode cX12_cheapest 112 = .ok (.invokevirtual 292, 3) := by decide +kernel
theorem dX12_cheapest_115 : decode cX12_cheapest 115 = .ok (.ireturn, 1) := by decide +kernel
theorem dX12_cheapest_116 : decode cX12_cheapest 116 = .ok (.iload 8, 2) := by decide +kernel
theorem dX12_cheapest_118 : decode cX12_cheapest 118 = .ok (.iconst (-1), 1) := by decide +kernel
theorem dX12_cheapest_119 : decode cX12_cheapest 119 = .ok (.if_icmp .ne 10, 3) := by decide +kernel
theorem dX12_cheapest_122 : decode cX12_cheapest 122 = .ok (.aload_n 0, 1) := by decide +kernel
theorem dX12_cheapest_123 : decode cX12_cheapest 123 = .ok (.getfield 301, 3) := by decide +kernel
theorem dX12_cheapest_126 : decode cX12_cheapest 126 = .ok (.goto 10, 3) := by decide +kernel
theorem dX12_cheapest_129 : decode cX12_cheapest 129 = .ok (.aload_n 0, 1) := by decide +kernel
theorem dX12_cheapest_130 : decode cX12_cheapest 130 = .ok (.getfield 82, 3) := by decide +kernel
theorem dX12_cheapest_133 : decode cX12_cheapest 133 = .ok (.iload 8, 2) := by decide +kernel
theorem dX12_cheapest_135 : decode cX12_cheapest 135 = .ok (.iaload, 1) := by decide +kernel
theorem dX12_cheapest_136 : decode cX12_cheapest 136 = .ok (.ireturn, 1) := by decide +kernel
theorem dX12_floor_0 : decode cX12_floor 0 = .ok (.lload_n 1, 1) := by decide +kernel
theorem dX12_floor_1 : decode cX12_floor 1 = .ok (.lload_n 3, 1) := by decide +kernel
theorem dX12_floor_2 : decode cX12_floor 2 = .ok (.ldiv, 1) := by decide +kernel
theorem dX12_floor_3 : decode cX12_floor 3 = .ok (.lstore 5, 2) := by decide +kernel
theorem dX12_floor_5 : decode cX12_floor 5 = .ok (.lload_n 1, 1) := by decide +kernel
theorem dX12_floor_6 : decode cX12_floor 6 = .ok (.lload_n 3, 1) := by decide +kernel
theorem dX12_floor_7 : decode cX12_floor 7 = .ok (.lrem, 1) := by decide +kernel
theorem dX12_floor_8 : decode cX12_floor 8 = .ok (.lconst 0, 1) := by decide +kernel
theorem dX12_floor_9 : decode cX12_floor 9 = .ok (.lcmp, 1) := by decide +kernel
theorem dX12_floor_10 : decode cX12_floor 10 = .ok (.ifCond .ge 10, 3) := by decide +kernel
theorem dX12_floor_13 : decode cX12_floor 13 = .ok (.lload 5, 2) := by decide +kernel
theorem dX12_floor_15 : decode cX12_floor 15 = .ok (.lconst 1, 1) := by decide +kernel
theorem dX12_floor_16 : decode cX12_floor 16 = .ok (.lsub, 1) := by decide +kernel
theorem dX12_floor_17 : decode cX12_floor 17 = .ok (.goto 5, 3) := by decide +kernel
theorem dX12_floor_20 : decode cX12_floor 20 = .ok (.lload 5, 2) := by decide +kernel
theorem dX12_floor_22 : decode cX12_floor 22 = .ok (.lreturn, 1) := by decide +kernel
theorem dX12_sums_0 : decode cX12_sums 0 = .ok (.lload_n 3, 1) := by decide +kernel
theorem dX12_sums_1 : decode cX12_sums 1 = .ok (.lconst 0, 1) := by decide +kernel
theorem dX12_sums_2 : decode cX12_sums 2 = .ok (.lcmp, 1) := by decide +kernel
theorem dX12_sums_3 : decode cX12_sums 3 = .ok (.ifCond .eq 10, 3) := by decide +kernel
theorem dX12_sums_6 : decode cX12_sums 6 = .ok (.lload 7, 2) := by decide +kernel
theorem dX12_sums_8 : decode cX12_sums 8 = .ok (.lconst 0, 1) := by decide +kernel
theorem dX12_sums_9 : decode cX12_sums 9 = .ok (.lcmp, 1) := by decide +kernel
theorem dX12_sums_10 : decode cX12_sums 10 = .ok (.ifCond .ne 15, 3) := by decide +kernel
theorem dX12_sums_13 : decode cX12_sums 13 = .ok (.aload_n 0, 1) := by decide +kernel
theorem dX12_sums_14 : decode cX12_sums 14 = .ok (.lconst 1, 1) := by decide +kernel
theorem dX12_sums_15 : decode cX12_sums 15 = .ok (.putfield 320, 3) := by decide +kernel
theorem dX12_sums_18 : decode cX12_sums 18 = .ok (.aload_n 0, 1) := by decide +kernel
theorem dX12_sums_19 : decode cX12_sums 19 = .ok (.lconst 0, 1) := by decide +kernel
theorem dX12_sums_20 : decode cX12_sums 20 = .ok (.putfield 323, 3) := by decide +kernel
theorem dX12_sums_23 : decode cX12_sums 23 = .ok (.iconst 1, 1) := by decide +kernel
theorem dX12_sums_24 : decode cX12_sums 24 = .ok (.ireturn, 1) := by decide +kernel
theorem dX12_sums_25 : decode cX12_sums 25 = .ok (.aload_n 0, 1) := by decide +kernel
theorem dX12_sums_26 : decode cX12_sums 26 = .ok (.lload_n 3, 1) := by decide +kernel
theorem dX12_sums_27 : decode cX12_sums 27 = .ok (.lload 7, 2) := by decide +kernel
theorem dX12_sums_29 : decode cX12_sums 29 = .ok (.invokevirtual 139, 3) := by decide +kernel
theorem dX12_sums_32 : decode cX12_sums 32 = .ok (.lstore 9, 2) := by decide +kernel
theorem dX12_sums_34 : decode cX12_sums 34 = .ok (.lload_n 3, 1) := by decide +kernel
theorem dX12_sums_35 : decode cX12_sums 35 = .ok (.lload 9, 2) := by decide +kernel
theorem dX12_sums_37 : decode cX12_sums 37 = .ok (.ldiv, 1) := by decide +kernel
theorem dX12_sums_38 : decode cX12_sums 38 = .ok (.lstore 11, 2) := by decide +kernel
theorem dX12_sums_40 : decode cX12_sums 40 = .ok (.lload 7, 2) := by decide +kernel
theorem dX12_sums_42 : decode cX12_sums 42 = .ok (.lload 9, 2) := by decide +kernel
theorem dX12_sums_44 : decode cX12_sums 44 = .ok (.ldiv, 1) := by decide +kernel
theorem dX12_sums_45 : decode cX12_sums 45 = .ok (.lstore 13, 2) := by decide +kernel
theorem dX12_sums_47 : decode cX12_sums 47 = .ok (.lload 11, 2) := by decide +kernel
theorem dX12_sums_49 : decode cX12_sums 49 = .ok (.ldc2_w 135, 3) := by decide +kernel
theorem dX12_sums_52 : decode cX12_sums 52 = .ok (.lload 13, 2) := by decide +kernel
theorem dX12_sums_54 : decode cX12_sums 54 = .ok (.ldiv, 1) := by decide +kernel
theorem dX12_sums_55 : decode cX12_sums 55 = .ok (.lcmp, 1) := by decide +kernel
theorem dX12_sums_56 : decode cX12_sums 56 = .ok (.ifCond .le 5, 3) := by decide +kernel
theorem dX12_sums_59 : decode cX12_sums 59 = .ok (.iconst 0, 1) := by decide +kernel
theorem dX12_sums_60 : decode cX12_sums 60 = .ok (.ireturn, 1) := by decide +kernel
theorem dX12_sums_61 : decode cX12_sums 61 = .ok (.aload_n 0, 1) := by decide +kernel
theorem dX12_sums_62 : decode cX12_sums 62 = .ok (.lload_n 1, 1) := by decide +kernel
theorem dX12_sums_63 : decode cX12_sums 63 = .ok (.lload_n 3, 1) := by decide +kernel
theorem dX12_sums_64 : decode cX12_sums 64 = .ok (.invokevirtual 326, 3) := by decide +kernel
theorem dX12_sums_67 : decode cX12_sums 67 = .ok (.aload_n 0, 1) := by decide +kernel
theorem dX12_sums_68 : decode cX12_sums 68 = .ok (.lload 5, 2) := by decide +kernel
theorem dX12_sums_70 : decode cX12_sums 70 = .ok (.lload 7, 2) := by decide +kernel
theorem dX12_sums_72 : decode cX12_sums 72 = .ok (.invokevirtual 326, 3) := by decide +kernel
theorem dX12_sums_75 : decode cX12_sums 75 = .ok (.ladd, 1) := by decide +kernel
theorem dX12_sums_76 : decode cX12_sums 76 = .ok (.lstore 15, 2) := by decide +kernel
theorem dX12_sums_78 : decode cX12_sums 78 = .ok (.lload_n 1, 1) := by decide +kernel
theorem dX12_sums_79 : decode cX12_sums 79 = .ok (.aload_n 0, 1) := by decide +kernel
theorem dX12_sums_80 : decode cX12_sums 80 = .ok (.lload_n 1, 1) := by decide +kernel
theorem dX12_sums_81 : decode cX12_sums 81 = .ok (.lload_n 3, 1) := by decide +kernel
theorem dX12_sums_82 : decode cX12_sums 82 = .ok (.invokevirtual 326, 3) := by decide +kernel
theorem dX12_sums_85 : decode cX12_sums 85 = .ok (.lload_n 3, 1) := by decide +kernel
theorem dX12_sums_86 : decode cX12_sums 86 = .ok (.lmul, 1) := by decide +kernel
theorem dX12_sums_87 : decode cX12_sums 87 = .ok (.lsub, 1) := by decide +kernel
theorem dX12_sums_88 : decode cX12_sums 88 = .ok (.lload 13, 2) := by decide +kernel
theorem dX12_sums_90 : decode cX12_sums 90 = .ok (.lmul, 1) := by decide +kernel
theorem dX12_sums_91 : decode cX12_sums 91 = .ok (.lload 5, 2) := by decide +kernel
theorem dX12_sums_93 : decode cX12_sums 93 = .ok (.aload_n 0, 1) := by decide +kernel
theorem dX12_sums_94 : decode cX12_sums 94 = .ok (.lload 5, 2) := by decide +kernel
theorem dX12_sums_96 : decode cX12_sums 96 = .ok (.lload 7, 2) := by decide +kernel
theorem dX12_sums_98 : decode cX12_sums 98 = .ok (.invokevirtual 326, 3) := by decide +kernel
theorem dX12_sums_101 : decode cX12_sums 101 = .ok (.lload 7, 2) := by decide +kernel
theorem dX12_sums_103 : decode cX12_sums 103 = .ok (.lmul, 1) := by decide +kernel
theorem dX12_sums_104 : decode cX12_sums 104 = .ok (.lsub, 1) := by decide +kernel
theorem dX12_sums_105 : decode cX12_sums 105 = .ok (.lload 11, 2) := by decide +kernel
theorem dX12_sums_107 : decode cX12_sums 107 = .ok (.lmul, 1) := by decide +kernel
theorem dX12_sums_108 : decode cX12_sums 108 = .ok (.ladd, 1) := by decide +kernel
theorem dX12_sums_109 : decode cX12_sums 109 = .ok (.lstore 17, 2) := by decide +kernel
theorem dX12_sums_111 : decode cX12_sums 111 = .ok (.lload 11, 2) := by decide +kernel
theorem dX12_sums_113 : decode cX12_sums 113 = .ok (.lload 13, 2) := by decide +kernel
theorem dX12_sums_115 : decode cX12_sums 115 = .ok (.lmul, 1) := by decide +kernel
theorem dX12_sums_116 : decode cX12_sums 116 = .ok (.lload 9, 2) := by decide +kernel
theorem dX12_sums_118 : decode cX12_sums 118 = .ok (.lmul, 1) := by decide +kernel
theorem dX12_sums_119 : decode cX12_sums 119 = .ok (.lstore 19, 2) := by decide +kernel
theorem dX12_sums_121 : decode cX12_sums 121 = .ok (.aload_n 0, 1) := by decide +kernel
theorem dX12_sums_122 : decode cX12_sums 122 = .ok (.lload 17, 2) := by decide +kernel
theorem dX12_sums_124 : decode cX12_sums 124 = .ok (.lload 19, 2) := by decide +kernel
theorem dX12_sums_126 : decode cX12_sums 126 = .ok (.invokevirtual 139, 3) := by decide +kernel
theorem dX12_sums_129 : decode cX12_sums 129 = .ok (.lstore 21, 2) := by decide +kernel
theorem dX12_sums_131 : decode cX12_sums 131 = .ok (.lload 17, 2) := by decide +kernel
theorem dX12_sums_133 : decode cX12_sums 133 = .ok (.lload 21, 2) := by decide +kernel
theorem dX12_sums_135 : decode cX12_sums 135 = .ok (.ldiv, 1) := by decide +kernel
theorem dX12_sums_136 : decode cX12_sums 136 = .ok (.lstore 17, 2) := by decide +kernel
theorem dX12_sums_138 : decode cX12_sums 138 = .ok (.lload 19, 2) := by decide +kernel
theorem dX12_sums_140 : decode cX12_sums 140 = .ok (.lload 21, 2) := by decide +kernel
theorem dX12_sums_142 : decode cX12_sums 142 = .ok (.ldiv, 1) := by decide +kernel
theorem dX12_sums_143 : decode cX12_sums 143 = .ok (.lstore 19, 2) := by decide +kernel
theorem dX12_sums_145 : decode cX12_sums 145 = .ok (.lload 19, 2) := by decide +kernel
theorem dX12_sums_147 : decode cX12_sums 147 = .ok (.ldc2_w 135, 3) := by decide +kernel
theorem dX12_sums_150 : decode cX12_sums 150 = .ok (.lcmp, 1) := by decide +kernel
theorem dX12_sums_151 : decode cX12_sums 151 = .ok (.ifCond .le 5, 3) := by decide +kernel
theorem dX12_sums_154 : decode cX12_sums 154 = .ok (.iconst 0, 1) := by decide +kernel
theorem dX12_sums_155 : decode cX12_sums 155 = .ok (.ireturn, 1) := by decide +kernel
theorem dX12_sums_156 : decode cX12_sums 156 = .ok (.lload 15, 2) := by decide +kernel
theorem dX12_sums_158 : decode cX12_sums 158 = .ok (.lconst 0, 1) := by decide +kernel
theorem dX12_sums_159 : decode cX12_sums 159 = .ok (.lcmp, 1) := by decide +kernel
theorem dX12_sums_160 : decode cX12_sums 160 = .ok (.ifCond .ge 9, 3) := by decide +kernel
theorem dX12_sums_163 : decode cX12_sums 163 = .ok (.lload 15, 2) := by decide +kernel
theorem dX12_sums_165 : decode cX12_sums 165 = .ok (.lneg, 1) := by decide +kernel
theorem dX12_sums_166 : decode cX12_sums 166 = .ok (.goto 5, 3) := by decide +kernel
theorem dX12_sums_169 : decode cX12_sums 169 = .ok (.lload 15, 2) := by decide +kernel
theorem dX12_sums_171 : decode cX12_sums 171 = .ok (.lstore 23, 2) := by decide +kernel
theorem dX12_sums_173 : decode cX12_sums 173 = .ok (.lload 23, 2) := by decide +kernel
theorem dX12_sums_175 : decode cX12_sums 175 = .ok (.ldc2_w 329, 3) := by decide +kernel
theorem dX12_sums_178 : decode cX12_sums 178 = .ok (.lload 19, 2) := by decide +kernel
theorem dX12_sums_180 : decode cX12_sums 180 = .ok (.ldiv, 1) := by decide +kernel
theorem dX12_sums_181 : decode cX12_sums 181 = .ok (.ldc2_w 270, 3) := by decide +kernel
theorem dX12_sums_184 : decode cX12_sums 184 = .ok (.ladd, 1) := by decide +kernel
theorem dX12_sums_185 : decode cX12_sums 185 = .ok (.lcmp, 1) := by decide +kernel
theorem dX12_sums_186 : decode cX12_sums 186 = .ok (.ifCond .le 5, 3) := by decide +kernel
theorem dX12_sums_189 : decode cX12_sums 189 = .ok (.iconst 0, 1) := by decide +kernel
theorem dX12_sums_190 : decode cX12_sums 190 = .ok (.ireturn, 1) := by decide +kernel
theorem dX12_sums_191 : decode cX12_sums 191 = .ok (.aload_n 0, 1) := by decide +kernel
theorem dX12_sums_192 : decode cX12_sums 192 = .ok (.lload 15, 2) := by decide +kernel
theorem dX12_sums_194 : decode cX12_sums 194 = .ok (.lload 19, 2) := by decide +kernel
theorem dX12_sums_196 : decode cX12_sums 196 = .ok (.lmul, 1) := by decide +kernel
theorem dX12_sums_197 : decode cX12_sums 197 = .ok (.lload 17, 2) := by decide +kernel
theorem dX12_sums_199 : decode cX12_sums 199 = .ok (.ladd, 1) := by decide +kernel
theorem dX12_sums_200 : decode cX12_sums 200 = .ok (.putfield 320, 3) := by decide +kernel
theorem dX12_sums_203 : decode cX12_sums 203 = .ok (.aload_n 0, 1) := by decide +kernel
theorem dX12_sums_204 : decode cX12_sums 204 = .ok (.lload 19, 2) := by decide +kernel
theorem dX12_sums_206 : decode cX12_sums 206 = .ok (.putfield 323, 3) := by decide +kernel
theorem dX12_sums_209 : decode cX12_sums 209 = .ok (.aload_n 0, 1) := by decide +kernel
theorem dX12_sums_210 : decode cX12_sums 210 = .ok (.getfield 320, 3) := by decide +kernel
theorem dX12_sums_213 : decode cX12_sums 213 = .ok (.ldc2_w 135, 3) := by decide +kernel
theorem dX12_sums_216 : decode cX12_sums 216 = .ok (.lcmp, 1) := by decide +kernel
theorem dX12_sums_217 : decode cX12_sums 217 = .ok (.ifCond .gt 18, 3) := by decide +kernel
theorem dX12_sums_220 : decode cX12_sums 220 = .ok (.aload_n 0, 1) := by decide +kernel
theorem dX12_sums_221 : decode cX12_sums 221 = .ok (.getfield 320, 3) := by decide +kernel
theorem dX12_sums_224 : decode cX12_sums 224 = .ok (.ldc2_w 137, 3) := by decide +kernel
theorem dX12_sums_227 : decode cX12_sums 227 = .ok (.lcmp, 1) := by decide +kernel
theorem dX12_sums_228 : decode cX12_sums 228 = .ok (.ifCond .lt 7, 3) := by decide +kernel
theorem dX12_sums_231 : decode cX12_sums 231 = .ok (.iconst 1, 1) := by decide +kernel
theorem dX12_sums_232 : decode cX12_sums 232 = .ok (.goto 4, 3) := by decide +kernel
theorem dX12_sums_235 : decode cX12_sums 235 = .ok (.iconst 0, 1) := by decide +kernel
theorem dX12_sums_236 : decode cX12_sums 236 = .ok (.ireturn, 1) := by decide +kernel
theorem dX12_isSmall_0 : decode cX12_isSmall 0 = .ok (.lload_n 1, 1) := by decide +kernel
theorem dX12_isSmall_1 : decode cX12_isSmall 1 = .ok (.ldc2_w 331, 3) := by decide +kernel
theorem dX12_isSmall_4 : decode cX12_isSmall 4 = .ok (.lcmp, 1) := by decide +kernel
theorem dX12_isSmall_5 : decode cX12_isSmall 5 = .ok (.ifCond .gt 15, 3) := by decide +kernel
theorem dX12_isSmall_8 : decode cX12_isSmall 8 = .ok (.lload_n 1, 1) := by decide +kernel
theorem dX12_isSmall_9 : decode cX12_isSmall 9 = .ok (.ldc2_w 333, 3) := by decide +kernel
theorem dX12_isSmall_12 : decode cX12_isSmall 12 = .ok (.lcmp, 1) := by decide +kernel
theorem dX12_isSmall_13 : decode cX12_isSmall 13 = .ok (.ifCond .lt 7, 3) := by decide +kernel
theorem dX12_isSmall_16 : decode cX12_isSmall 16 = .ok (.iconst 1, 1) := by decide +kernel
theorem dX12_isSmall_17 : decode cX12_isSmall 17 = .ok (.goto 4, 3) := by decide +kernel
theorem dX12_isSmall_20 : decode cX12_isSmall 20 = .ok (.iconst 0, 1) := by decide +kernel
theorem dX12_isSmall_21 : decode cX12_isSmall 21 = .ok (.ireturn, 1) := by decide +kernel
theorem dX12_isJoined_0 : decode cX12_isJoined 0 = .ok (.aload_n 0, 1) := by decide +kernel
theorem dX12_isJoined_1 : decode cX12_isJoined 1 = .ok (.lload_n 1, 1) := by decide +kernel
theorem dX12_isJoined_2 : decode cX12_isJoined 2 = .ok (.invokevirtual 335, 3) := by decide +kernel
theorem dX12_isJoined_5 : decode cX12_isJoined 5 = .ok (.ifCond .eq 37, 3) := by decide +kernel
theorem dX12_isJoined_8 : decode cX12_isJoined 8 = .ok (.aload_n 0, 1) := by decide +kernel
theorem dX12_isJoined_9 : decode cX12_isJoined 9 = .ok (.lload_n 3, 1) := by decide +kernel
theorem dX12_isJoined_10 : decode cX12_isJoined 10 = .ok (.invokevirtual 335, 3) := by decide +kernel
theorem dX12_isJoined_13 : decode cX12_isJoined 13 = .ok (.ifCond .eq 29, 3) := by decide +kernel
theorem dX12_isJoined_16 : decode cX12_isJoined 16 = .ok (.aload_n 0, 1) := by decide +kernel
theorem dX12_isJoined_17 : decode cX12_isJoined 17 = .ok (.aload_n 0, 1) := by decide +kernel
theorem dX12_isJoined_18 : decode cX12_isJoined 18 = .ok (.getfield 147, 3) := by decide +kernel
theorem dX12_isJoined_21 : decode cX12_isJoined 21 = .ok (.invokevirtual 335, 3) := by decide +kernel
theorem dX12_isJoined_24 : decode cX12_isJoined 24 = .ok (.ifCond .eq 18, 3) := by decide +kernel
theorem dX12_isJoined_27 : decode cX12_isJoined 27 = .ok (.aload_n 0, 1) := by decide +kernel
theorem dX12_isJoined_28 : decode cX12_isJoined 28 = .ok (.aload_n 0, 1) := by decide +kernel
theorem dX12_isJoined_29 : decode cX12_isJoined 29 = .ok (.getfield 16, 3) := by decide +kernel
theorem dX12_isJoined_32 : decode cX12_isJoined 32 = .ok (.invokevirtual 335, 3) := by decide +kernel
theorem dX12_isJoined_35 : decode cX12_isJoined 35 = .ok (.ifCond .eq 7, 3) := by decide +kernel
theorem dX12_isJoined_38 : decode cX12_isJoined 38 = .ok (.iconst 1, 1) := by decide +kernel
theorem dX12_isJoined_39 : decode cX12_isJoined 39 = .ok (.goto 4, 3) := by decide +kernel
theorem dX12_isJoined_42 : decode cX12_isJoined 42 = .ok (.iconst 0, 1) := by decide +kernel
theorem dX12_isJoined_43 : decode cX12_isJoined 43 = .ok (.ireturn, 1) := by decide +kernel
theorem dX12_side_0 : decode cX12_side 0 = .ok (.iload 5, 2) := by decide +kernel
theorem dX12_side_2 : decode cX12_side 2 = .ok (.ifCond .lt 9, 3) := by decide +kernel
theorem dX12_side_5 : decode cX12_side 5 = .ok (.iload 5, 2) := by decide +kernel
theorem dX12_side_7 : decode cX12_side 7 = .ok (.iconst 1, 1) := by decide +kernel
theorem dX12_side_8 : decode cX12_side 8 = .ok (.if_icmp .le 10, 3) := by decide +kernel
theorem dX12_side_11 : decode cX12_side 11 = .ok (.aload_n 0, 1) := by decide +kernel
theorem dX12_side_12 : decode cX12_side 12 = .ok (.bipush (-5), 2) := by decide +kernel
theorem dX12_side_14 : decode cX12_side 14 = .ok (.invokevirtual 226, 3) := by decide +kernel
theorem dX12_side_17 : decode cX12_side 17 = .ok (.lreturn, 1) := by decide +kernel
theorem dX12_side_18 : decode cX12_side 18 = .ok (.aload_n 0, 1) := by decide +kernel
theorem dX12_side_19 : decode cX12_side 19 = .ok (.lload_n 1, 1) := by decide +kernel
theorem dX12_side_20 : decode cX12_side 20 = .ok (.lload_n 3, 1) := by decide +kernel
theorem dX12_side_21 : decode cX12_side 21 = .ok (.invokevirtual 143, 3) := by decide +kernel
theorem dX12_side_24 : decode cX12_side 24 = .ok (.ifCond .ne 10, 3) := by decide +kernel
theorem dX12_side_27 : decode cX12_side 27 = .ok (.aload_n 0, 1) := by decide +kernel
theorem dX12_side_28 : decode cX12_side 28 = .ok (.bipush (-6), 2) := by decide +kernel
theorem dX12_side_30 : decode cX12_side 30 = .ok (.invokevirtual 226, 3) := by decide +kernel
theorem dX12_side_33 : decode cX12_side 33 = .ok (.lreturn, 1) := by decide +kernel
theorem dX12_side_34 : decode cX12_side 34 = .ok (.aload_n 0, 1) := by decide +kernel
theorem dX12_side_35 : decode cX12_side 35 = .ok (.lload_n 1, 1) := by decide +kernel
theorem dX12_side_36 : decode cX12_side 36 = .ok (.lload_n 3, 1) := by decide +kernel
theorem dX12_side_37 : decode cX12_side 37 = .ok (.invokevirtual 339, 3) := by decide +kernel
theorem dX12_side_40 : decode cX12_side 40 = .ok (.ifCond .eq 20, 3) := by decide +kernel
theorem dX12_side_43 : decode cX12_side 43 = .ok (.aload_n 0, 1) := by decide +kernel
theorem dX12_side_44 : decode cX12_side 44 = .ok (.aload_n 0, 1) := by decide +kernel
theorem dX12_side_45 : decode cX12_side 45 = .ok (.getfield 147, 3) := by decide +kernel
theorem dX12_side_48 : decode cX12_side 48 = .ok (.aload_n 0, 1) := by decide +kernel
theorem dX12_side_49 : decode cX12_side 49 = .ok (.getfield 16, 3) := by decide +kernel
theorem dX12_side_52 : decode cX12_side 52 = .ok (.lload_n 1, 1) := by decide +kernel
theorem dX12_side_53 : decode cX12_side 53 = .ok (.lload_n 3, 1) := by decide +kernel
theorem dX12_side_54 : decode cX12_side 54 = .ok (.invokevirtual 342, 3) := by decide +kernel
theorem dX12_side_57 : decode cX12_side 57 = .ok (.ifCond .ne 10, 3) := by decide +kernel
theorem dX12_side_60 : decode cX12_side 60 = .ok (.aload_n 0, 1) := by decide +kernel
theorem dX12_side_61 : decode cX12_side 61 = .ok (.bipush (-7), 2) := by decide +kernel
theorem dX12_side_63 : decode cX12_side 63 = .ok (.invokevirtual 226, 3) := by decide +kernel
theorem dX12_side_66 : decode cX12_side 66 = .ok (.lreturn, 1) := by decide +kernel
theorem dX12_side_67 : decode cX12_side 67 = .ok (.iload 5, 2) := by decide +kernel
theorem dX12_side_69 : decode cX12_side 69 = .ok (.ifCond .ne 10, 3) := by decide +kernel
theorem dX12_side_72 : decode cX12_side 72 = .ok (.aload_n 0, 1) := by decide +kernel
theorem dX12_side_73 : decode cX12_side 73 = .ok (.getfield 320, 3) := by decide +kernel
theorem dX12_side_76 : decode cX12_side 76 = .ok (.goto 7, 3) := by decide +kernel
theorem dX12_side_79 : decode cX12_side 79 = .ok (.aload_n 0, 1) := by decide +kernel
theorem dX12_side_80 : decode cX12_side 80 = .ok (.getfield 323, 3) := by decide +kernel
theorem dX12_side_83 : decode cX12_side 83 = .ok (.lreturn, 1) := by decide +kernel
theorem dX12_flipP_0 : decode cX12_flipP 0 = .ok (.lload_n 1, 1) := by decide +kernel
theorem dX12_flipP_1 : decode cX12_flipP 1 = .ok (.lconst 0, 1) := by decide +kernel
theorem dX12_flipP_2 : decode cX12_flipP 2 = .ok (.lcmp, 1) := by decide +kernel
theorem dX12_flipP_3 : decode cX12_flipP 3 = .ok (.ifCond .ne 7, 3) := by decide +kernel
theorem dX12_flipP_6 : decode cX12_flipP 6 = .ok (.lconst 1, 1) := by decide +kernel
theorem dX12_flipP_7 : decode cX12_flipP 7 = .ok (.goto 15, 3) := by decide +kernel
theorem dX12_flipP_10 : decode cX12_flipP 10 = .ok (.lload_n 1, 1) := by decide +kernel
theorem dX12_flipP_11 : decode cX12_flipP 11 = .ok (.lconst 0, 1) := by decide +kernel
theorem dX12_flipP_12 : decode cX12_flipP 12 = .ok (.lcmp, 1) := by decide +kernel
theorem dX12_flipP_13 : decode cX12_flipP 13 = .ok (.ifCond .ge 8, 3) := by decide +kernel
theorem dX12_flipP_16 : decode cX12_flipP 16 = .ok (.lload_n 3, 1) := by decide +kernel
theorem dX12_flipP_17 : decode cX12_flipP 17 = .ok (.lneg, 1) := by decide +kernel
theorem dX12_flipP_18 : decode cX12_flipP 18 = .ok (.goto 4, 3) := by decide +kernel
theorem dX12_flipP_21 : decode cX12_flipP 21 = .ok (.lload_n 3, 1) := by decide +kernel
theorem dX12_flipP_22 : decode cX12_flipP 22 = .ok (.lreturn, 1) := by decide +kernel
theorem dX12_flipQ_0 : decode cX12_flipQ 0 = .ok (.lload_n 1, 1) := by decide +kernel
theorem dX12_flipQ_1 : decode cX12_flipQ 1 = .ok (.lconst 0, 1) := by decide +kernel
theorem dX12_flipQ_2 : decode cX12_flipQ 2 = .ok (.lcmp, 1) := by decide +kernel
theorem dX12_flipQ_3 : decode cX12_flipQ 3 = .ok (.ifCond .ne 7, 3) := by decide +kernel
theorem dX12_flipQ_6 : decode cX12_flipQ 6 = .ok (.lconst 0, 1) := by decide +kernel
theorem dX12_flipQ_7 : decode cX12_flipQ 7 = .ok (.goto 15, 3) := by decide +kernel
theorem dX12_flipQ_10 : decode cX12_flipQ 10 = .ok (.lload_n 1, 1) := by decide +kernel
theorem dX12_flipQ_11 : decode cX12_flipQ 11 = .ok (.lconst 0, 1) := by decide +kernel
theorem dX12_flipQ_12 : decode cX12_flipQ 12 = .ok (.lcmp, 1) := by decide +kernel
theorem dX12_flipQ_13 : decode cX12_flipQ 13 = .ok (.ifCond .ge 8, 3) := by decide +kernel
theorem dX12_flipQ_16 : decode cX12_flipQ 16 = .ok (.lload_n 1, 1) := by decide +kernel
theorem dX12_flipQ_17 : decode cX12_flipQ 17 = .ok (.lneg, 1) := by decide +kernel
theorem dX12_flipQ_18 : decode cX12_flipQ 18 = .ok (.goto 4, 3) := by decide +kernel
theorem dX12_flipQ_21 : decode cX12_flipQ 21 = .ok (.lload_n 1, 1) := by decide +kernel
theorem dX12_flipQ_22 : decode cX12_flipQ 22 = .ok (.lreturn, 1) := by decide +kernel
theorem dX12_over_0 : decode cX12_over 0 = .ok (.iload 5, 2) := by decide +kernel
theorem dX12_over_2 : decode cX12_over 2 = .ok (.ifCond .lt 9, 3) := by decide +kernel
theorem dX12_over_5 : decode cX12_over 5 = .ok (.iload 5, 2) := by decide +kernel
theorem dX12_over_7 : decode cX12_over 7 = .ok (.iconst 1, 1) := by decide +kernel
theorem dX12_over_8 : decode cX12_over 8 = .ok (.if_icmp .le 10, 3) := by decide +kernel
theorem dX12_over_11 : decode cX12_over 11 = .ok (.aload_n 0, 1) := by decide +kernel
theorem dX12_over_12 : decode cX12_over 12 = .ok (.bipush (-5), 2) := by decide +kernel
theorem dX12_over_14 : decode cX12_over 14 = .ok (.invokevirtual 226, 3) := by decide +kernel
theorem dX12_over_17 : decode cX12_over 17 = .ok (.lreturn, 1) := by decide +kernel
theorem dX12_over_18 : decode cX12_over 18 = .ok (.aload_n 0, 1) := by decide +kernel
theorem dX12_over_19 : decode cX12_over 19 = .ok (.lload_n 1, 1) := by decide +kernel
theorem dX12_over_20 : decode cX12_over 20 = .ok (.lload_n 3, 1) := by decide +kernel
theorem dX12_over_21 : decode cX12_over 21 = .ok (.invokevirtual 143, 3) := by decide +kernel
theorem dX12_over_24 : decode cX12_over 24 = .ok (.ifCond .ne 10, 3) := by decide +kernel
theorem dX12_over_27 : decode cX12_over 27 = .ok (.aload_n 0, 1) := by decide +kernel
theorem dX12_over_28 : decode cX12_over 28 = .ok (.bipush (-6), 2) := by decide +kernel
theorem dX12_over_30 : decode cX12_over 30 = .ok (.invokevirtual 226, 3) := by decide +kernel
theorem dX12_over_33 : decode cX12_over 33 = .ok (.lreturn, 1) := by decide +kernel
theorem dX12_over_34 : decode cX12_over 34 = .ok (.aload_n 0, 1) := by decide +kernel
theorem dX12_over_35 : decode cX12_over 35 = .ok (.lload_n 1, 1) := by decide +kernel
theorem dX12_over_36 : decode cX12_over 36 = .ok (.lload_n 3, 1) := by decide +kernel
theorem dX12_over_37 : decode cX12_over 37 = .ok (.invokevirtual 339, 3) := by decide +kernel
theorem dX12_over_40 : decode cX12_over 40 = .ok (.ifCond .eq 46, 3) := by decide +kernel
theorem dX12_over_43 : decode cX12_over 43 = .ok (.aload_n 0, 1) := by decide +kernel
theorem dX12_over_44 : decode cX12_over 44 = .ok (.aload_n 0, 1) := by decide +kernel
theorem dX12_over_45 : decode cX12_over 45 = .ok (.aload_n 0, 1) := by decide +kernel
theorem dX12_over_46 : decode cX12_over 46 = .ok (.getfield 147, 3) := by decide +kernel
theorem dX12_over_49 : decode cX12_over 49 = .ok (.aload_n 0, 1) := by decide +kernel
theorem dX12_over_50 : decode cX12_over 50 = .ok (.getfield 16, 3) := by decide +kernel
theorem dX12_over_53 : decode cX12_over 53 = .ok (.invokevirtual 346, 3) := by decide +kernel
theorem dX12_over_56 : decode cX12_over 56 = .ok (.aload_n 0, 1) := by decide +kernel
theorem dX12_over_57 : decode cX12_over 57 = .ok (.aload_n 0, 1) := by decide +kernel
theorem dX12_over_58 : decode cX12_over 58 = .ok (.getfield 147, 3) := by decide +kernel
theorem dX12_over_61 : decode cX12_over 61 = .ok (.aload_n 0, 1) := by decide +kernel
theorem dX12_over_62 : decode cX12_over 62 = .ok (.getfield 16, 3) := by decide +kernel
theorem dX12_over_65 : decode cX12_over 65 = .ok (.invokevirtual 349, 3) := by decide +kernel
theorem dX12_over_68 : decode cX12_over 68 = .ok (.aload_n 0, 1) := by decide +kernel
theorem dX12_over_69 : decode cX12_over 69 = .ok (.lload_n 1, 1) := by decide +kernel
theorem dX12_over_70 : decode cX12_over 70 = .ok (.lload_n 3, 1) := by decide +kernel
theorem dX12_over_71 : decode cX12_over 71 = .ok (.invokevirtual 346, 3) := by decide +kernel
theorem dX12_over_74 : decode cX12_over 74 = .ok (.aload_n 0, 1) := by decide +kernel
theorem dX12_over_75 : decode cX12_over 75 = .ok (.lload_n 1, 1) := by decide +kernel
theorem dX12_over_76 : decode cX12_over 76 = .ok (.lload_n 3, 1) := by decide +kernel
theorem dX12_over_77 : decode cX12_over 77 = .ok (.invokevirtual 349, 3) := by decide +kernel
theorem dX12_over_80 : decode cX12_over 80 = .ok (.invokevirtual 342, 3) := by decide +kernel
theorem dX12_over_83 : decode cX12_over 83 = .ok (.ifCond .ne 10, 3) := by decide +kernel
theorem dX12_over_86 : decode cX12_over 86 = .ok (.aload_n 0, 1) := by decide +kernel
theorem dX12_over_87 : decode cX12_over 87 = .ok (.bipush (-7), 2) := by decide +kernel
theorem dX12_over_89 : decode cX12_over 89 = .ok (.invokevirtual 226, 3) := by decide +kernel
theorem dX12_over_92 : decode cX12_over 92 = .ok (.lreturn, 1) := by decide +kernel
theorem dX12_over_93 : decode cX12_over 93 = .ok (.iload 5, 2) := by decide +kernel
theorem dX12_over_95 : decode cX12_over 95 = .ok (.ifCond .ne 18, 3) := by decide +kernel
theorem dX12_over_98 : decode cX12_over 98 = .ok (.aload_n 0, 1) := by decide +kernel
theorem dX12_over_99 : decode cX12_over 99 = .ok (.aload_n 0, 1) := by decide +kernel
theorem dX12_over_100 : decode cX12_over 100 = .ok (.getfield 320, 3) := by decide +kernel
theorem dX12_over_103 : decode cX12_over 103 = .ok (.aload_n 0, 1) := by decide +kernel
theorem dX12_over_104 : decode cX12_over 104 = .ok (.getfield 323, 3) := by decide +kernel
theorem dX12_over_107 : decode cX12_over 107 = .ok (.invokevirtual 346, 3) := by decide +kernel
theorem dX12_over_110 : decode cX12_over 110 = .ok (.goto 15, 3) := by decide +kernel
theorem dX12_over_113 : decode cX12_over 113 = .ok (.aload_n 0, 1) := by decide +kernel
theorem dX12_over_114 : decode cX12_over 114 = .ok (.aload_n 0, 1) := by decide +kernel
theorem dX12_over_115 : decode cX12_over 115 = .ok (.getfield 320, 3) := by decide +kernel
theorem dX12_over_118 : decode cX12_over 118 = .ok (.aload_n 0, 1) := by decide +kernel
theorem dX12_over_119 : decode cX12_over 119 = .ok (.getfield 323, 3) := by decide +kernel
theorem dX12_over_122 : decode cX12_over 122 = .ok (.invokevirtual 349, 3) := by decide +kernel
theorem dX12_over_125 : decode cX12_over 125 = .ok (.lreturn, 1) := by decide +kernel
theorem dX12_closed_0 : decode cX12_closed 0 = .ok (.iload_n 1, 1) := by decide +kernel
theorem dX12_closed_1 : decode cX12_closed 1 = .ok (.ifCond .eq 10, 3) := by decide +kernel
theorem dX12_closed_4 : decode cX12_closed 4 = .ok (.aload_n 0, 1) := by decide +kernel
theorem dX12_closed_5 : decode cX12_closed 5 = .ok (.getfield 16, 3) := by decide +kernel
theorem dX12_closed_8 : decode cX12_closed 8 = .ok (.goto 7, 3) := by decide +kernel
theorem dX12_closed_11 : decode cX12_closed 11 = .ok (.aload_n 0, 1) := by decide +kernel
theorem dX12_closed_12 : decode cX12_closed 12 = .ok (.getfield 147, 3) := by decide +kernel
theorem dX12_closed_15 : decode cX12_closed 15 = .ok (.ldc2_w 270, 3) := by decide +kernel
theorem dX12_closed_18 : decode cX12_closed 18 = .ok (.lrem, 1) := by decide +kernel
theorem dX12_closed_19 : decode cX12_closed 19 = .ok (.lconst 0, 1) := by decide +kernel
theorem dX12_closed_20 : decode cX12_closed 20 = .ok (.lcmp, 1) := by decide +kernel
theorem dX12_closed_21 : decode cX12_closed 21 = .ok (.ifCond .ne 7, 3) := by decide +kernel
theorem dX12_closed_24 : decode cX12_closed 24 = .ok (.iconst 2, 1) := by decide +kernel
theorem dX12_closed_25 : decode cX12_closed 25 = .ok (.goto 4, 3) := by decide +kernel
theorem dX12_closed_28 : decode cX12_closed 28 = .ok (.iconst 1, 1) := by decide +kernel
theorem dX12_closed_29 : decode cX12_closed 29 = .ok (.ireturn, 1) := by decide +kernel
theorem dX12_coloured_0 : decode cX12_coloured 0 = .ok (.iload_n 1, 1) := by decide +kernel
theorem dX12_coloured_1 : decode cX12_coloured 1 = .ok (.iconst 2, 1) := by decide +kernel
theorem dX12_coloured_2 : decode cX12_coloured 2 = .ok (.if_icmp .lt 9, 3) := by decide +kernel
theorem dX12_coloured_5 : decode cX12_coloured 5 = .ok (.iload_n 1, 1) := by decide +kernel
theorem dX12_coloured_6 : decode cX12_coloured 6 = .ok (.bipush 99, 2) := by decide +kernel
theorem dX12_coloured_8 : decode cX12_coloured 8 = .ok (.if_icmp .le 11, 3) := by decide +kernel
theorem dX12_coloured_11 : decode cX12_coloured 11 = .ok (.aload_n 0, 1) := by decide +kernel
theorem dX12_coloured_12 : decode cX12_coloured 12 = .ok (.bipush (-6), 2) := by decide +kernel
theorem dX12_coloured_14 : decode cX12_coloured 14 = .ok (.invokevirtual 115, 3) := by decide +kernel
theorem dX12_coloured_17 : decode cX12_coloured 17 = .ok (.i2l, 1) := by decide +kernel
theorem dX12_coloured_18 : decode cX12_coloured 18 = .ok (.lreturn, 1) := by decide +kernel
theorem dX12_coloured_19 : decode cX12_coloured 19 = .ok (.iload_n 1, 1) := by decide +kernel
theorem dX12_coloured_20 : decode cX12_coloured 20 = .ok (.i2l, 1) := by decide +kernel
theorem dX12_coloured_21 : decode cX12_coloured 21 = .ok (.aload_n 0, 1) := by decide +kernel
theorem dX12_coloured_22 : decode cX12_coloured 22 = .ok (.aload_n 0, 1) := by decide +kernel
theorem dX12_coloured_23 : decode cX12_coloured 23 = .ok (.getfield 147, 3) := by decide +kernel
theorem dX12_coloured_26 : decode cX12_coloured 26 = .ok (.iload_n 1, 1) := by decide +kernel
theorem dX12_coloured_27 : decode cX12_coloured 27 = .ok (.i2l, 1) := by decide +kernel
theorem dX12_coloured_28 : decode cX12_coloured 28 = .ok (.invokevirtual 139, 3) := by decide +kernel
theorem dX12_coloured_31 : decode cX12_coloured 31 = .ok (.lmul, 1) := by decide +kernel
theorem dX12_coloured_32 : decode cX12_coloured 32 = .ok (.lreturn, 1) := by decide +kernel
theorem dX12_isLess_0 : decode cX12_isLess 0 = .ok (.lload_n 1, 1) := by decide +kernel
theorem dX12_isLess_1 : decode cX12_isLess 1 = .ok (.lstore 9, 2) := by decide +kernel
theorem dX12_isLess_3 : decode cX12_isLess 3 = .ok (.lload_n 3, 1) := by decide +kernel
theorem dX12_isLess_4 : decode cX12_isLess 4 = .ok (.lstore 11, 2) := by decide +kernel
theorem dX12_isLess_6 : decode cX12_isLess 6 = .ok (.lload 5, 2) := by decide +kernel
theorem dX12_isLess_8 : decode cX12_isLess 8 = .ok (.lstore 13, 2) := by decide +kernel
theorem dX12_isLess_10 : decode cX12_isLess 10 = .ok (.lload 7, 2) := by decide +kernel
theorem dX12_isLess_12 : decode cX12_isLess 12 = .ok (.lstore 15, 2) := by decide +kernel
theorem dX12_isLess_14 : decode cX12_isLess 14 = .ok (.iconst 0, 1) := by decide +kernel
theorem dX12_isLess_15 : decode cX12_isLess 15 = .ok (.istore 17, 2) := by decide +kernel
theorem dX12_isLess_17 : decode cX12_isLess 17 = .ok (.lload 11, 2) := by decide +kernel
theorem dX12_isLess_19 : decode cX12_isLess 19 = .ok (.lconst 0, 1) := by decide +kernel
theorem dX12_isLess_20 : decode cX12_isLess 20 = .ok (.lcmp, 1) := by decide +kernel
theorem dX12_isLess_21 : decode cX12_isLess 21 = .ok (.ifCond .eq 10, 3) := by decide +kernel
theorem dX12_isLess_24 : decode cX12_isLess 24 = .ok (.lload 15, 2) := by decide +kernel
theorem dX12_isLess_26 : decode cX12_isLess 26 = .ok (.lconst 0, 1) := by decide +kernel
theorem dX12_isLess_27 : decode cX12_isLess 27 = .ok (.lcmp, 1) := by decide +kernel
theorem dX12_isLess_28 : decode cX12_isLess 28 = .ok (.ifCond .ne 58, 3) := by decide +kernel
theorem dX12_isLess_31 : decode cX12_isLess 31 = .ok (.lload 15, 2) := by decide +kernel
theorem dX12_isLess_33 : decode cX12_isLess 33 = .ok (.lconst 0, 1) := by decide +kernel
theorem dX12_isLess_34 : decode cX12_isLess 34 = .ok (.lcmp, 1) := by decide +kernel
theorem dX12_isLess_35 : decode cX12_isLess 35 = .ok (.ifCond .ne 14, 3) := by decide +kernel
theorem dX12_isLess_38 : decode cX12_isLess 38 = .ok (.lload 11, 2) := by decide +kernel
theorem dX12_isLess_40 : decode cX12_isLess 40 = .ok (.lconst 0, 1) := by decide +kernel
theorem dX12_isLess_41 : decode cX12_isLess 41 = .ok (.lcmp, 1) := by decide +kernel
theorem dX12_isLess_42 : decode cX12_isLess 42 = .ok (.ifCond .eq 7, 3) := by decide +kernel
theorem dX12_isLess_45 : decode cX12_isLess 45 = .ok (.iconst 1, 1) := by decide +kernel
theorem dX12_isLess_46 : decode cX12_isLess 46 = .ok (.goto 4, 3) := by decide +kernel
theorem dX12_isLess_49 : decode cX12_isLess 49 = .ok (.iconst 0, 1) := by decide +kernel
theorem dX12_isLess_50 : decode cX12_isLess 50 = .ok (.istore 18, 2) := by decide +kernel
theorem dX12_isLess_52 : decode cX12_isLess 52 = .ok (.lload 11, 2) := by decide +kernel
theorem dX12_isLess_54 : decode cX12_isLess 54 = .ok (.lconst 0, 1) := by decide +kernel
theorem dX12_isLess_55 : decode cX12_isLess 55 = .ok (.lcmp, 1) := by decide +kernel
theorem dX12_isLess_56 : decode cX12_isLess 56 = .ok (.ifCond .ne 14, 3) := by decide +kernel
theorem dX12_isLess_59 : decode cX12_isLess 59 = .ok (.lload 15, 2) := by decide +kernel
theorem dX12_isLess_61 : decode cX12_isLess 61 = .ok (.lconst 0, 1) := by decide +kernel
theorem dX12_isLess_62 : decode cX12_isLess 62 = .ok (.lcmp, 1) := by decide +kernel
theorem dX12_isLess_63 : decode cX12_isLess 63 = .ok (.ifCond .eq 7, 3) := by decide +kernel
theorem dX12_isLess_66 : decode cX12_isLess 66 = .ok (.iconst 1, 1) := by decide +kernel
theorem dX12_isLess_67 : decode cX12_isLess 67 = .ok (.goto 4, 3) := by decide +kernel
theorem dX12_isLess_70 : decode cX12_isLess 70 = .ok (.iconst 0, 1) := by decide +kernel
theorem dX12_isLess_71 : decode cX12_isLess 71 = .ok (.istore 19, 2) := by decide +kernel
theorem dX12_isLess_73 : decode cX12_isLess 73 = .ok (.iload 17, 2) := by decide +kernel
theorem dX12_isLess_75 : decode cX12_isLess 75 = .ok (.ifCond .eq 8, 3) := by decide +kernel
theorem dX12_isLess_78 : decode cX12_isLess 78 = .ok (.iload 19, 2) := by decide +kernel
theorem dX12_isLess_80 : decode cX12_isLess 80 = .ok (.goto 5, 3) := by decide +kernel
theorem dX12_isLess_83 : decode cX12_isLess 83 = .ok (.iload 18, 2) := by decide +kernel
theorem dX12_isLess_85 : decode cX12_isLess 85 = .ok (.ireturn, 1) := by decide +kernel
theorem dX12_isLess_86 : decode cX12_isLess 86 = .ok (.aload_n 0, 1) := by decide +kernel
theorem dX12_isLess_87 : decode cX12_isLess 87 = .ok (.lload 9, 2) := by decide +kernel
theorem dX12_isLess_89 : decode cX12_isLess 89 = .ok (.lload 11, 2) := by decide +kernel
theorem dX12_isLess_91 : decode cX12_isLess 91 = .ok (.invokevirtual 326, 3) := by decide +kernel
theorem dX12_isLess_94 : decode cX12_isLess 94 = .ok (.lstore 18, 2) := by decide +kernel
theorem dX12_isLess_96 : decode cX12_isLess 96 = .ok (.aload_n 0, 1) := by decide +kernel
theorem dX12_isLess_97 : decode cX12_isLess 97 = .ok (.lload 13, 2) := by decide +kernel
theorem dX12_isLess_99 : decode cX12_isLess 99 = .ok (.lload 15, 2) := by decide +kernel
theorem dX12_isLess_101 : decode cX12_isLess 101 = .ok (.invokevirtual 326, 3) := by decide +kernel
theorem dX12_isLess_104 : decode cX12_isLess 104 = .ok (.lstore 20, 2) := by decide +kernel
theorem dX12_isLess_106 : decode cX12_isLess 106 = .ok (.lload 18, 2) := by decide +kernel
theorem dX12_isLess_108 : decode cX12_isLess 108 = .ok (.lload 20, 2) := by decide +kernel
theorem dX12_isLess_110 : decode cX12_isLess 110 = .ok (.lcmp, 1) := by decide +kernel
theorem dX12_isLess_111 : decode cX12_isLess 111 = .ok (.ifCond .eq 38, 3) := by decide +kernel
theorem dX12_isLess_114 : decode cX12_isLess 114 = .ok (.iload 17, 2) := by decide +kernel
theorem dX12_isLess_116 : decode cX12_isLess 116 = .ok (.ifCond .eq 19, 3) := by decide +kernel
theorem dX12_isLess_119 : decode cX12_isLess 119 = .ok (.lload 18, 2) := by decide +kernel
theorem dX12_isLess_121 : decode cX12_isLess 121 = .ok (.lload 20, 2) := by decide +kernel
theorem dX12_isLess_123 : decode cX12_isLess 123 = .ok (.lcmp, 1) := by decide +kernel
theorem dX12_isLess_124 : decode cX12_isLess 124 = .ok (.ifCond .le 7, 3) := by decide +kernel
theorem dX12_isLess_127 : decode cX12_isLess 127 = .ok (.iconst 1, 1) := by decide +kernel
theorem dX12_isLess_128 : decode cX12_isLess 128 = .ok (.goto 20, 3) := by decide +kernel
theorem dX12_isLess_131 : decode cX12_isLess 131 = .ok (.iconst 0, 1) := by decide +kernel
theorem dX12_isLess_132 : decode cX12_isLess 132 = .ok (.goto 16, 3) := by decide +kernel
theorem dX12_isLess_135 : decode cX12_isLess 135 = .ok (.lload 18, 2) := by decide +kernel
theorem dX12_isLess_137 : decode cX12_isLess 137 = .ok (.lload 20, 2) := by decide +kernel
theorem dX12_isLess_139 : decode cX12_isLess 139 = .ok (.lcmp, 1) := by decide +kernel
theorem dX12_isLess_140 : decode cX12_isLess 140 = .ok (.ifCond .ge 7, 3) := by decide +kernel
theorem dX12_isLess_143 : decode cX12_isLess 143 = .ok (.iconst 1, 1) := by decide +kernel
theorem dX12_isLess_144 : decode cX12_isLess 144 = .ok (.goto 4, 3) := by decide +kernel
theorem dX12_isLess_147 : decode cX12_isLess 147 = .ok (.iconst 0, 1) := by decide +kernel
theorem dX12_isLess_148 : decode cX12_isLess 148 = .ok (.ireturn, 1) := by decide +kernel
theorem dX12_isLess_149 : decode cX12_isLess 149 = .ok (.lload 9, 2) := by decide +kernel
theorem dX12_isLess_151 : decode cX12_isLess 151 = .ok (.lload 18, 2) := by decide +kernel
theorem dX12_isLess_153 : decode cX12_isLess 153 = .ok (.lload 11, 2) := by decide +kernel
theorem dX12_isLess_155 : decode cX12_isLess 155 = .ok (.lmul, 1) := by decide +kernel
theorem dX12_isLess_156 : decode cX12_isLess 156 = .ok (.lsub, 1) := by decide +kernel
theorem dX12_isLess_157 : decode cX12_isLess 157 = .ok (.lstore 22, 2) := by decide +kernel
theorem dX12_isLess_159 : decode cX12_isLess 159 = .ok (.lload 13, 2) := by decide +kernel
theorem dX12_isLess_161 : decode cX12_isLess 161 = .ok (.lload 20, 2) := by decide +kernel
theorem dX12_isLess_163 : decode cX12_isLess 163 = .ok (.lload 15, 2) := by decide +kernel
theorem dX12_isLess_165 : decode cX12_isLess 165 = .ok (.lmul, 1) := by decide +kernel
theorem dX12_isLess_166 : decode cX12_isLess 166 = .ok (.lsub, 1) := by decide +kernel
theorem dX12_isLess_167 : decode cX12_isLess 167 = .ok (.lstore 24, 2) := by decide +kernel
theorem dX12_isLess_169 : decode cX12_isLess 169 = .ok (.lload 11, 2) := by decide +kernel
theorem dX12_isLess_171 : decode cX12_isLess 171 = .ok (.lstore 9, 2) := by decide +kernel
theorem dX12_isLess_173 : decode cX12_isLess 173 = .ok (.lload 22, 2) := by decide +kernel
theorem dX12_isLess_175 : decode cX12_isLess 175 = .ok (.lstore 11, 2) := by decide +kernel
theorem dX12_isLess_177 : decode cX12_isLess 177 = .ok (.lload 15, 2) := by decide +kernel
theorem dX12_isLess_179 : decode cX12_isLess 179 = .ok (.lstore 13, 2) := by decide +kernel
theorem dX12_isLess_181 : decode cX12_isLess 181 = .ok (.lload 24, 2) := by decide +kernel
theorem dX12_isLess_183 : decode cX12_isLess 183 = .ok (.lstore 15, 2) := by decide +kernel
theorem dX12_isLess_185 : decode cX12_isLess 185 = .ok (.iload 17, 2) := by decide +kernel
theorem dX12_isLess_187 : decode cX12_isLess 187 = .ok (.ifCond .ne 7, 3) := by decide +kernel
theorem dX12_isLess_190 : decode cX12_isLess 190 = .ok (.iconst 1, 1) := by decide +kernel
theorem dX12_isLess_191 : decode cX12_isLess 191 = .ok (.goto 4, 3) := by decide +kernel
theorem dX12_isLess_194 : decode cX12_isLess 194 = .ok (.iconst 0, 1) := by decide +kernel
theorem dX12_isLess_195 : decode cX12_isLess 195 = .ok (.istore 17, 2) := by decide +kernel
theorem dX12_isLess_197 : decode cX12_isLess 197 = .ok (.goto (-180), 3) := by decide +kernel
theorem dX12_forgets_0 : decode cX12_forgets 0 = .ok (.iload_n 3, 1) := by decide +kernel
theorem dX12_forgets_1 : decode cX12_forgets 1 = .ok (.iload_n 2, 1) := by decide +kernel
theorem dX12_forgets_2 : decode cX12_forgets 2 = .ok (.if_icmp .ne 91, 3) := by decide +kernel
theorem dX12_forgets_5 : decode cX12_forgets 5 = .ok (.iconst 0, 1) := by decide +kernel
theorem dX12_forgets_6 : decode cX12_forgets 6 = .ok (.istore 4, 2) := by decide +kernel
theorem dX12_forgets_8 : decode cX12_forgets 8 = .ok (.iload 4, 2) := by decide +kernel
theorem dX12_forgets_10 : decode cX12_forgets 10 = .ok (.aload_n 0, 1) := by decide +kernel
theorem dX12_forgets_11 : decode cX12_forgets 11 = .ok (.getfield 352, 3) := by decide +kernel
theorem dX12_forgets_14 : decode cX12_forgets 14 = .ok (.if_icmp .ge 41, 3) := by decide +kernel
theorem dX12_forgets_17 : decode cX12_forgets 17 = .ok (.aload_n 0, 1) := by decide +kernel
theorem dX12_forgets_18 : decode cX12_forgets 18 = .ok (.getfield 85, 3) := by decide +kernel
theorem dX12_forgets_21 : decode cX12_forgets 21 = .ok (.iload 4, 2) := by decide +kernel
theorem dX12_forgets_23 : decode cX12_forgets 23 = .ok (.laload, 1) := by decide +kernel
theorem dX12_forgets_24 : decode cX12_forgets 24 = .ok (.aload_n 0, 1) := by decide +kernel
theorem dX12_forgets_25 : decode cX12_forgets 25 = .ok (.getfield 150, 3) := by decide +kernel
theorem dX12_forgets_28 : decode cX12_forgets 28 = .ok (.lcmp, 1) := by decide +kernel
theorem dX12_forgets_29 : decode cX12_forgets 29 = .ok (.ifCond .ne 20, 3) := by decide +kernel
theorem dX12_forgets_32 : decode cX12_forgets 32 = .ok (.aload_n 0, 1) := by decide +kernel
theorem dX12_forgets_33 : decode cX12_forgets 33 = .ok (.getfield 88, 3) := by decide +kernel
theorem dX12_forgets_36 : decode cX12_forgets 36 = .ok (.iload 4, 2) := by decide +kernel
theorem dX12_forgets_38 : decode cX12_forgets 38 = .ok (.laload, 1) := by decide +kernel
theorem dX12_forgets_39 : decode cX12_forgets 39 = .ok (.aload_n 0, 1) := by decide +kernel
theorem dX12_forgets_40 : decode cX12_forgets 40 = .ok (.getfield 153, 3) := by decide +kernel
theorem dX12_forgets_43 : decode cX12_forgets 43 = .ok (.lcmp, 1) := by decide +kernel
theorem dX12_forgets_44 : decode cX12_forgets 44 = .ok (.ifCond .ne 5, 3) := by decide +kernel
theorem dX12_forgets_47 : decode cX12_forgets 47 = .ok (.iconst 1, 1) := by decide +kernel
theorem dX12_forgets_48 : decode cX12_forgets 48 = .ok (.ireturn, 1) := by decide +kernel
theorem dX12_forgets_49 : decode cX12_forgets 49 = .ok (.iinc 4 1, 3) := by decide +kernel
theorem dX12_forgets_52 : decode cX12_forgets 52 = .ok (.goto (-44), 3) := by decide +kernel
theorem dX12_forgets_55 : decode cX12_forgets 55 = .ok (.aload_n 0, 1) := by decide +kernel
theorem dX12_forgets_56 : decode cX12_forgets 56 = .ok (.getfield 85, 3) := by decide +kernel
theorem dX12_forgets_59 : decode cX12_forgets 59 = .ok (.aload_n 0, 1) := by decide +kernel
theorem dX12_forgets_60 : decode cX12_forgets 60 = .ok (.getfield 352, 3) := by decide +kernel
theorem dX12_forgets_63 : decode cX12_forgets 63 = .ok (.aload_n 0, 1) := by decide +kernel
theorem dX12_forgets_64 : decode cX12_forgets 64 = .ok (.getfield 150, 3) := by decide +kernel
theorem dX12_forgets_67 : decode cX12_forgets 67 = .ok (.lastore, 1) := by decide +kernel
theorem dX12_forgets_68 : decode cX12_forgets 68 = .ok (.aload_n 0, 1) := by decide +kernel
theorem dX12_forgets_69 : decode cX12_forgets 69 = .ok (.getfield 88, 3) := by decide +kernel
theorem dX12_forgets_72 : decode cX12_forgets 72 = .ok (.aload_n 0, 1) := by decide +kernel
theorem dX12_forgets_73 : decode cX12_forgets 73 = .ok (.getfield 352, 3) := by decide +kernel
theorem dX12_forgets_76 : decode cX12_forgets 76 = .ok (.aload_n 0, 1) := by decide +kernel
theorem dX12_forgets_77 : decode cX12_forgets 77 = .ok (.getfield 153, 3) := by decide +kernel
theorem dX12_forgets_80 : decode cX12_forgets 80 = .ok (.lastore, 1) := by decide +kernel
theorem dX12_forgets_81 : decode cX12_forgets 81 = .ok (.aload_n 0, 1) := by decide +kernel
theorem dX12_forgets_82 : decode cX12_forgets 82 = .ok (.dup, 1) := by decide +kernel
theorem dX12_forgets_83 : decode cX12_forgets 83 = .ok (.getfield 352, 3) := by decide +kernel
theorem dX12_forgets_86 : decode cX12_forgets 86 = .ok (.iconst 1, 1) := by decide +kernel
theorem dX12_forgets_87 : decode cX12_forgets 87 = .ok (.iadd, 1) := by decide +kernel
theorem dX12_forgets_88 : decode cX12_forgets 88 = .ok (.putfield 352, 3) := by decide +kernel
theorem dX12_forgets_91 : decode cX12_forgets 91 = .ok (.iconst 1, 1) := by decide +kernel
theorem dX12_forgets_92 : decode cX12_forgets 92 = .ok (.ireturn, 1) := by decide +kernel
theorem dX12_forgets_93 : decode cX12_forgets 93 = .ok (.aload_n 0, 1) := by decide +kernel
theorem dX12_forgets_94 : decode cX12_forgets 94 = .ok (.iload_n 1, 1) := by decide +kernel
theorem dX12_forgets_95 : decode cX12_forgets 95 = .ok (.iload_n 3, 1) := by decide +kernel
theorem dX12_forgets_96 : decode cX12_forgets 96 = .ok (.invokevirtual 242, 3) := by decide +kernel
theorem dX12_forgets_99 : decode cX12_forgets 99 = .ok (.istore 4, 2) := by decide +kernel
theorem dX12_forgets_101 : decode cX12_forgets 101 = .ok (.aload_n 0, 1) := by decide +kernel
theorem dX12_forgets_102 : decode cX12_forgets 102 = .ok (.getfield 150, 3) := by decide +kernel
theorem dX12_forgets_105 : decode cX12_forgets 105 = .ok (.lstore 5, 2) := by decide +kernel
theorem dX12_forgets_107 : decode cX12_forgets 107 = .ok (.aload_n 0, 1) := by decide +kernel
theorem dX12_forgets_108 : decode cX12_forgets 108 = .ok (.getfield 153, 3) := by decide +kernel
theorem dX12_forgets_111 : decode cX12_forgets 111 = .ok (.lstore 7, 2) := by decide +kernel
theorem dX12_forgets_113 : decode cX12_forgets 113 = .ok (.iconst 0, 1) := by decide +kernel
theorem dX12_forgets_114 : decode cX12_forgets 114 = .ok (.istore 9, 2) := by decide +kernel
theorem dX12_forgets_116 : decode cX12_forgets 116 = .ok (.iload 9, 2) := by decide +kernel
theorem dX12_forgets_118 : decode cX12_forgets 118 = .ok (.iload 4, 2) := by decide +kernel
theorem dX12_forgets_120 : decode cX12_forgets 120 = .ok (.iconst 3, 1) := by decide +kernel
theorem dX12_forgets_121 : decode cX12_forgets 121 = .ok (.if_icmp .ne 7, 3) := by decide +kernel
theorem dX12_forgets_124 : decode cX12_forgets 124 = .ok (.iconst 2, 1) := by decide +kernel
theorem dX12_forgets_125 : decode cX12_forgets 125 = .ok (.goto 4, 3) := by decide +kernel
theorem dX12_forgets_128 : decode cX12_forgets 128 = .ok (.iconst 1, 1) := by decide +kernel
theorem dX12_forgets_129 : decode cX12_forgets 129 = .ok (.if_icmp .ge 59, 3) := by decide +kernel
theorem dX12_forgets_132 : decode cX12_forgets 132 = .ok (.aload_n 0, 1) := by decide +kernel
theorem dX12_forgets_133 : decode cX12_forgets 133 = .ok (.iload 4, 2) := by decide +kernel
theorem dX12_forgets_135 : decode cX12_forgets 135 = .ok (.iconst 3, 1) := by decide +kernel
theorem dX12_forgets_136 : decode cX12_forgets 136 = .ok (.if_icmp .ne 8, 3) := by decide +kernel
theorem dX12_forgets_139 : decode cX12_forgets 139 = .ok (.iload 9, 2) := by decide +kernel
theorem dX12_forgets_141 : decode cX12_forgets 141 = .ok (.goto 5, 3) := by decide +kernel
theorem dX12_forgets_144 : decode cX12_forgets 144 = .ok (.iload 4, 2) := by decide +kernel
theorem dX12_forgets_146 : decode cX12_forgets 146 = .ok (.invokevirtual 286, 3) := by decide +kernel
theorem dX12_forgets_149 : decode cX12_forgets 149 = .ok (.aload_n 0, 1) := by decide +kernel
theorem dX12_forgets_150 : decode cX12_forgets 150 = .ok (.invokevirtual 236, 3) := by decide +kernel
theorem dX12_forgets_153 : decode cX12_forgets 153 = .ok (.ifCond .eq 15, 3) := by decide +kernel
theorem dX12_forgets_156 : decode cX12_forgets 156 = .ok (.aload_n 0, 1) := by decide +kernel
theorem dX12_forgets_157 : decode cX12_forgets 157 = .ok (.iload_n 1, 1) := by decide +kernel
theorem dX12_forgets_158 : decode cX12_forgets 158 = .ok (.iload_n 2, 1) := by decide +kernel
theorem dX12_forgets_159 : decode cX12_forgets 159 = .ok (.iload_n 3, 1) := by decide +kernel
theorem dX12_forgets_160 : decode cX12_forgets 160 = .ok (.iconst 1, 1) := by decide +kernel
theorem dX12_forgets_161 : decode cX12_forgets 161 = .ok (.iadd, 1) := by decide +kernel
theorem dX12_forgets_162 : decode cX12_forgets 162 = .ok (.invokevirtual 355, 3) := by decide +kernel
theorem dX12_forgets_165 : decode cX12_forgets 165 = .ok (.ifCond .ne 5, 3) := by decide +kernel
theorem dX12_forgets_168 : decode cX12_forgets 168 = .ok (.iconst 0, 1) := by decide +kernel
theorem dX12_forgets_169 : decode cX12_forgets 169 = .ok (.ireturn, 1) := by decide +kernel
theorem dX12_forgets_170 : decode cX12_forgets 170 = .ok (.aload_n 0, 1) := by decide +kernel
theorem dX12_forgets_171 : decode cX12_forgets 171 = .ok (.lload 5, 2) := by decide +kernel
theorem dX12_forgets_173 : decode cX12_forgets 173 = .ok (.putfield 150, 3) := by decide +kernel
theorem dX12_forgets_176 : decode cX12_forgets 176 = .ok (.aload_n 0, 1) := by decide +kernel
theorem dX12_forgets_177 : decode cX12_forgets 177 = .ok (.lload 7, 2) := by decide +kernel
theorem dX12_forgets_179 : decode cX12_forgets 179 = .ok (.putfield 153, 3) := by decide +kernel
theorem dX12_forgets_182 : decode cX12_forgets 182 = .ok (.iinc 9 1, 3) := by decide +kernel
theorem dX12_forgets_185 : decode cX12_forgets 185 = .ok (.goto (-69), 3) := by decide +kernel
theorem dX12_forgets_188 : decode cX12_forgets 188 = .ok (.iconst 1, 1) := by decide +kernel
theorem dX12_forgets_189 : decode cX12_forgets 189 = .ok (.ireturn, 1) := by decide +kernel
theorem dX12_forgotten_0 : decode cX12_forgotten 0 = .ok (.aload_n 0, 1) := by decide +kernel
theorem dX12_forgotten_1 : decode cX12_forgotten 1 = .ok (.iload_n 1, 1) := by decide +kernel
theorem dX12_forgotten_2 : decode cX12_forgotten 2 = .ok (.iload_n 2, 1) := by decide +kernel
theorem dX12_forgotten_3 : decode cX12_forgotten 3 = .ok (.invokevirtual 254, 3) := by decide +kernel
theorem dX12_forgotten_6 : decode cX12_forgotten 6 = .ok (.istore_n 3, 1) := by decide +kernel
theorem dX12_forgotten_7 : decode cX12_forgotten 7 = .ok (.iload_n 3, 1) := by decide +kernel
theorem dX12_forgotten_8 : decode cX12_forgotten 8 = .ok (.ifCond .eq 5, 3) := by decide +kernel
theorem dX12_forgotten_11 : decode cX12_forgotten 11 = .ok (.iload_n 3, 1) := by decide +kernel
theorem dX12_forgotten_12 : decode cX12_forgotten 12 = .ok (.ireturn, 1) := by decide +kernel
theorem dX12_forgotten_13 : decode cX12_forgotten 13 = .ok (.iload_n 2, 1) := by decide +kernel
theorem dX12_forgotten_14 : decode cX12_forgotten 14 = .ok (.bipush 40, 2) := by decide +kernel
theorem dX12_forgotten_16 : decode cX12_forgotten 16 = .ok (.if_icmp .le 6, 3) := by decide +kernel
theorem dX12_forgotten_19 : decode cX12_forgotten 19 = .ok (.bipush (-6), 2) := by decide +kernel
theorem dX12_forgotten_21 : decode cX12_forgotten 21 = .ok (.ireturn, 1) := by decide +kernel
theorem dX12_forgotten_22 : decode cX12_forgotten 22 = .ok (.iconst 0, 1) := by decide +kernel
theorem dX12_forgotten_23 : decode cX12_forgotten 23 = .ok (.istore 4, 2) := by decide +kernel
theorem dX12_forgotten_25 : decode cX12_forgotten 25 = .ok (.iconst 0, 1) := by decide +kernel
theorem dX12_forgotten_26 : decode cX12_forgotten 26 = .ok (.istore 5, 2) := by decide +kernel
theorem dX12_forgotten_28 : decode cX12_forgotten 28 = .ok (.iload 5, 2) := by decide +kernel
theorem dX12_forgotten_30 : decode cX12_forgotten 30 = .ok (.iload_n 2, 1) := by decide +kernel
theorem dX12_forgotten_31 : decode cX12_forgotten 31 = .ok (.if_icmp .ge 41, 3) := by decide +kernel
theorem dX12_forgotten_34 : decode cX12_forgotten 34 = .ok (.aload_n 0, 1) := by decide +kernel
theorem dX12_forgotten_35 : decode cX12_forgotten 35 = .ok (.iload_n 1, 1) := by decide +kernel
theorem dX12_forgotten_36 : decode cX12_forgotten 36 = .ok (.iload 5, 2) := by decide +kernel
theorem dX12_forgotten_38 : decode cX12_forgotten 38 = .ok (.invokevirtual 242, 3) := by decide +kernel
theorem dX12_forgotten_41 : decode cX12_forgotten 41 = .ok (.istore 6, 2) := by decide +kernel
theorem dX12_forgotten_43 : decode cX12_forgotten 43 = .ok (.iload 6, 2) := by decide +kernel
theorem dX12_forgotten_45 : decode cX12_forgotten 45 = .ok (.ifCond .lt 9, 3) := by decide +kernel
theorem dX12_forgotten_48 : decode cX12_forgotten 48 = .ok (.iload 6, 2) := by decide +kernel
theorem dX12_forgotten_50 : decode cX12_forgotten 50 = .ok (.iconst 3, 1) := by decide +kernel
theorem dX12_forgotten_51 : decode cX12_forgotten 51 = .ok (.if_icmp .le 6, 3) := by decide +kernel
theorem dX12_forgotten_54 : decode cX12_forgotten 54 = .ok (.bipush (-6), 2) := by decide +kernel
theorem dX12_forgotten_56 : decode cX12_forgotten 56 = .ok (.ireturn, 1) := by decide +kernel
theorem dX12_forgotten_57 : decode cX12_forgotten 57 = .ok (.iload 6, 2) := by decide +kernel
theorem dX12_forgotten_59 : decode cX12_forgotten 59 = .ok (.iconst 3, 1) := by decide +kernel
theorem dX12_forgotten_60 : decode cX12_forgotten 60 = .ok (.if_icmp .ne 6, 3) := by decide +kernel
theorem dX12_forgotten_63 : decode cX12_forgotten 63 = .ok (.iinc 4 1, 3) := by decide +kernel
theorem dX12_forgotten_66 : decode cX12_forgotten 66 = .ok (.iinc 5 1, 3) := by decide +kernel
theorem dX12_forgotten_69 : decode cX12_forgotten 69 = .ok (.goto (-41), 3) := by decide +kernel
theorem dX12_forgotten_72 : decode cX12_forgotten 72 = .ok (.iload 4, 2) := by decide +kernel
theorem dX12_forgotten_74 : decode cX12_forgotten 74 = .ok (.bipush 7, 2) := by decide +kernel
theorem dX12_forgotten_76 : decode cX12_forgotten 76 = .ok (.if_icmp .le 6, 3) := by decide +kernel
theorem dX12_forgotten_79 : decode cX12_forgotten 79 = .ok (.bipush (-7), 2) := by decide +kernel
theorem dX12_forgotten_81 : decode cX12_forgotten 81 = .ok (.ireturn, 1) := by decide +kernel
theorem dX12_forgotten_82 : decode cX12_forgotten 82 = .ok (.aload_n 0, 1) := by decide +kernel
theorem dX12_forgotten_83 : decode cX12_forgotten 83 = .ok (.invokevirtual 230, 3) := by decide +kernel
theorem dX12_forgotten_86 : decode cX12_forgotten 86 = .ok (.aload_n 0, 1) := by decide +kernel
theorem dX12_forgotten_87 : decode cX12_forgotten 87 = .ok (.iconst 0, 1) := by decide +kernel
theorem dX12_forgotten_88 : decode cX12_forgotten 88 = .ok (.putfield 352, 3) := by decide +kernel
theorem dX12_forgotten_91 : decode cX12_forgotten 91 = .ok (.aload_n 0, 1) := by decide +kernel
theorem dX12_forgotten_92 : decode cX12_forgotten 92 = .ok (.iload_n 1, 1) := by decide +kernel
theorem dX12_forgotten_93 : decode cX12_forgotten 93 = .ok (.iload_n 2, 1) := by decide +kernel
theorem dX12_forgotten_94 : decode cX12_forgotten 94 = .ok (.iconst 0, 1) := by decide +kernel
theorem dX12_forgotten_95 : decode cX12_forgotten 95 = .ok (.invokevirtual 355, 3) := by decide +kernel
theorem dX12_forgotten_98 : decode cX12_forgotten 98 = .ok (.ifCond .eq 7, 3) := by decide +kernel
theorem dX12_forgotten_101 : decode cX12_forgotten 101 = .ok (.iconst 0, 1) := by decide +kernel
theorem dX12_forgotten_102 : decode cX12_forgotten 102 = .ok (.goto 5, 3) := by decide +kernel
theorem dX12_forgotten_105 : decode cX12_forgotten 105 = .ok (.bipush (-7), 2) := by decide +kernel
theorem dX12_forgotten_107 : decode cX12_forgotten 107 = .ok (.ireturn, 1) := by decide +kernel
theorem dX12_forgot_0 : decode cX12_forgot 0 = .ok (.aload_n 0, 1) := by decide +kernel
theorem dX12_forgot_1 : decode cX12_forgot 1 = .ok (.iload_n 1, 1) := by decide +kernel
theorem dX12_forgot_2 : decode cX12_forgot 2 = .ok (.iload_n 2, 1) := by decide +kernel
theorem dX12_forgot_3 : decode cX12_forgot 3 = .ok (.invokevirtual 359, 3) := by decide +kernel
theorem dX12_forgot_6 : decode cX12_forgot 6 = .ok (.istore_n 3, 1) := by decide +kernel
theorem dX12_forgot_7 : decode cX12_forgot 7 = .ok (.iload_n 3, 1) := by decide +kernel
theorem dX12_forgot_8 : decode cX12_forgot 8 = .ok (.ifCond .eq 11, 3) := by decide +kernel
theorem dX12_forgot_11 : decode cX12_forgot 11 = .ok (.aload_n 0, 1) := by decide +kernel
theorem dX12_forgot_12 : decode cX12_forgot 12 = .ok (.iload_n 3, 1) := by decide +kernel
theorem dX12_forgot_13 : decode cX12_forgot 13 = .ok (.invokevirtual 115, 3) := by decide +kernel
theorem dX12_forgot_16 : decode cX12_forgot 16 = .ok (.goto 7, 3) := by decide +kernel
theorem dX12_forgot_19 : decode cX12_forgot 19 = .ok (.aload_n 0, 1) := by decide +kernel
theorem dX12_forgot_20 : decode cX12_forgot 20 = .ok (.getfield 352, 3) := by decide +kernel
theorem dX12_forgot_23 : decode cX12_forgot 23 = .ok (.ireturn, 1) := by decide +kernel
theorem dX12_may_0 : decode cX12_may 0 = .ok (.aload_n 0, 1) := by decide +kernel
theorem dX12_may_1 : decode cX12_may 1 = .ok (.iload_n 1, 1) := by decide +kernel
theorem dX12_may_2 : decode cX12_may 2 = .ok (.iload_n 2, 1) := by decide +kernel
theorem dX12_may_3 : decode cX12_may 3 = .ok (.invokevirtual 359, 3) := by decide +kernel
theorem dX12_may_6 : decode cX12_may 6 = .ok (.istore 4, 2) := by decide +kernel
theorem dX12_may_8 : decode cX12_may 8 = .ok (.iload 4, 2) := by decide +kernel
theorem dX12_may_10 : decode cX12_may 10 = .ok (.ifCond .eq 10, 3) := by decide +kernel
theorem dX12_may_13 : decode cX12_may 13 = .ok (.iload 4, 2) := by decide +kernel
theorem dX12_may_15 : decode cX12_may 15 = .ok (.bipush (-5), 2) := by decide +kernel
theorem dX12_may_17 : decode cX12_may 17 = .ok (.if_icmp .ge 16, 3) := by decide +kernel
theorem dX12_may_20 : decode cX12_may 20 = .ok (.iload_n 3, 1) := by decide +kernel
theorem dX12_may_21 : decode cX12_may 21 = .ok (.ifCond .lt 8, 3) := by decide +kernel
theorem dX12_may_24 : decode cX12_may 24 = .ok (.iload_n 3, 1) := by decide +kernel
theorem dX12_may_25 : decode cX12_may 25 = .ok (.iconst 3, 1) := by decide +kernel
theorem dX12_may_26 : decode cX12_may 26 = .ok (.if_icmp .le 7, 3) := by decide +kernel
theorem dX12_may_29 : decode cX12_may 29 = .ok (.bipush (-5), 2) := by decide +kernel
theorem dX12_may_31 : decode cX12_may 31 = .ok (.istore 4, 2) := by decide +kernel
theorem dX12_may_33 : decode cX12_may 33 = .ok (.iload 4, 2) := by decide +kernel
theorem dX12_may_35 : decode cX12_may 35 = .ok (.ifCond .eq 10, 3) := by decide +kernel
theorem dX12_may_38 : decode cX12_may 38 = .ok (.aload_n 0, 1) := by decide +kernel
theorem dX12_may_39 : decode cX12_may 39 = .ok (.iload 4, 2) := by decide +kernel
theorem dX12_may_41 : decode cX12_may 41 = .ok (.invokevirtual 226, 3) := by decide +kernel
theorem dX12_may_44 : decode cX12_may 44 = .ok (.lreturn, 1) := by decide +kernel
theorem dX12_may_45 : decode cX12_may 45 = .ok (.iconst 0, 1) := by decide +kernel
theorem dX12_may_46 : decode cX12_may 46 = .ok (.istore 5, 2) := by decide +kernel
theorem dX12_may_48 : decode cX12_may 48 = .ok (.iconst 1, 1) := by decide +kernel
theorem dX12_may_49 : decode cX12_may 49 = .ok (.istore 6, 2) := by decide +kernel
theorem dX12_may_51 : decode cX12_may 51 = .ok (.iload 6, 2) := by decide +kernel
theorem dX12_may_53 : decode cX12_may 53 = .ok (.aload_n 0, 1) := by decide +kernel
theorem dX12_may_54 : decode cX12_may 54 = .ok (.getfield 352, 3) := by decide +kernel
theorem dX12_may_57 : decode cX12_may 57 = .ok (.if_icmp .ge 99, 3) := by decide +kernel
theorem dX12_may_60 : decode cX12_may 60 = .ok (.aload_n 0, 1) := by decide +kernel
theorem dX12_may_61 : decode cX12_may 61 = .ok (.aload_n 0, 1) := by decide +kernel
theorem dX12_may_62 : decode cX12_may 62 = .ok (.getfield 85, 3) := by decide +kernel
theorem dX12_may_65 : decode cX12_may 65 = .ok (.iload 6, 2) := by decide +kernel
theorem dX12_may_67 : decode cX12_may 67 = .ok (.laload, 1) := by decide +kernel
theorem dX12_may_68 : decode cX12_may 68 = .ok (.aload_n 0, 1) := by decide +kernel
theorem dX12_may_69 : decode cX12_may 69 = .ok (.getfield 88, 3) := by decide +kernel
theorem dX12_may_72 : decode cX12_may 72 = .ok (.iload 6, 2) := by decide +kernel
theorem dX12_may_74 : decode cX12_may 74 = .ok (.laload, 1) := by decide +kernel
theorem dX12_may_75 : decode cX12_may 75 = .ok (.aload_n 0, 1) := by decide +kernel
theorem dX12_may_76 : decode cX12_may 76 = .ok (.getfield 85, 3) := by decide +kernel
theorem dX12_may_79 : decode cX12_may 79 = .ok (.iload 5, 2) := by decide +kernel
theorem dX12_may_81 : decode cX12_may 81 = .ok (.laload, 1) := by decide +kernel
theorem dX12_may_82 : decode cX12_may 82 = .ok (.aload_n 0, 1) := by decide +kernel
theorem dX12_may_83 : decode cX12_may 83 = .ok (.getfield 88, 3) := by decide +kernel
theorem dX12_may_86 : decode cX12_may 86 = .ok (.iload 5, 2) := by decide +kernel
theorem dX12_may_88 : decode cX12_may 88 = .ok (.laload, 1) := by decide +kernel
theorem dX12_may_89 : decode cX12_may 89 = .ok (.invokevirtual 362, 3) := by decide +kernel
theorem dX12_may_92 : decode cX12_may 92 = .ok (.istore 7, 2) := by decide +kernel
theorem dX12_may_94 : decode cX12_may 94 = .ok (.aload_n 0, 1) := by decide +kernel
theorem dX12_may_95 : decode cX12_may 95 = .ok (.aload_n 0, 1) := by decide +kernel
theorem dX12_may_96 : decode cX12_may 96 = .ok (.getfield 85, 3) := by decide +kernel
theorem dX12_may_99 : decode cX12_may 99 = .ok (.iload 5, 2) := by decide +kernel
theorem dX12_may_101 : decode cX12_may 101 = .ok (.laload, 1) := by decide +kernel
theorem dX12_may_102 : decode cX12_may 102 = .ok (.aload_n 0, 1) := by decide +kernel
theorem dX12_may_103 : decode cX12_may 103 = .ok (.getfield 88, 3) := by decide +kernel
theorem dX12_may_106 : decode cX12_may 106 = .ok (.iload 5, 2) := by decide +kernel
theorem dX12_may_108 : decode cX12_may 108 = .ok (.laload, 1) := by decide +kernel
theorem dX12_may_109 : decode cX12_may 109 = .ok (.aload_n 0, 1) := by decide +kernel
theorem dX12_may_110 : decode cX12_may 110 = .ok (.getfield 85, 3) := by decide +kernel
theorem dX12_may_113 : decode cX12_may 113 = .ok (.iload 6, 2) := by decide +kernel
theorem dX12_may_115 : decode cX12_may 115 = .ok (.laload, 1) := by decide +kernel
theorem dX12_may_116 : decode cX12_may 116 = .ok (.aload_n 0, 1) := by decide +kernel
theorem dX12_may_117 : decode cX12_may 117 = .ok (.getfield 88, 3) := by decide +kernel
theorem dX12_may_120 : decode cX12_may 120 = .ok (.iload 6, 2) := by decide +kernel
theorem dX12_may_122 : decode cX12_may 122 = .ok (.laload, 1) := by decide +kernel
theorem dX12_may_123 : decode cX12_may 123 = .ok (.invokevirtual 362, 3) := by decide +kernel
theorem dX12_may_126 : decode cX12_may 126 = .ok (.istore 8, 2) := by decide +kernel
theorem dX12_may_128 : decode cX12_may 128 = .ok (.iload_n 3, 1) := by decide +kernel
theorem dX12_may_129 : decode cX12_may 129 = .ok (.iconst 2, 1) := by decide +kernel
theorem dX12_may_130 : decode cX12_may 130 = .ok (.if_icmp .ge 11, 3) := by decide +kernel
theorem dX12_may_133 : decode cX12_may 133 = .ok (.iload 7, 2) := by decide +kernel
theorem dX12_may_135 : decode cX12_may 135 = .ok (.ifCond .eq 15, 3) := by decide +kernel
theorem dX12_may_138 : decode cX12_may 138 = .ok (.goto 8, 3) := by decide +kernel
theorem dX12_may_141 : decode cX12_may 141 = .ok (.iload 8, 2) := by decide +kernel
theorem dX12_may_143 : decode cX12_may 143 = .ok (.ifCond .eq 7, 3) := by decide +kernel
theorem dX12_may_146 : decode cX12_may 146 = .ok (.iload 6, 2) := by decide +kernel
theorem dX12_may_148 : decode cX12_may 148 = .ok (.istore 5, 2) := by decide +kernel
theorem dX12_may_150 : decode cX12_may 150 = .ok (.iinc 6 1, 3) := by decide +kernel
theorem dX12_may_153 : decode cX12_may 153 = .ok (.goto (-102), 3) := by decide +kernel
theorem dX12_may_156 : decode cX12_may 156 = .ok (.iload_n 3, 1) := by decide +kernel
theorem dX12_may_157 : decode cX12_may 157 = .ok (.iconst 2, 1) := by decide +kernel
theorem dX12_may_158 : decode cX12_may 158 = .ok (.irem, 1) := by decide +kernel
theorem dX12_may_159 : decode cX12_may 159 = .ok (.ifCond .ne 13, 3) := by decide +kernel
theorem dX12_may_162 : decode cX12_may 162 = .ok (.aload_n 0, 1) := by decide +kernel
theorem dX12_may_163 : decode cX12_may 163 = .ok (.getfield 85, 3) := by decide +kernel
theorem dX12_may_166 : decode cX12_may 166 = .ok (.iload 5, 2) := by decide +kernel
theorem dX12_may_168 : decode cX12_may 168 = .ok (.laload, 1) := by decide +kernel
theorem dX12_may_169 : decode cX12_may 169 = .ok (.goto 10, 3) := by decide +kernel
theorem dX12_may_172 : decode cX12_may 172 = .ok (.aload_n 0, 1) := by decide +kernel
theorem dX12_may_173 : decode cX12_may 173 = .ok (.getfield 88, 3) := by decide +kernel
theorem dX12_may_176 : decode cX12_may 176 = .ok (.iload 5, 2) := by decide +kernel
theorem dX12_may_178 : decode cX12_may 178 = .ok (.laload, 1) := by decide +kernel
theorem dX12_may_179 : decode cX12_may 179 = .ok (.lreturn, 1) := by decide +kernel
theorem dX12_keepsTo_0 : decode cX12_keepsTo 0 = .ok (.iload_n 1, 1) := by decide +kernel
theorem dX12_keepsTo_1 : decode cX12_keepsTo 1 = .ok (.iload_n 2, 1) := by decide +kernel
theorem dX12_keepsTo_2 : decode cX12_keepsTo 2 = .ok (.if_icmp .ne 14, 3) := by decide +kernel
theorem dX12_keepsTo_5 : decode cX12_keepsTo 5 = .ok (.aload_n 0, 1) := by decide +kernel
theorem dX12_keepsTo_6 : decode cX12_keepsTo 6 = .ok (.dup, 1) := by decide +kernel
theorem dX12_keepsTo_7 : decode cX12_keepsTo 7 = .ok (.getfield 365, 3) := by decide +kernel
theorem dX12_keepsTo_10 : decode cX12_keepsTo 10 = .ok (.iconst 1, 1) := by decide +kernel
theorem dX12_keepsTo_11 : decode cX12_keepsTo 11 = .ok (.iadd, 1) := by decide +kernel
theorem dX12_keepsTo_12 : decode cX12_keepsTo 12 = .ok (.putfield 365, 3) := by decide +kernel
theorem dX12_keepsTo_15 : decode cX12_keepsTo 15 = .ok (.return_, 1) := by decide +kernel
theorem dX12_keepsTo_16 : decode cX12_keepsTo 16 = .ok (.aload_n 0, 1) := by decide +kernel
theorem dX12_keepsTo_17 : decode cX12_keepsTo 17 = .ok (.getfield 150, 3) := by decide +kernel
theorem dX12_keepsTo_20 : decode cX12_keepsTo 20 = .ok (.lstore 5, 2) := by decide +kernel
theorem dX12_keepsTo_22 : decode cX12_keepsTo 22 = .ok (.aload_n 0, 1) := by decide +kernel
theorem dX12_keepsTo_23 : decode cX12_keepsTo 23 = .ok (.getfield 153, 3) := by decide +kernel
theorem dX12_keepsTo_26 : decode cX12_keepsTo 26 = .ok (.lstore 7, 2) := by decide +kernel
theorem dX12_keepsTo_28 : decode cX12_keepsTo 28 = .ok (.iconst 0, 1) := by decide +kernel
theorem dX12_keepsTo_29 : decode cX12_keepsTo 29 = .ok (.istore 9, 2) := by decide +kernel
theorem dX12_keepsTo_31 : decode cX12_keepsTo 31 = .ok (.iload 9, 2) := by decide +kernel
theorem dX12_keepsTo_33 : decode cX12_keepsTo 33 = .ok (.iconst 3, 1) := by decide +kernel
theorem dX12_keepsTo_34 : decode cX12_keepsTo 34 = .ok (.if_icmp .ge 64, 3) := by decide +kernel
theorem dX12_keepsTo_37 : decode cX12_keepsTo 37 = .ok (.aload_n 0, 1) := by decide +kernel
theorem dX12_keepsTo_38 : decode cX12_keepsTo 38 = .ok (.iload 9, 2) := by decide +kernel
theorem dX12_keepsTo_40 : decode cX12_keepsTo 40 = .ok (.invokevirtual 286, 3) := by decide +kernel
theorem dX12_keepsTo_43 : decode cX12_keepsTo 43 = .ok (.aload_n 0, 1) := by decide +kernel
theorem dX12_keepsTo_44 : decode cX12_keepsTo 44 = .ok (.getfield 150, 3) := by decide +kernel
theorem dX12_keepsTo_47 : decode cX12_keepsTo 47 = .ok (.lload_n 3, 1) := by decide +kernel
theorem dX12_keepsTo_48 : decode cX12_keepsTo 48 = .ok (.lcmp, 1) := by decide +kernel
theorem dX12_keepsTo_49 : decode cX12_keepsTo 49 = .ok (.ifCond .gt 31, 3) := by decide +kernel
theorem dX12_keepsTo_52 : decode cX12_keepsTo 52 = .ok (.aload_n 0, 1) := by decide +kernel
theorem dX12_keepsTo_53 : decode cX12_keepsTo 53 = .ok (.getfield 150, 3) := by decide +kernel
theorem dX12_keepsTo_56 : decode cX12_keepsTo 56 = .ok (.lload_n 3, 1) := by decide +kernel
theorem dX12_keepsTo_57 : decode cX12_keepsTo 57 = .ok (.lneg, 1) := by decide +kernel
theorem dX12_keepsTo_58 : decode cX12_keepsTo 58 = .ok (.lcmp, 1) := by decide +kernel
theorem dX12_keepsTo_59 : decode cX12_keepsTo 59 = .ok (.ifCond .lt 21, 3) := by decide +kernel
theorem dX12_keepsTo_62 : decode cX12_keepsTo 62 = .ok (.aload_n 0, 1) := by decide +kernel
theorem dX12_keepsTo_63 : decode cX12_keepsTo 63 = .ok (.getfield 153, 3) := by decide +kernel
theorem dX12_keepsTo_66 : decode cX12_keepsTo 66 = .ok (.lload_n 3, 1) := by decide +kernel
theorem dX12_keepsTo_67 : decode cX12_keepsTo 67 = .ok (.lcmp, 1) := by decide +kernel
theorem dX12_keepsTo_68 : decode cX12_keepsTo 68 = .ok (.ifCond .gt 12, 3) := by decide +kernel
theorem dX12_keepsTo_71 : decode cX12_keepsTo 71 = .ok (.aload_n 0, 1) := by decide +kernel
theorem dX12_keepsTo_72 : decode cX12_keepsTo 72 = .ok (.iload_n 1, 1) := by decide +kernel
theorem dX12_keepsTo_73 : decode cX12_keepsTo 73 = .ok (.iconst 1, 1) := by decide +kernel
theorem dX12_keepsTo_74 : decode cX12_keepsTo 74 = .ok (.iadd, 1) := by decide +kernel
theorem dX12_keepsTo_75 : decode cX12_keepsTo 75 = .ok (.iload_n 2, 1) := by decide +kernel
theorem dX12_keepsTo_76 : decode cX12_keepsTo 76 = .ok (.lload_n 3, 1) := by decide +kernel
theorem dX12_keepsTo_77 : decode cX12_keepsTo 77 = .ok (.invokevirtual 368, 3) := by decide +kernel
theorem dX12_keepsTo_80 : decode cX12_keepsTo 80 = .ok (.aload_n 0, 1) := by decide +kernel
theorem dX12_keepsTo_81 : decode cX12_keepsTo 81 = .ok (.lload 5, 2) := by decide +kernel
theorem dX12_keepsTo_83 : decode cX12_keepsTo 83 = .ok (.putfield 150, 3) := by decide +kernel
theorem dX12_keepsTo_86 : decode cX12_keepsTo 86 = .ok (.aload_n 0, 1) := by decide +kernel
theorem dX12_keepsTo_87 : decode cX12_keepsTo 87 = .ok (.lload 7, 2) := by decide +kernel
theorem dX12_keepsTo_89 : decode cX12_keepsTo 89 = .ok (.putfield 153, 3) := by decide +kernel
theorem dX12_keepsTo_92 : decode cX12_keepsTo 92 = .ok (.iinc 9 1, 3) := by decide +kernel
theorem dX12_keepsTo_95 : decode cX12_keepsTo 95 = .ok (.goto (-64), 3) := by decide +kernel
theorem dX12_keepsTo_98 : decode cX12_keepsTo 98 = .ok (.return_, 1) := by decide +kernel
theorem dX12_kept_0 : decode cX12_kept 0 = .ok (.iload_n 1, 1) := by decide +kernel
theorem dX12_kept_1 : decode cX12_kept 1 = .ok (.ifCond .lt 23, 3) := by decide +kernel
theorem dX12_kept_4 : decode cX12_kept 4 = .ok (.iload_n 1, 1) := by decide +kernel
theorem dX12_kept_5 : decode cX12_kept 5 = .ok (.bipush 9, 2) := by decide +kernel
theorem dX12_kept_7 : decode cX12_kept 7 = .ok (.if_icmp .gt 17, 3) := by decide +kernel
theorem dX12_kept_10 : decode cX12_kept 10 = .ok (.lload_n 2, 1) := by decide +kernel
theorem dX12_kept_11 : decode cX12_kept 11 = .ok (.lconst 1, 1) := by decide +kernel
theorem dX12_kept_12 : decode cX12_kept 12 = .ok (.lcmp, 1) := by decide +kernel
theorem dX12_kept_13 : decode cX12_kept 13 = .ok (.ifCond .lt 11, 3) := by decide +kernel
theorem dX12_kept_16 : decode cX12_kept 16 = .ok (.lload_n 2, 1) := by decide +kernel
theorem dX12_kept_17 : decode cX12_kept 17 = .ok (.ldc2_w 372, 3) := by decide +kernel
theorem dX12_kept_20 : decode cX12_kept 20 = .ok (.lcmp, 1) := by decide +kernel
theorem dX12_kept_21 : decode cX12_kept 21 = .ok (.ifCond .le 10, 3) := by decide +kernel
theorem dX12_kept_24 : decode cX12_kept 24 = .ok (.aload_n 0, 1) := by decide +kernel
theorem dX12_kept_25 : decode cX12_kept 25 = .ok (.bipush (-6), 2) := by decide +kernel
theorem dX12_kept_27 : decode cX12_kept 27 = .ok (.invokevirtual 115, 3) := by decide +kernel
theorem dX12_kept_30 : decode cX12_kept 30 = .ok (.ireturn, 1) := by decide +kernel
theorem dX12_kept_31 : decode cX12_kept 31 = .ok (.aload_n 0, 1) := by decide +kernel
theorem dX12_kept_32 : decode cX12_kept 32 = .ok (.invokevirtual 230, 3) := by decide +kernel
theorem dX12_kept_35 : decode cX12_kept 35 = .ok (.aload_n 0, 1) := by decide +kernel
theorem dX12_kept_36 : decode cX12_kept 36 = .ok (.iconst 0, 1) := by decide +kernel
theorem dX12_kept_37 : decode cX12_kept 37 = .ok (.putfield 365, 3) := by decide +kernel
theorem dX12_kept_40 : decode cX12_kept 40 = .ok (.aload_n 0, 1) := by decide +kernel
theorem dX12_kept_41 : decode cX12_kept 41 = .ok (.iconst 0, 1) := by decide +kernel
theorem dX12_kept_42 : decode cX12_kept 42 = .ok (.iload_n 1, 1) := by decide +kernel
theorem dX12_kept_43 : decode cX12_kept 43 = .ok (.lload_n 2, 1) := by decide +kernel
theorem dX12_kept_44 : decode cX12_kept 44 = .ok (.invokevirtual 368, 3) := by decide +kernel
theorem dX12_kept_47 : decode cX12_kept 47 = .ok (.aload_n 0, 1) := by decide +kernel
theorem dX12_kept_48 : decode cX12_kept 48 = .ok (.getfield 365, 3) := by decide +kernel
theorem dX12_kept_51 : decode cX12_kept 51 = .ok (.ireturn, 1) := by decide +kernel
theorem dX12_counts_0 : decode cX12_counts 0 = .ok (.iload_n 1, 1) := by decide +kernel
theorem dX12_counts_1 : decode cX12_counts 1 = .ok (.iload_n 2, 1) := by decide +kernel
theorem dX12_counts_2 : decode cX12_counts 2 = .ok (.if_icmp .ne 38, 3) := by decide +kernel
theorem dX12_counts_5 : decode cX12_counts 5 = .ok (.aload_n 0, 1) := by decide +kernel
theorem dX12_counts_6 : decode cX12_counts 6 = .ok (.getfield 150, 3) := by decide +kernel
theorem dX12_counts_9 : decode cX12_counts 9 = .ok (.aload_n 0, 1) := by decide +kernel
theorem dX12_counts_10 : decode cX12_counts 10 = .ok (.getfield 280, 3) := by decide +kernel
theorem dX12_counts_13 : decode cX12_counts 13 = .ok (.lcmp, 1) := by decide +kernel
theorem dX12_counts_14 : decode cX12_counts 14 = .ok (.ifCond .ne 25, 3) := by decide +kernel
theorem dX12_counts_17 : decode cX12_counts 17 = .ok (.aload_n 0, 1) := by decide +kernel
theorem dX12_counts_18 : decode cX12_counts 18 = .ok (.getfield 153, 3) := by decide +kernel
theorem dX12_counts_21 : decode cX12_counts 21 = .ok (.aload_n 0, 1) := by decide +kernel
theorem dX12_counts_22 : decode cX12_counts 22 = .ok (.getfield 283, 3) := by decide +kernel
theorem dX12_counts_25 : decode cX12_counts 25 = .ok (.lcmp, 1) := by decide +kernel
theorem dX12_counts_26 : decode cX12_counts 26 = .ok (.ifCond .ne 13, 3) := by decide +kernel
theorem dX12_counts_29 : decode cX12_counts 29 = .ok (.aload_n 0, 1) := by decide +kernel
theorem dX12_counts_30 : decode cX12_counts 30 = .ok (.dup, 1) := by decide +kernel
theorem dX12_counts_31 : decode cX12_counts 31 = .ok (.getfield 365, 3) := by decide +kernel
theorem dX12_counts_34 : decode cX12_counts 34 = .ok (.iconst 1, 1) := by decide +kernel
theorem dX12_counts_35 : decode cX12_counts 35 = .ok (.iadd, 1) := by decide +kernel
theorem dX12_counts_36 : decode cX12_counts 36 = .ok (.putfield 365, 3) := by decide +kernel
theorem dX12_counts_39 : decode cX12_counts 39 = .ok (.return_, 1) := by decide +kernel
theorem dX12_counts_40 : decode cX12_counts 40 = .ok (.aload_n 0, 1) := by decide +kernel
theorem dX12_counts_41 : decode cX12_counts 41 = .ok (.getfield 150, 3) := by decide +kernel
theorem dX12_counts_44 : decode cX12_counts 44 = .ok (.lstore_n 3, 1) := by decide +kernel
theorem dX12_counts_45 : decode cX12_counts 45 = .ok (.aload_n 0, 1) := by decide +kernel
theorem dX12_counts_46 : decode cX12_counts 46 = .ok (.getfield 153, 3) := by decide +kernel
theorem dX12_counts_49 : decode cX12_counts 49 = .ok (.lstore 5, 2) := by decide +kernel
theorem dX12_counts_51 : decode cX12_counts 51 = .ok (.iconst 0, 1) := by decide +kernel
theorem dX12_counts_52 : decode cX12_counts 52 = .ok (.istore 7, 2) := by decide +kernel
theorem dX12_counts_54 : decode cX12_counts 54 = .ok (.iload 7, 2) := by decide +kernel
theorem dX12_counts_56 : decode cX12_counts 56 = .ok (.iconst 3, 1) := by decide +kernel
theorem dX12_counts_57 : decode cX12_counts 57 = .ok (.if_icmp .ge 34, 3) := by decide +kernel
theorem dX12_counts_60 : decode cX12_counts 60 = .ok (.aload_n 0, 1) := by decide +kernel
theorem dX12_counts_61 : decode cX12_counts 61 = .ok (.iload 7, 2) := by decide +kernel
theorem dX12_counts_63 : decode cX12_counts 63 = .ok (.invokevirtual 286, 3) := by decide +kernel
theorem dX12_counts_66 : decode cX12_counts 66 = .ok (.aload_n 0, 1) := by decide +kernel
theorem dX12_counts_67 : decode cX12_counts 67 = .ok (.iload_n 1, 1) := by decide +kernel
theorem dX12_counts_68 : decode cX12_counts 68 = .ok (.iconst 1, 1) := by decide +kernel
theorem dX12_counts_69 : decode cX12_counts 69 = .ok (.iadd, 1) := by decide +kernel
theorem dX12_counts_70 : decode cX12_counts 70 = .ok (.iload_n 2, 1) := by decide +kernel
theorem dX12_counts_71 : decode cX12_counts 71 = .ok (.invokevirtual 374, 3) := by decide +kernel
theorem dX12_counts_74 : decode cX12_counts 74 = .ok (.aload_n 0, 1) := by decide +kernel
theorem dX12_counts_75 : decode cX12_counts 75 = .ok (.lload_n 3, 1) := by decide +kernel
theorem dX12_counts_76 : decode cX12_counts 76 = .ok (.putfield 150, 3) := by decide +kernel
theorem dX12_counts_79 : decode cX12_counts 79 = .ok (.aload_n 0, 1) := by decide +kernel
theorem dX12_counts_80 : decode cX12_counts 80 = .ok (.lload 5, 2) := by decide +kernel
theorem dX12_counts_82 : decode cX12_counts 82 = .ok (.putfield 153, 3) := by decide +kernel
theorem dX12_counts_85 : decode cX12_counts 85 = .ok (.iinc 7 1, 3) := by decide +kernel
theorem dX12_counts_88 : decode cX12_counts 88 = .ok (.goto (-34), 3) := by decide +kernel
theorem dX12_counts_91 : decode cX12_counts 91 = .ok (.return_, 1) := by decide +kernel
theorem dX12_lot_0 : decode cX12_lot 0 = .ok (.iload_n 1, 1) := by decide +kernel
theorem dX12_lot_1 : decode cX12_lot 1 = .ok (.ifCond .lt 19, 3) := by decide +kernel
theorem dX12_lot_4 : decode cX12_lot 4 = .ok (.iload_n 1, 1) := by decide +kernel
theorem dX12_lot_5 : decode cX12_lot 5 = .ok (.bipush 9, 2) := by decide +kernel
theorem dX12_lot_7 : decode cX12_lot 7 = .ok (.if_icmp .gt 13, 3) := by decide +kernel
theorem dX12_lot_10 : decode cX12_lot 10 = .ok (.aload_n 0, 1) := by decide +kernel
theorem dX12_lot_11 : decode cX12_lot 11 = .ok (.lload_n 2, 1) := by decide +kernel
theorem dX12_lot_12 : decode cX12_lot 12 = .ok (.lload 4, 2) := by decide +kernel
theorem dX12_lot_14 : decode cX12_lot 14 = .ok (.invokevirtual 143, 3) := by decide +kernel
theorem dX12_lot_17 : decode cX12_lot 17 = .ok (.ifCond .ne 10, 3) := by decide +kernel
theorem dX12_lot_20 : decode cX12_lot 20 = .ok (.aload_n 0, 1) := by decide +kernel
theorem dX12_lot_21 : decode cX12_lot 21 = .ok (.bipush (-6), 2) := by decide +kernel
theorem dX12_lot_23 : decode cX12_lot 23 = .ok (.invokevirtual 115, 3) := by decide +kernel
theorem dX12_lot_26 : decode cX12_lot 26 = .ok (.ireturn, 1) := by decide +kernel
theorem dX12_lot_27 : decode cX12_lot 27 = .ok (.aload_n 0, 1) := by decide +kernel
theorem dX12_lot_28 : decode cX12_lot 28 = .ok (.lload_n 2, 1) := by decide +kernel
theorem dX12_lot_29 : decode cX12_lot 29 = .ok (.putfield 280, 3) := by decide +kernel
theorem dX12_lot_32 : decode cX12_lot 32 = .ok (.aload_n 0, 1) := by decide +kernel
theorem dX12_lot_33 : decode cX12_lot 33 = .ok (.lload 4, 2) := by decide +kernel
theorem dX12_lot_35 : decode cX12_lot 35 = .ok (.putfield 283, 3) := by decide +kernel
theorem dX12_lot_38 : decode cX12_lot 38 = .ok (.aload_n 0, 1) := by decide +kernel
theorem dX12_lot_39 : decode cX12_lot 39 = .ok (.invokevirtual 230, 3) := by decide +kernel
theorem dX12_lot_42 : decode cX12_lot 42 = .ok (.aload_n 0, 1) := by decide +kernel
theorem dX12_lot_43 : decode cX12_lot 43 = .ok (.iconst 0, 1) := by decide +kernel
theorem dX12_lot_44 : decode cX12_lot 44 = .ok (.putfield 365, 3) := by decide +kernel
theorem dX12_lot_47 : decode cX12_lot 47 = .ok (.aload_n 0, 1) := by decide +kernel
theorem dX12_lot_48 : decode cX12_lot 48 = .ok (.iconst 0, 1) := by decide +kernel
theorem dX12_lot_49 : decode cX12_lot 49 = .ok (.iload_n 1, 1) := by decide +kernel
theorem dX12_lot_50 : decode cX12_lot 50 = .ok (.invokevirtual 374, 3) := by decide +kernel
theorem dX12_lot_53 : decode cX12_lot 53 = .ok (.aload_n 0, 1) := by decide +kernel
theorem dX12_lot_54 : decode cX12_lot 54 = .ok (.getfield 365, 3) := by decide +kernel
theorem dX12_lot_57 : decode cX12_lot 57 = .ok (.ireturn, 1) := by decide +kernel
theorem dX12_tells_0 : decode cX12_tells 0 = .ok (.iload_n 1, 1) := by decide +kernel
theorem dX12_tells_1 : decode cX12_tells 1 = .ok (.iload_n 2, 1) := by decide +kernel
theorem dX12_tells_2 : decode cX12_tells 2 = .ok (.if_icmp .ne 55, 3) := by decide +kernel
theorem dX12_tells_5 : decode cX12_tells 5 = .ok (.iconst 0, 1) := by decide +kernel
theorem dX12_tells_6 : decode cX12_tells 6 = .ok (.istore_n 3, 1) := by decide +kernel
theorem dX12_tells_7 : decode cX12_tells 7 = .ok (.iload_n 3, 1) := by decide +kernel
theorem dX12_tells_8 : decode cX12_tells 8 = .ok (.aload_n 0, 1) := by decide +kernel
theorem dX12_tells_9 : decode cX12_tells 9 = .ok (.getfield 377, 3) := by decide +kernel
theorem dX12_tells_12 : decode cX12_tells 12 = .ok (.if_icmp .ge 43, 3) := by decide +kernel
theorem dX12_tells_15 : decode cX12_tells 15 = .ok (.aload_n 0, 1) := by decide +kernel
theorem dX12_tells_16 : decode cX12_tells 16 = .ok (.getfield 91, 3) := by decide +kernel
theorem dX12_tells_19 : decode cX12_tells 19 = .ok (.iload_n 3, 1) := by decide +kernel
theorem dX12_tells_20 : decode cX12_tells 20 = .ok (.laload, 1) := by decide +kernel
theorem dX12_tells_21 : decode cX12_tells 21 = .ok (.lconst 0, 1) := by decide +kernel
theorem dX12_tells_22 : decode cX12_tells 22 = .ok (.lcmp, 1) := by decide +kernel
theorem dX12_tells_23 : decode cX12_tells 23 = .ok (.ifCond .ne 7, 3) := by decide +kernel
theorem dX12_tells_26 : decode cX12_tells 26 = .ok (.iconst 1, 1) := by decide +kernel
theorem dX12_tells_27 : decode cX12_tells 27 = .ok (.goto 4, 3) := by decide +kernel
theorem dX12_tells_30 : decode cX12_tells 30 = .ok (.iconst 0, 1) := by decide +kernel
theorem dX12_tells_31 : decode cX12_tells 31 = .ok (.iload_n 3, 1) := by decide +kernel
theorem dX12_tells_32 : decode cX12_tells 32 = .ok (.aload_n 0, 1) := by decide +kernel
theorem dX12_tells_33 : decode cX12_tells 33 = .ok (.getfield 380, 3) := by decide +kernel
theorem dX12_tells_36 : decode cX12_tells 36 = .ok (.if_icmp .ne 7, 3) := by decide +kernel
theorem dX12_tells_39 : decode cX12_tells 39 = .ok (.iconst 1, 1) := by decide +kernel
theorem dX12_tells_40 : decode cX12_tells 40 = .ok (.goto 4, 3) := by decide +kernel
theorem dX12_tells_43 : decode cX12_tells 43 = .ok (.iconst 0, 1) := by decide +kernel
theorem dX12_tells_44 : decode cX12_tells 44 = .ok (.if_icmp .eq 5, 3) := by decide +kernel
theorem dX12_tells_47 : decode cX12_tells 47 = .ok (.iconst 0, 1) := by decide +kernel
theorem dX12_tells_48 : decode cX12_tells 48 = .ok (.ireturn, 1) := by decide +kernel
theorem dX12_tells_49 : decode cX12_tells 49 = .ok (.iinc 3 1, 3) := by decide +kernel
theorem dX12_tells_52 : decode cX12_tells 52 = .ok (.goto (-45), 3) := by decide +kernel
theorem dX12_tells_55 : decode cX12_tells 55 = .ok (.iconst 1, 1) := by decide +kernel
theorem dX12_tells_56 : decode cX12_tells 56 = .ok (.ireturn, 1) := by decide +kernel
theorem dX12_tells_57 : decode cX12_tells 57 = .ok (.iconst 0, 1) := by decide +kernel
theorem dX12_tells_58 : decode cX12_tells 58 = .ok (.istore_n 3, 1) := by decide +kernel
theorem dX12_tells_59 : decode cX12_tells 59 = .ok (.iload_n 3, 1) := by decide +kernel
theorem dX12_tells_60 : decode cX12_tells 60 = .ok (.aload_n 0, 1) := by decide +kernel
theorem dX12_tells_61 : decode cX12_tells 61 = .ok (.getfield 377, 3) := by decide +kernel
theorem dX12_tells_64 : decode cX12_tells 64 = .ok (.if_icmp .ge 41, 3) := by decide +kernel
theorem dX12_tells_67 : decode cX12_tells 67 = .ok (.aload_n 0, 1) := by decide +kernel
theorem dX12_tells_68 : decode cX12_tells 68 = .ok (.getfield 97, 3) := by decide +kernel
theorem dX12_tells_71 : decode cX12_tells 71 = .ok (.iconst 4, 1) := by decide +kernel
theorem dX12_tells_72 : decode cX12_tells 72 = .ok (.iload_n 1, 1) := by decide +kernel
theorem dX12_tells_73 : decode cX12_tells 73 = .ok (.imul, 1) := by decide +kernel
theorem dX12_tells_74 : decode cX12_tells 74 = .ok (.iload_n 3, 1) := by decide +kernel
theorem dX12_tells_75 : decode cX12_tells 75 = .ok (.iadd, 1) := by decide +kernel
theorem dX12_tells_76 : decode cX12_tells 76 = .ok (.aload_n 0, 1) := by decide +kernel
theorem dX12_tells_77 : decode cX12_tells 77 = .ok (.getfield 91, 3) := by decide +kernel
theorem dX12_tells_80 : decode cX12_tells 80 = .ok (.iload_n 3, 1) := by decide +kernel
theorem dX12_tells_81 : decode cX12_tells 81 = .ok (.laload, 1) := by decide +kernel
theorem dX12_tells_82 : decode cX12_tells 82 = .ok (.lastore, 1) := by decide +kernel
theorem dX12_tells_83 : decode cX12_tells 83 = .ok (.aload_n 0, 1) := by decide +kernel
theorem dX12_tells_84 : decode cX12_tells 84 = .ok (.getfield 100, 3) := by decide +kernel
theorem dX12_tells_87 : decode cX12_tells 87 = .ok (.iconst 4, 1) := by decide +kernel
theorem dX12_tells_88 : decode cX12_tells 88 = .ok (.iload_n 1, 1) := by decide +kernel
theorem dX12_tells_89 : decode cX12_tells 89 = .ok (.imul, 1) := by decide +kernel
theorem dX12_tells_90 : decode cX12_tells 90 = .ok (.iload_n 3, 1) := by decide +kernel
theorem dX12_tells_91 : decode cX12_tells 91 = .ok (.iadd, 1) := by decide +kernel
theorem dX12_tells_92 : decode cX12_tells 92 = .ok (.aload_n 0, 1) := by decide +kernel
theorem dX12_tells_93 : decode cX12_tells 93 = .ok (.getfield 94, 3) := by decide +kernel
theorem dX12_tells_96 : decode cX12_tells 96 = .ok (.iload_n 3, 1) := by decide +kernel
theorem dX12_tells_97 : decode cX12_tells 97 = .ok (.laload, 1) := by decide +kernel
theorem dX12_tells_98 : decode cX12_tells 98 = .ok (.lastore, 1) := by decide +kernel
theorem dX12_tells_99 : decode cX12_tells 99 = .ok (.iinc 3 1, 3) := by decide +kernel
theorem dX12_tells_102 : decode cX12_tells 102 = .ok (.goto (-43), 3) := by decide +kernel
theorem dX12_tells_105 : decode cX12_tells 105 = .ok (.iconst 0, 1) := by decide +kernel
theorem dX12_tells_106 : decode cX12_tells 106 = .ok (.istore_n 3, 1) := by decide +kernel
theorem dX12_tells_107 : decode cX12_tells 107 = .ok (.iload_n 3, 1) := by decide +kernel
theorem dX12_tells_108 : decode cX12_tells 108 = .ok (.iconst 3, 1) := by decide +kernel
theorem dX12_tells_109 : decode cX12_tells 109 = .ok (.if_icmp .ge 104, 3) := by decide +kernel
theorem dX12_tells_112 : decode cX12_tells 112 = .ok (.aload_n 0, 1) := by decide +kernel
theorem dX12_tells_113 : decode cX12_tells 113 = .ok (.getfield 79, 3) := by decide +kernel
theorem dX12_tells_116 : decode cX12_tells 116 = .ok (.iload_n 1, 1) := by decide +kernel
theorem dX12_tells_117 : decode cX12_tells 117 = .ok (.iload_n 3, 1) := by decide +kernel
theorem dX12_tells_118 : decode cX12_tells 118 = .ok (.iastore, 1) := by decide +kernel
theorem dX12_tells_119 : decode cX12_tells 119 = .ok (.iconst 0, 1) := by decide +kernel
theorem dX12_tells_120 : decode cX12_tells 120 = .ok (.istore 4, 2) := by decide +kernel
theorem dX12_tells_122 : decode cX12_tells 122 = .ok (.iload 4, 2) := by decide +kernel
theorem dX12_tells_124 : decode cX12_tells 124 = .ok (.aload_n 0, 1) := by decide +kernel
theorem dX12_tells_125 : decode cX12_tells 125 = .ok (.getfield 377, 3) := by decide +kernel
theorem dX12_tells_128 : decode cX12_tells 128 = .ok (.if_icmp .ge 66, 3) := by decide +kernel
theorem dX12_tells_131 : decode cX12_tells 131 = .ok (.aload_n 0, 1) := by decide +kernel
theorem dX12_tells_132 : decode cX12_tells 132 = .ok (.aload_n 0, 1) := by decide +kernel
theorem dX12_tells_133 : decode cX12_tells 133 = .ok (.getfield 97, 3) := by decide +kernel
theorem dX12_tells_136 : decode cX12_tells 136 = .ok (.iconst 4, 1) := by decide +kernel
theorem dX12_tells_137 : decode cX12_tells 137 = .ok (.iload_n 1, 1) := by decide +kernel
theorem dX12_tells_138 : decode cX12_tells 138 = .ok (.imul, 1) := by decide +kernel
theorem dX12_tells_139 : decode cX12_tells 139 = .ok (.iload 4, 2) := by decide +kernel
theorem dX12_tells_141 : decode cX12_tells 141 = .ok (.iadd, 1) := by decide +kernel
theorem dX12_tells_142 : decode cX12_tells 142 = .ok (.laload, 1) := by decide +kernel
theorem dX12_tells_143 : decode cX12_tells 143 = .ok (.putfield 150, 3) := by decide +kernel
theorem dX12_tells_146 : decode cX12_tells 146 = .ok (.aload_n 0, 1) := by decide +kernel
theorem dX12_tells_147 : decode cX12_tells 147 = .ok (.aload_n 0, 1) := by decide +kernel
theorem dX12_tells_148 : decode cX12_tells 148 = .ok (.getfield 100, 3) := by decide +kernel
theorem dX12_tells_151 : decode cX12_tells 151 = .ok (.iconst 4, 1) := by decide +kernel
theorem dX12_tells_152 : decode cX12_tells 152 = .ok (.iload_n 1, 1) := by decide +kernel
theorem dX12_tells_153 : decode cX12_tells 153 = .ok (.imul, 1) := by decide +kernel
theorem dX12_tells_154 : decode cX12_tells 154 = .ok (.iload 4, 2) := by decide +kernel
theorem dX12_tells_156 : decode cX12_tells 156 = .ok (.iadd, 1) := by decide +kernel
theorem dX12_tells_157 : decode cX12_tells 157 = .ok (.laload, 1) := by decide +kernel
theorem dX12_tells_158 : decode cX12_tells 158 = .ok (.putfield 153, 3) := by decide +kernel
theorem dX12_tells_161 : decode cX12_tells 161 = .ok (.aload_n 0, 1) := by decide +kernel
theorem dX12_tells_162 : decode cX12_tells 162 = .ok (.iload_n 3, 1) := by decide +kernel
theorem dX12_tells_163 : decode cX12_tells 163 = .ok (.invokevirtual 286, 3) := by decide +kernel
theorem dX12_tells_166 : decode cX12_tells 166 = .ok (.aload_n 0, 1) := by decide +kernel
theorem dX12_tells_167 : decode cX12_tells 167 = .ok (.getfield 91, 3) := by decide +kernel
theorem dX12_tells_170 : decode cX12_tells 170 = .ok (.iload 4, 2) := by decide +kernel
theorem dX12_tells_172 : decode cX12_tells 172 = .ok (.aload_n 0, 1) := by decide +kernel
theorem dX12_tells_173 : decode cX12_tells 173 = .ok (.getfield 150, 3) := by decide +kernel
theorem dX12_tells_176 : decode cX12_tells 176 = .ok (.lastore, 1) := by decide +kernel
theorem dX12_tells_177 : decode cX12_tells 177 = .ok (.aload_n 0, 1) := by decide +kernel
theorem dX12_tells_178 : decode cX12_tells 178 = .ok (.getfield 94, 3) := by decide +kernel
theorem dX12_tells_181 : decode cX12_tells 181 = .ok (.iload 4, 2) := by decide +kernel
theorem dX12_tells_183 : decode cX12_tells 183 = .ok (.aload_n 0, 1) := by decide +kernel
theorem dX12_tells_184 : decode cX12_tells 184 = .ok (.getfield 153, 3) := by decide +kernel
theorem dX12_tells_187 : decode cX12_tells 187 = .ok (.lastore, 1) := by decide +kernel
theorem dX12_tells_188 : decode cX12_tells 188 = .ok (.iinc 4 1, 3) := by decide +kernel
theorem dX12_tells_191 : decode cX12_tells 191 = .ok (.goto (-69), 3) := by decide +kernel
theorem dX12_tells_194 : decode cX12_tells 194 = .ok (.aload_n 0, 1) := by decide +kernel
theorem dX12_tells_195 : decode cX12_tells 195 = .ok (.iload_n 1, 1) := by decide +kernel
theorem dX12_tells_196 : decode cX12_tells 196 = .ok (.iconst 1, 1) := by decide +kernel
theorem dX12_tells_197 : decode cX12_tells 197 = .ok (.iadd, 1) := by decide +kernel
theorem dX12_tells_198 : decode cX12_tells 198 = .ok (.iload_n 2, 1) := by decide +kernel
theorem dX12_tells_199 : decode cX12_tells 199 = .ok (.invokevirtual 383, 3) := by decide +kernel
theorem dX12_tells_202 : decode cX12_tells 202 = .ok (.ifCond .eq 5, 3) := by decide +kernel
theorem dX12_tells_205 : decode cX12_tells 205 = .ok (.iconst 1, 1) := by decide +kernel
theorem dX12_tells_206 : decode cX12_tells 206 = .ok (.ireturn, 1) := by decide +kernel
theorem dX12_tells_207 : decode cX12_tells 207 = .ok (.iinc 3 1, 3) := by decide +kernel
theorem dX12_tells_210 : decode cX12_tells 210 = .ok (.goto (-103), 3) := by decide +kernel
theorem dX12_tells_213 : decode cX12_tells 213 = .ok (.iconst 0, 1) := by decide +kernel
theorem dX12_tells_214 : decode cX12_tells 214 = .ok (.istore_n 3, 1) := by decide +kernel
theorem dX12_tells_215 : decode cX12_tells 215 = .ok (.iload_n 3, 1) := by decide +kernel
theorem dX12_tells_216 : decode cX12_tells 216 = .ok (.aload_n 0, 1) := by decide +kernel
theorem dX12_tells_217 : decode cX12_tells 217 = .ok (.getfield 377, 3) := by decide +kernel
theorem dX12_tells_220 : decode cX12_tells 220 = .ok (.if_icmp .ge 41, 3) := by decide +kernel
theorem dX12_tells_223 : decode cX12_tells 223 = .ok (.aload_n 0, 1) := by decide +kernel
theorem dX12_tells_224 : decode cX12_tells 224 = .ok (.getfield 91, 3) := by decide +kernel
theorem dX12_tells_227 : decode cX12_tells 227 = .ok (.iload_n 3, 1) := by decide +kernel
theorem dX12_tells_228 : decode cX12_tells 228 = .ok (.aload_n 0, 1) := by decide +kernel
theorem dX12_tells_229 : decode cX12_tells 229 = .ok (.getfield 97, 3) := by decide +kernel
theorem dX12_tells_232 : decode cX12_tells 232 = .ok (.iconst 4, 1) := by decide +kernel
theorem dX12_tells_233 : decode cX12_tells 233 = .ok (.iload_n 1, 1) := by decide +kernel
theorem dX12_tells_234 : decode cX12_tells 234 = .ok (.imul, 1) := by decide +kernel
theorem dX12_tells_235 : decode cX12_tells 235 = .ok (.iload_n 3, 1) := by decide +kernel
theorem dX12_tells_236 : decode cX12_tells 236 = .ok (.iadd, 1) := by decide +kernel
theorem dX12_tells_237 : decode cX12_tells 237 = .ok (.laload, 1) := by decide +kernel
theorem dX12_tells_238 : decode cX12_tells 238 = .ok (.lastore, 1) := by decide +kernel
theorem dX12_tells_239 : decode cX12_tells 239 = .ok (.aload_n 0, 1) := by decide +kernel
theorem dX12_tells_240 : decode cX12_tells 240 = .ok (.getfield 94, 3) := by decide +kernel
theorem dX12_tells_243 : decode cX12_tells 243 = .ok (.iload_n 3, 1) := by decide +kernel
theorem dX12_tells_244 : decode cX12_tells 244 = .ok (.aload_n 0, 1) := by decide +kernel
theorem dX12_tells_245 : decode cX12_tells 245 = .ok (.getfield 100, 3) := by decide +kernel
theorem dX12_tells_248 : decode cX12_tells 248 = .ok (.iconst 4, 1) := by decide +kernel
theorem dX12_tells_249 : decode cX12_tells 249 = .ok (.iload_n 1, 1) := by decide +kernel
theorem dX12_tells_250 : decode cX12_tells 250 = .ok (.imul, 1) := by decide +kernel
theorem dX12_tells_251 : decode cX12_tells 251 = .ok (.iload_n 3, 1) := by decide +kernel
theorem dX12_tells_252 : decode cX12_tells 252 = .ok (.iadd, 1) := by decide +kernel
theorem dX12_tells_253 : decode cX12_tells 253 = .ok (.laload, 1) := by decide +kernel
theorem dX12_tells_254 : decode cX12_tells 254 = .ok (.lastore, 1) := by decide +kernel
theorem dX12_tells_255 : decode cX12_tells 255 = .ok (.iinc 3 1, 3) := by decide +kernel
theorem dX12_tells_258 : decode cX12_tells 258 = .ok (.goto (-43), 3) := by decide +kernel
theorem dX12_tells_261 : decode cX12_tells 261 = .ok (.iconst 0, 1) := by decide +kernel
theorem dX12_tells_262 : decode cX12_tells 262 = .ok (.ireturn, 1) := by decide +kernel
theorem dX12_bag_0 : decode cX12_bag 0 = .ok (.aload_n 0, 1) := by decide +kernel
theorem dX12_bag_1 : decode cX12_bag 1 = .ok (.iload_n 1, 1) := by decide +kernel
theorem dX12_bag_2 : decode cX12_bag 2 = .ok (.invokevirtual 128, 3) := by decide +kernel
theorem dX12_bag_5 : decode cX12_bag 5 = .ok (.istore 5, 2) := by decide +kernel
theorem dX12_bag_7 : decode cX12_bag 7 = .ok (.iload 5, 2) := by decide +kernel
theorem dX12_bag_9 : decode cX12_bag 9 = .ok (.ifCond .eq 10, 3) := by decide +kernel
theorem dX12_bag_12 : decode cX12_bag 12 = .ok (.aload_n 0, 1) := by decide +kernel
theorem dX12_bag_13 : decode cX12_bag 13 = .ok (.iload 5, 2) := by decide +kernel
theorem dX12_bag_15 : decode cX12_bag 15 = .ok (.invokevirtual 292, 3) := by decide +kernel
theorem dX12_bag_18 : decode cX12_bag 18 = .ok (.ireturn, 1) := by decide +kernel
theorem dX12_bag_19 : decode cX12_bag 19 = .ok (.iload_n 2, 1) := by decide +kernel
theorem dX12_bag_20 : decode cX12_bag 20 = .ok (.ifCond .ge 10, 3) := by decide +kernel
theorem dX12_bag_23 : decode cX12_bag 23 = .ok (.aload_n 0, 1) := by decide +kernel
theorem dX12_bag_24 : decode cX12_bag 24 = .ok (.bipush (-4), 2) := by decide +kernel
theorem dX12_bag_26 : decode cX12_bag 26 = .ok (.invokevirtual 292, 3) := by decide +kernel
theorem dX12_bag_29 : decode cX12_bag 29 = .ok (.ireturn, 1) := by decide +kernel
theorem dX12_bag_30 : decode cX12_bag 30 = .ok (.iload_n 2, 1) := by decide +kernel
theorem dX12_bag_31 : decode cX12_bag 31 = .ok (.aload_n 0, 1) := by decide +kernel
theorem dX12_bag_32 : decode cX12_bag 32 = .ok (.getfield 42, 3) := by decide +kernel
theorem dX12_bag_35 : decode cX12_bag 35 = .ok (.iload_n 1, 1) := by decide +kernel
theorem dX12_bag_36 : decode cX12_bag 36 = .ok (.iaload, 1) := by decide +kernel
theorem dX12_bag_37 : decode cX12_bag 37 = .ok (.iconst 2, 1) := by decide +kernel
theorem dX12_bag_38 : decode cX12_bag 38 = .ok (.idiv, 1) := by decide +kernel
theorem dX12_bag_39 : decode cX12_bag 39 = .ok (.if_icmp .le 10, 3) := by decide +kernel
theorem dX12_bag_42 : decode cX12_bag 42 = .ok (.aload_n 0, 1) := by decide +kernel
theorem dX12_bag_43 : decode cX12_bag 43 = .ok (.bipush (-5), 2) := by decide +kernel
theorem dX12_bag_45 : decode cX12_bag 45 = .ok (.invokevirtual 292, 3) := by decide +kernel
theorem dX12_bag_48 : decode cX12_bag 48 = .ok (.ireturn, 1) := by decide +kernel
theorem dX12_bag_49 : decode cX12_bag 49 = .ok (.iload_n 2, 1) := by decide +kernel
theorem dX12_bag_50 : decode cX12_bag 50 = .ok (.iconst 1, 1) := by decide +kernel
theorem dX12_bag_51 : decode cX12_bag 51 = .ok (.if_icmp .lt 17, 3) := by decide +kernel
theorem dX12_bag_54 : decode cX12_bag 54 = .ok (.iload_n 2, 1) := by decide +kernel
theorem dX12_bag_55 : decode cX12_bag 55 = .ok (.iconst 4, 1) := by decide +kernel
theorem dX12_bag_56 : decode cX12_bag 56 = .ok (.if_icmp .gt 12, 3) := by decide +kernel
theorem dX12_bag_59 : decode cX12_bag 59 = .ok (.iload_n 3, 1) := by decide +kernel
theorem dX12_bag_60 : decode cX12_bag 60 = .ok (.ifCond .lt 8, 3) := by decide +kernel
theorem dX12_bag_63 : decode cX12_bag 63 = .ok (.iload_n 3, 1) := by decide +kernel
theorem dX12_bag_64 : decode cX12_bag 64 = .ok (.iload_n 2, 1) := by decide +kernel
theorem dX12_bag_65 : decode cX12_bag 65 = .ok (.if_icmp .lt 10, 3) := by decide +kernel
theorem dX12_bag_68 : decode cX12_bag 68 = .ok (.aload_n 0, 1) := by decide +kernel
theorem dX12_bag_69 : decode cX12_bag 69 = .ok (.bipush (-6), 2) := by decide +kernel
theorem dX12_bag_71 : decode cX12_bag 71 = .ok (.invokevirtual 292, 3) := by decide +kernel
theorem dX12_bag_74 : decode cX12_bag 74 = .ok (.ireturn, 1) := by decide +kernel
theorem dX12_bag_75 : decode cX12_bag 75 = .ok (.iconst 0, 1) := by decide +kernel
theorem dX12_bag_76 : decode cX12_bag 76 = .ok (.istore 6, 2) := by decide +kernel
theorem dX12_bag_78 : decode cX12_bag 78 = .ok (.iload 6, 2) := by decide +kernel
theorem dX12_bag_80 : decode cX12_bag 80 = .ok (.iload_n 2, 1) := by decide +kernel
theorem dX12_bag_81 : decode cX12_bag 81 = .ok (.if_icmp .ge 55, 3) := by decide +kernel
theorem dX12_bag_84 : decode cX12_bag 84 = .ok (.aload_n 0, 1) := by decide +kernel
theorem dX12_bag_85 : decode cX12_bag 85 = .ok (.aload_n 0, 1) := by decide +kernel
theorem dX12_bag_86 : decode cX12_bag 86 = .ok (.getfield 48, 3) := by decide +kernel
theorem dX12_bag_89 : decode cX12_bag 89 = .ok (.sipush 160, 3) := by decide +kernel
theorem dX12_bag_92 : decode cX12_bag 92 = .ok (.iload_n 1, 1) := by decide +kernel
theorem dX12_bag_93 : decode cX12_bag 93 = .ok (.imul, 1) := by decide +kernel
theorem dX12_bag_94 : decode cX12_bag 94 = .ok (.iconst 2, 1) := by decide +kernel
theorem dX12_bag_95 : decode cX12_bag 95 = .ok (.iload 6, 2) := by decide +kernel
theorem dX12_bag_97 : decode cX12_bag 97 = .ok (.imul, 1) := by decide +kernel
theorem dX12_bag_98 : decode cX12_bag 98 = .ok (.iadd, 1) := by decide +kernel
theorem dX12_bag_99 : decode cX12_bag 99 = .ok (.laload, 1) := by decide +kernel
theorem dX12_bag_100 : decode cX12_bag 100 = .ok (.aload_n 0, 1) := by decide +kernel
theorem dX12_bag_101 : decode cX12_bag 101 = .ok (.getfield 48, 3) := by decide +kernel
theorem dX12_bag_104 : decode cX12_bag 104 = .ok (.sipush 160, 3) := by decide +kernel
theorem dX12_bag_107 : decode cX12_bag 107 = .ok (.iload_n 1, 1) := by decide +kernel
theorem dX12_bag_108 : decode cX12_bag 108 = .ok (.imul, 1) := by decide +kernel
theorem dX12_bag_109 : decode cX12_bag 109 = .ok (.iconst 2, 1) := by decide +kernel
theorem dX12_bag_110 : decode cX12_bag 110 = .ok (.iload 6, 2) := by decide +kernel
theorem dX12_bag_112 : decode cX12_bag 112 = .ok (.imul, 1) := by decide +kernel
theorem dX12_bag_113 : decode cX12_bag 113 = .ok (.iadd, 1) := by decide +kernel
theorem dX12_bag_114 : decode cX12_bag 114 = .ok (.iconst 1, 1) := by decide +kernel
theorem dX12_bag_115 : decode cX12_bag 115 = .ok (.iadd, 1) := by decide +kernel
theorem dX12_bag_116 : decode cX12_bag 116 = .ok (.laload, 1) := by decide +kernel
theorem dX12_bag_117 : decode cX12_bag 117 = .ok (.invokevirtual 143, 3) := by decide +kernel
theorem dX12_bag_120 : decode cX12_bag 120 = .ok (.ifCond .ne 10, 3) := by decide +kernel
theorem dX12_bag_123 : decode cX12_bag 123 = .ok (.aload_n 0, 1) := by decide +kernel
theorem dX12_bag_124 : decode cX12_bag 124 = .ok (.bipush (-6), 2) := by decide +kernel
theorem dX12_bag_126 : decode cX12_bag 126 = .ok (.invokevirtual 292, 3) := by decide +kernel
theorem dX12_bag_129 : decode cX12_bag 129 = .ok (.ireturn, 1) := by decide +kernel
theorem dX12_bag_130 : decode cX12_bag 130 = .ok (.iinc 6 1, 3) := by decide +kernel
theorem dX12_bag_133 : decode cX12_bag 133 = .ok (.goto (-55), 3) := by decide +kernel
theorem dX12_bag_136 : decode cX12_bag 136 = .ok (.aload_n 0, 1) := by decide +kernel
theorem dX12_bag_137 : decode cX12_bag 137 = .ok (.iload_n 2, 1) := by decide +kernel
theorem dX12_bag_138 : decode cX12_bag 138 = .ok (.putfield 377, 3) := by decide +kernel
theorem dX12_bag_141 : decode cX12_bag 141 = .ok (.aload_n 0, 1) := by decide +kernel
theorem dX12_bag_142 : decode cX12_bag 142 = .ok (.iload_n 3, 1) := by decide +kernel
theorem dX12_bag_143 : decode cX12_bag 143 = .ok (.putfield 380, 3) := by decide +kernel
theorem dX12_bag_146 : decode cX12_bag 146 = .ok (.iconst 0, 1) := by decide +kernel
theorem dX12_bag_147 : decode cX12_bag 147 = .ok (.istore 6, 2) := by decide +kernel
theorem dX12_bag_149 : decode cX12_bag 149 = .ok (.iload 6, 2) := by decide +kernel
theorem dX12_bag_151 : decode cX12_bag 151 = .ok (.bipush 7, 2) := by decide +kernel
theorem dX12_bag_153 : decode cX12_bag 153 = .ok (.if_icmp .gt 122, 3) := by decide +kernel
theorem dX12_bag_156 : decode cX12_bag 156 = .ok (.iconst 0, 1) := by decide +kernel
theorem dX12_bag_157 : decode cX12_bag 157 = .ok (.istore 7, 2) := by decide +kernel
theorem dX12_bag_159 : decode cX12_bag 159 = .ok (.iload 7, 2) := by decide +kernel
theorem dX12_bag_161 : decode cX12_bag 161 = .ok (.iload_n 2, 1) := by decide +kernel
theorem dX12_bag_162 : decode cX12_bag 162 = .ok (.if_icmp .ge 55, 3) := by decide +kernel
theorem dX12_bag_165 : decode cX12_bag 165 = .ok (.aload_n 0, 1) := by decide +kernel
theorem dX12_bag_166 : decode cX12_bag 166 = .ok (.getfield 91, 3) := by decide +kernel
theorem dX12_bag_169 : decode cX12_bag 169 = .ok (.iload 7, 2) := by decide +kernel
theorem dX12_bag_171 : decode cX12_bag 171 = .ok (.aload_n 0, 1) := by decide +kernel
theorem dX12_bag_172 : decode cX12_bag 172 = .ok (.getfield 48, 3) := by decide +kernel
theorem dX12_bag_175 : decode cX12_bag 175 = .ok (.sipush 160, 3) := by decide +kernel
theorem dX12_bag_178 : decode cX12_bag 178 = .ok (.iload_n 1, 1) := by decide +kernel
theorem dX12_bag_179 : decode cX12_bag 179 = .ok (.imul, 1) := by decide +kernel
theorem dX12_bag_180 : decode cX12_bag 180 = .ok (.iconst 2, 1) := by decide +kernel
theorem dX12_bag_181 : decode cX12_bag 181 = .ok (.iload 7, 2) := by decide +kernel
theorem dX12_bag_183 : decode cX12_bag 183 = .ok (.imul, 1) := by decide +kernel
theorem dX12_bag_184 : decode cX12_bag 184 = .ok (.iadd, 1) := by decide +kernel
theorem dX12_bag_185 : decode cX12_bag 185 = .ok (.laload, 1) := by decide +kernel
theorem dX12_bag_186 : decode cX12_bag 186 = .ok (.lastore, 1) := by decide +kernel
theorem dX12_bag_187 : decode cX12_bag 187 = .ok (.aload_n 0, 1) := by decide +kernel
theorem dX12_bag_188 : decode cX12_bag 188 = .ok (.getfield 94, 3) := by decide +kernel
theorem dX12_bag_191 : decode cX12_bag 191 = .ok (.iload 7, 2) := by decide +kernel
theorem dX12_bag_193 : decode cX12_bag 193 = .ok (.aload_n 0, 1) := by decide +kernel
theorem dX12_bag_194 : decode cX12_bag 194 = .ok (.getfield 48, 3) := by decide +kernel
theorem dX12_bag_197 : decode cX12_bag 197 = .ok (.sipush 160, 3) := by decide +kernel
theorem dX12_bag_200 : decode cX12_bag 200 = .ok (.iload_n 1, 1) := by decide +kernel
theorem dX12_bag_201 : decode cX12_bag 201 = .ok (.imul, 1) := by decide +kernel
theorem dX12_bag_202 : decode cX12_bag 202 = .ok (.iconst 2, 1) := by decide +kernel
theorem dX12_bag_203 : decode cX12_bag 203 = .ok (.iload 7, 2) := by decide +kernel
theorem dX12_bag_205 : decode cX12_bag 205 = .ok (.imul, 1) := by decide +kernel
theorem dX12_bag_206 : decode cX12_bag 206 = .ok (.iadd, 1) := by decide +kernel
theorem dX12_bag_207 : decode cX12_bag 207 = .ok (.iconst 1, 1) := by decide +kernel
theorem dX12_bag_208 : decode cX12_bag 208 = .ok (.iadd, 1) := by decide +kernel
theorem dX12_bag_209 : decode cX12_bag 209 = .ok (.laload, 1) := by decide +kernel
theorem dX12_bag_210 : decode cX12_bag 210 = .ok (.lastore, 1) := by decide +kernel
theorem dX12_bag_211 : decode cX12_bag 211 = .ok (.iinc 7 1, 3) := by decide +kernel
theorem dX12_bag_214 : decode cX12_bag 214 = .ok (.goto (-55), 3) := by decide +kernel
theorem dX12_bag_217 : decode cX12_bag 217 = .ok (.aload_n 0, 1) := by decide +kernel
theorem dX12_bag_218 : decode cX12_bag 218 = .ok (.iconst 0, 1) := by decide +kernel
theorem dX12_bag_219 : decode cX12_bag 219 = .ok (.iload 6, 2) := by decide +kernel
theorem dX12_bag_221 : decode cX12_bag 221 = .ok (.invokevirtual 383, 3) := by decide +kernel
theorem dX12_bag_224 : decode cX12_bag 224 = .ok (.ifCond .ne 6, 3) := by decide +kernel
theorem dX12_bag_227 : decode cX12_bag 227 = .ok (.goto 42, 3) := by decide +kernel
theorem dX12_bag_230 : decode cX12_bag 230 = .ok (.iload 4, 2) := by decide +kernel
theorem dX12_bag_232 : decode cX12_bag 232 = .ok (.iconst (-1), 1) := by decide +kernel
theorem dX12_bag_233 : decode cX12_bag 233 = .ok (.if_icmp .lt 10, 3) := by decide +kernel
theorem dX12_bag_236 : decode cX12_bag 236 = .ok (.iload 4, 2) := by decide +kernel
theorem dX12_bag_238 : decode cX12_bag 238 = .ok (.iload 6, 2) := by decide +kernel
theorem dX12_bag_240 : decode cX12_bag 240 = .ok (.if_icmp .lt 10, 3) := by decide +kernel
theorem dX12_bag_243 : decode cX12_bag 243 = .ok (.aload_n 0, 1) := by decide +kernel
theorem dX12_bag_244 : decode cX12_bag 244 = .ok (.bipush (-5), 2) := by decide +kernel
theorem dX12_bag_246 : decode cX12_bag 246 = .ok (.invokevirtual 292, 3) := by decide +kernel
theorem dX12_bag_249 : decode cX12_bag 249 = .ok (.ireturn, 1) := by decide +kernel
theorem dX12_bag_250 : decode cX12_bag 250 = .ok (.iload 4, 2) := by decide +kernel
theorem dX12_bag_252 : decode cX12_bag 252 = .ok (.iconst (-1), 1) := by decide +kernel
theorem dX12_bag_253 : decode cX12_bag 253 = .ok (.if_icmp .ne 8, 3) := by decide +kernel
theorem dX12_bag_256 : decode cX12_bag 256 = .ok (.iload 6, 2) := by decide +kernel
theorem dX12_bag_258 : decode cX12_bag 258 = .ok (.goto 10, 3) := by decide +kernel
theorem dX12_bag_261 : decode cX12_bag 261 = .ok (.aload_n 0, 1) := by decide +kernel
theorem dX12_bag_262 : decode cX12_bag 262 = .ok (.getfield 79, 3) := by decide +kernel
theorem dX12_bag_265 : decode cX12_bag 265 = .ok (.iload 4, 2) := by decide +kernel
theorem dX12_bag_267 : decode cX12_bag 267 = .ok (.iaload, 1) := by decide +kernel
theorem dX12_bag_268 : decode cX12_bag 268 = .ok (.ireturn, 1) := by decide +kernel
theorem dX12_bag_269 : decode cX12_bag 269 = .ok (.iinc 6 1, 3) := by decide +kernel
theorem dX12_bag_272 : decode cX12_bag 272 = .ok (.goto (-123), 3) := by decide +kernel
theorem dX12_bag_275 : decode cX12_bag 275 = .ok (.aload_n 0, 1) := by decide +kernel
theorem dX12_bag_276 : decode cX12_bag 276 = .ok (.bipush (-5), 2) := by decide +kernel
theorem dX12_bag_278 : decode cX12_bag 278 = .ok (.invokevirtual 292, 3) := by decide +kernel
theorem dX12_bag_281 : decode cX12_bag 281 = .ok (.ireturn, 1) := by decide +kernel
theorem dX12_stepped_0 : decode cX12_stepped 0 = .ok (.aload_n 0, 1) := by decide +kernel
theorem dX12_stepped_1 : decode cX12_stepped 1 = .ok (.invokevirtual 230, 3) := by decide +kernel
theorem dX12_stepped_4 : decode cX12_stepped 4 = .ok (.aload_n 0, 1) := by decide +kernel
theorem dX12_stepped_5 : decode cX12_stepped 5 = .ok (.iload_n 1, 1) := by decide +kernel
theorem dX12_stepped_6 : decode cX12_stepped 6 = .ok (.invokevirtual 286, 3) := by decide +kernel
theorem dX12_stepped_9 : decode cX12_stepped 9 = .ok (.aload_n 0, 1) := by decide +kernel
theorem dX12_stepped_10 : decode cX12_stepped 10 = .ok (.invokevirtual 236, 3) := by decide +kernel
theorem dX12_stepped_13 : decode cX12_stepped 13 = .ok (.ifCond .ne 5, 3) := by decide +kernel
theorem dX12_stepped_16 : decode cX12_stepped 16 = .ok (.iconst 0, 1) := by decide +kernel
theorem dX12_stepped_17 : decode cX12_stepped 17 = .ok (.ireturn, 1) := by decide +kernel
theorem dX12_stepped_18 : decode cX12_stepped 18 = .ok (.aload_n 0, 1) := by decide +kernel
theorem dX12_stepped_19 : decode cX12_stepped 19 = .ok (.invokevirtual 239, 3) := by decide +kernel
theorem dX12_stepped_22 : decode cX12_stepped 22 = .ok (.aload_n 0, 1) := by decide +kernel
theorem dX12_stepped_23 : decode cX12_stepped 23 = .ok (.dup, 1) := by decide +kernel
theorem dX12_stepped_24 : decode cX12_stepped 24 = .ok (.getfield 213, 3) := by decide +kernel
theorem dX12_stepped_27 : decode cX12_stepped 27 = .ok (.iconst 1, 1) := by decide +kernel
theorem dX12_stepped_28 : decode cX12_stepped 28 = .ok (.iadd, 1) := by decide +kernel
theorem dX12_stepped_29 : decode cX12_stepped 29 = .ok (.putfield 213, 3) := by decide +kernel
theorem dX12_stepped_32 : decode cX12_stepped 32 = .ok (.aload_n 0, 1) := by decide +kernel
theorem dX12_stepped_33 : decode cX12_stepped 33 = .ok (.dup, 1) := by decide +kernel
theorem dX12_stepped_34 : decode cX12_stepped 34 = .ok (.getfield 216, 3) := by decide +kernel
theorem dX12_stepped_37 : decode cX12_stepped 37 = .ok (.iconst 1, 1) := by decide +kernel
theorem dX12_stepped_38 : decode cX12_stepped 38 = .ok (.iadd, 1) := by decide +kernel
theorem dX12_stepped_39 : decode cX12_stepped 39 = .ok (.putfield 216, 3) := by decide +kernel
theorem dX12_stepped_42 : decode cX12_stepped 42 = .ok (.iconst 1, 1) := by decide +kernel
theorem dX12_stepped_43 : decode cX12_stepped 43 = .ok (.ireturn, 1) := by decide +kernel
theorem dX12_frees_0 : decode cX12_frees 0 = .ok (.iload_n 1, 1) := by decide +kernel
theorem dX12_frees_1 : decode cX12_frees 1 = .ok (.ifCond .lt 9, 3) := by decide +kernel
theorem dX12_frees_4 : decode cX12_frees 4 = .ok (.iload_n 1, 1) := by decide +kernel
theorem dX12_frees_5 : decode cX12_frees 5 = .ok (.bipush 40, 2) := by decide +kernel
theorem dX12_frees_7 : decode cX12_frees 7 = .ok (.if_icmp .le 10, 3) := by decide +kernel
theorem dX12_frees_10 : decode cX12_frees 10 = .ok (.aload_n 0, 1) := by decide +kernel
theorem dX12_frees_11 : decode cX12_frees 11 = .ok (.bipush (-6), 2) := by decide +kernel
theorem dX12_frees_13 : decode cX12_frees 13 = .ok (.invokevirtual 115, 3) := by decide +kernel
theorem dX12_frees_16 : decode cX12_frees 16 = .ok (.ireturn, 1) := by decide +kernel
theorem dX12_frees_17 : decode cX12_frees 17 = .ok (.iconst 0, 1) := by decide +kernel
theorem dX12_frees_18 : decode cX12_frees 18 = .ok (.istore_n 2, 1) := by decide +kernel
theorem dX12_frees_19 : decode cX12_frees 19 = .ok (.iload_n 2, 1) := by decide +kernel
theorem dX12_frees_20 : decode cX12_frees 20 = .ok (.iload_n 1, 1) := by decide +kernel
theorem dX12_frees_21 : decode cX12_frees 21 = .ok (.if_icmp .ge 37, 3) := by decide +kernel
theorem dX12_frees_24 : decode cX12_frees 24 = .ok (.aload_n 0, 1) := by decide +kernel
theorem dX12_frees_25 : decode cX12_frees 25 = .ok (.getfield 147, 3) := by decide +kernel
theorem dX12_frees_28 : decode cX12_frees 28 = .ok (.lconst 0, 1) := by decide +kernel
theorem dX12_frees_29 : decode cX12_frees 29 = .ok (.lcmp, 1) := by decide +kernel
theorem dX12_frees_30 : decode cX12_frees 30 = .ok (.ifCond .eq 28, 3) := by decide +kernel
theorem dX12_frees_33 : decode cX12_frees 33 = .ok (.aload_n 0, 1) := by decide +kernel
theorem dX12_frees_34 : decode cX12_frees 34 = .ok (.aload_n 0, 1) := by decide +kernel
theorem dX12_frees_35 : decode cX12_frees 35 = .ok (.getfield 147, 3) := by decide +kernel
theorem dX12_frees_38 : decode cX12_frees 38 = .ok (.lconst 0, 1) := by decide +kernel
theorem dX12_frees_39 : decode cX12_frees 39 = .ok (.lcmp, 1) := by decide +kernel
theorem dX12_frees_40 : decode cX12_frees 40 = .ok (.ifCond .ge 7, 3) := by decide +kernel
theorem dX12_frees_43 : decode cX12_frees 43 = .ok (.iconst 0, 1) := by decide +kernel
theorem dX12_frees_44 : decode cX12_frees 44 = .ok (.goto 4, 3) := by decide +kernel
theorem dX12_frees_47 : decode cX12_frees 47 = .ok (.iconst 2, 1) := by decide +kernel
theorem dX12_frees_48 : decode cX12_frees 48 = .ok (.invokevirtual 386, 3) := by decide +kernel
theorem dX12_frees_51 : decode cX12_frees 51 = .ok (.pop, 1) := by decide +kernel
theorem dX12_frees_52 : decode cX12_frees 52 = .ok (.iinc 2 1, 3) := by decide +kernel
theorem dX12_frees_55 : decode cX12_frees 55 = .ok (.goto (-36), 3) := by decide +kernel
theorem dX12_frees_58 : decode cX12_frees 58 = .ok (.iload_n 2, 1) := by decide +kernel
theorem dX12_frees_59 : decode cX12_frees 59 = .ok (.ireturn, 1) := by decide +kernel
theorem dX12_draw_0 : decode cX12_draw 0 = .ok (.aload_n 0, 1) := by decide +kernel
theorem dX12_draw_1 : decode cX12_draw 1 = .ok (.aload_n 0, 1) := by decide +kernel
theorem dX12_draw_2 : decode cX12_draw 2 = .ok (.getfield 7, 3) := by decide +kernel
theorem dX12_draw_5 : decode cX12_draw 5 = .ok (.ldc_w 389, 3) := by decide +kernel
theorem dX12_draw_8 : decode cX12_draw 8 = .ok (.imul, 1) := by decide +kernel
theorem dX12_draw_9 : decode cX12_draw 9 = .ok (.sipush 12345, 3) := by decide +kernel
theorem dX12_draw_12 : decode cX12_draw 12 = .ok (.iadd, 1) := by decide +kernel
theorem dX12_draw_13 : decode cX12_draw 13 = .ok (.putfield 7, 3) := by decide +kernel
theorem dX12_draw_16 : decode cX12_draw 16 = .ok (.aload_n 0, 1) := by decide +kernel
theorem dX12_draw_17 : decode cX12_draw 17 = .ok (.getfield 7, 3) := by decide +kernel
theorem dX12_draw_20 : decode cX12_draw 20 = .ok (.bipush 16, 2) := by decide +kernel
theorem dX12_draw_22 : decode cX12_draw 22 = .ok (.iushr, 1) := by decide +kernel
theorem dX12_draw_23 : decode cX12_draw 23 = .ok (.iload_n 1, 1) := by decide +kernel
theorem dX12_draw_24 : decode cX12_draw 24 = .ok (.irem, 1) := by decide +kernel
theorem dX12_draw_25 : decode cX12_draw 25 = .ok (.ireturn, 1) := by decide +kernel
theorem dX12_draws_0 : decode cX12_draws 0 = .ok (.iload_n 1, 1) := by decide +kernel
theorem dX12_draws_1 : decode cX12_draws 1 = .ok (.iconst 1, 1) := by decide +kernel
theorem dX12_draws_2 : decode cX12_draws 2 = .ok (.if_icmp .lt 9, 3) := by decide +kernel
theorem dX12_draws_5 : decode cX12_draws 5 = .ok (.iload_n 1, 1) := by decide +kernel
theorem dX12_draws_6 : decode cX12_draws 6 = .ok (.bipush 40, 2) := by decide +kernel
theorem dX12_draws_8 : decode cX12_draws 8 = .ok (.if_icmp .le 10, 3) := by decide +kernel
theorem dX12_draws_11 : decode cX12_draws 11 = .ok (.aload_n 0, 1) := by decide +kernel
theorem dX12_draws_12 : decode cX12_draws 12 = .ok (.bipush (-6), 2) := by decide +kernel
theorem dX12_draws_14 : decode cX12_draws 14 = .ok (.invokevirtual 115, 3) := by decide +kernel
theorem dX12_draws_17 : decode cX12_draws 17 = .ok (.ireturn, 1) := by decide +kernel
theorem dX12_draws_18 : decode cX12_draws 18 = .ok (.iconst 0, 1) := by decide +kernel
theorem dX12_draws_19 : decode cX12_draws 19 = .ok (.istore_n 2, 1) := by decide +kernel
theorem dX12_draws_20 : decode cX12_draws 20 = .ok (.iload_n 2, 1) := by decide +kernel
theorem dX12_draws_21 : decode cX12_draws 21 = .ok (.iload_n 1, 1) := by decide +kernel
theorem dX12_draws_22 : decode cX12_draws 22 = .ok (.if_icmp .ge 21, 3) := by decide +kernel
theorem dX12_draws_25 : decode cX12_draws 25 = .ok (.aload_n 0, 1) := by decide +kernel
theorem dX12_draws_26 : decode cX12_draws 26 = .ok (.aload_n 0, 1) := by decide +kernel
theorem dX12_draws_27 : decode cX12_draws 27 = .ok (.iconst 3, 1) := by decide +kernel
theorem dX12_draws_28 : decode cX12_draws 28 = .ok (.invokevirtual 390, 3) := by decide +kernel
theorem dX12_draws_31 : decode cX12_draws 31 = .ok (.invokevirtual 386, 3) := by decide +kernel
theorem dX12_draws_34 : decode cX12_draws 34 = .ok (.ifCond .eq 9, 3) := by decide +kernel
theorem dX12_draws_37 : decode cX12_draws 37 = .ok (.iinc 2 1, 3) := by decide +kernel
theorem dX12_draws_40 : decode cX12_draws 40 = .ok (.goto (-20), 3) := by decide +kernel
theorem dX12_draws_43 : decode cX12_draws 43 = .ok (.iload_n 2, 1) := by decide +kernel
theorem dX12_draws_44 : decode cX12_draws 44 = .ok (.ireturn, 1) := by decide +kernel
theorem dX12_seed_0 : decode cX12_seed 0 = .ok (.aload_n 0, 1) := by decide +kernel
theorem dX12_seed_1 : decode cX12_seed 1 = .ok (.getfield 7, 3) := by decide +kernel
theorem dX12_seed_4 : decode cX12_seed 4 = .ok (.istore_n 2, 1) := by decide +kernel
theorem dX12_seed_5 : decode cX12_seed 5 = .ok (.aload_n 0, 1) := by decide +kernel
theorem dX12_seed_6 : decode cX12_seed 6 = .ok (.iload_n 1, 1) := by decide +kernel
theorem dX12_seed_7 : decode cX12_seed 7 = .ok (.putfield 7, 3) := by decide +kernel
theorem dX12_seed_10 : decode cX12_seed 10 = .ok (.iload_n 2, 1) := by decide +kernel
theorem dX12_seed_11 : decode cX12_seed 11 = .ok (.ireturn, 1) := by decide +kernel
theorem dX12_body_0 : decode cX12_body 0 = .ok (.aload_n 0, 1) := by decide +kernel
theorem dX12_body_1 : decode cX12_body 1 = .ok (.getfield 393, 3) := by decide +kernel
theorem dX12_body_4 : decode cX12_body 4 = .ok (.bipush 20, 2) := by decide +kernel
theorem dX12_body_6 : decode cX12_body 6 = .ok (.if_icmp .ge 13, 3) := by decide +kernel
theorem dX12_body_9 : decode cX12_body 9 = .ok (.aload_n 0, 1) := by decide +kernel
theorem dX12_body_10 : decode cX12_body 10 = .ok (.getfield 103, 3) := by decide +kernel
theorem dX12_body_13 : decode cX12_body 13 = .ok (.aload_n 0, 1) := by decide +kernel
theorem dX12_body_14 : decode cX12_body 14 = .ok (.getfield 393, 3) := by decide +kernel
theorem dX12_body_17 : decode cX12_body 17 = .ok (.iload_n 1, 1) := by decide +kernel
theorem dX12_body_18 : decode cX12_body 18 = .ok (.iastore, 1) := by decide +kernel
theorem dX12_body_19 : decode cX12_body 19 = .ok (.aload_n 0, 1) := by decide +kernel
theorem dX12_body_20 : decode cX12_body 20 = .ok (.dup, 1) := by decide +kernel
theorem dX12_body_21 : decode cX12_body 21 = .ok (.getfield 393, 3) := by decide +kernel
theorem dX12_body_24 : decode cX12_body 24 = .ok (.iconst 1, 1) := by decide +kernel
theorem dX12_body_25 : decode cX12_body 25 = .ok (.iadd, 1) := by decide +kernel
theorem dX12_body_26 : decode cX12_body 26 = .ok (.putfield 393, 3) := by decide +kernel
theorem dX12_body_29 : decode cX12_body 29 = .ok (.return_, 1) := by decide +kernel
theorem dX12_calling_0 : decode cX12_calling 0 = .ok (.aload_n 0, 1) := by decide +kernel
theorem dX12_calling_1 : decode cX12_calling 1 = .ok (.getfield 24, 3) := by decide +kernel
theorem dX12_calling_4 : decode cX12_calling 4 = .ok (.iload_n 1, 1) := by decide +kernel
theorem dX12_calling_5 : decode cX12_calling 5 = .ok (.iaload, 1) := by decide +kernel
theorem dX12_calling_6 : decode cX12_calling 6 = .ok (.istore_n 3, 1) := by decide +kernel
theorem dX12_calling_7 : decode cX12_calling 7 = .ok (.iload_n 3, 1) := by decide +kernel
theorem dX12_calling_8 : decode cX12_calling 8 = .ok (.iconst 5, 1) := by decide +kernel
theorem dX12_calling_9 : decode cX12_calling 9 = .ok (.if_icmp .ne 9, 3) := by decide +kernel
theorem dX12_calling_12 : decode cX12_calling 12 = .ok (.aload_n 0, 1) := by decide +kernel
theorem dX12_calling_13 : decode cX12_calling 13 = .ok (.bipush 60, 2) := by decide +kernel
theorem dX12_calling_15 : decode cX12_calling 15 = .ok (.invokevirtual 396, 3) := by decide +kernel
theorem dX12_calling_18 : decode cX12_calling 18 = .ok (.aload_n 0, 1) := by decide +kernel
theorem dX12_calling_19 : decode cX12_calling 19 = .ok (.iload_n 3, 1) := by decide +kernel
theorem dX12_calling_20 : decode cX12_calling 20 = .ok (.invokevirtual 122, 3) := by decide +kernel
theorem dX12_calling_23 : decode cX12_calling 23 = .ok (.ifCond .eq 9, 3) := by decide +kernel
theorem dX12_calling_26 : decode cX12_calling 26 = .ok (.aload_n 0, 1) := by decide +kernel
theorem dX12_calling_27 : decode cX12_calling 27 = .ok (.bipush 20, 2) := by decide +kernel
theorem dX12_calling_29 : decode cX12_calling 29 = .ok (.invokevirtual 396, 3) := by decide +kernel
theorem dX12_calling_32 : decode cX12_calling 32 = .ok (.aload_n 0, 1) := by decide +kernel
theorem dX12_calling_33 : decode cX12_calling 33 = .ok (.bipush 10, 2) := by decide +kernel
theorem dX12_calling_35 : decode cX12_calling 35 = .ok (.invokevirtual 396, 3) := by decide +kernel
theorem dX12_calling_38 : decode cX12_calling 38 = .ok (.iload_n 2, 1) := by decide +kernel
theorem dX12_calling_39 : decode cX12_calling 39 = .ok (.iload_n 1, 1) := by decide +kernel
theorem dX12_calling_40 : decode cX12_calling 40 = .ok (.iadd, 1) := by decide +kernel
theorem dX12_calling_41 : decode cX12_calling 41 = .ok (.istore 4, 2) := by decide +kernel
theorem dX12_calling_43 : decode cX12_calling 43 = .ok (.aload_n 0, 1) := by decide +kernel
theorem dX12_calling_44 : decode cX12_calling 44 = .ok (.iload_n 3, 1) := by decide +kernel
theorem dX12_calling_45 : decode cX12_calling 45 = .ok (.invokevirtual 122, 3) := by decide +kernel
theorem dX12_calling_48 : decode cX12_calling 48 = .ok (.ifCond .eq 15, 3) := by decide +kernel
theorem dX12_calling_51 : decode cX12_calling 51 = .ok (.iload 4, 2) := by decide +kernel
theorem dX12_calling_53 : decode cX12_calling 53 = .ok (.aload_n 0, 1) := by decide +kernel
theorem dX12_calling_54 : decode cX12_calling 54 = .ok (.getfield 27, 3) := by decide +kernel
theorem dX12_calling_57 : decode cX12_calling 57 = .ok (.iload_n 1, 1) := by decide +kernel
theorem dX12_calling_58 : decode cX12_calling 58 = .ok (.iaload, 1) := by decide +kernel
theorem dX12_calling_59 : decode cX12_calling 59 = .ok (.iadd, 1) := by decide +kernel
theorem dX12_calling_60 : decode cX12_calling 60 = .ok (.goto 17, 3) := by decide +kernel
theorem dX12_calling_63 : decode cX12_calling 63 = .ok (.iload_n 3, 1) := by decide +kernel
theorem dX12_calling_64 : decode cX12_calling 64 = .ok (.iconst 5, 1) := by decide +kernel
theorem dX12_calling_65 : decode cX12_calling 65 = .ok (.if_icmp .ne 10, 3) := by decide +kernel
theorem dX12_calling_68 : decode cX12_calling 68 = .ok (.iload 4, 2) := by decide +kernel
theorem dX12_calling_70 : decode cX12_calling 70 = .ok (.iconst 2, 1) := by decide +kernel
theorem dX12_calling_71 : decode cX12_calling 71 = .ok (.imul, 1) := by decide +kernel
theorem dX12_calling_72 : decode cX12_calling 72 = .ok (.goto 5, 3) := by decide +kernel
theorem dX12_calling_75 : decode cX12_calling 75 = .ok (.iload 4, 2) := by decide +kernel
theorem dX12_calling_77 : decode cX12_calling 77 = .ok (.ireturn, 1) := by decide +kernel
theorem dX12_stepping_0 : decode cX12_stepping 0 = .ok (.aload_n 0, 1) := by decide +kernel
theorem dX12_stepping_1 : decode cX12_stepping 1 = .ok (.getfield 24, 3) := by decide +kernel
theorem dX12_stepping_4 : decode cX12_stepping 4 = .ok (.iload_n 1, 1) := by decide +kernel
theorem dX12_stepping_5 : decode cX12_stepping 5 = .ok (.iaload, 1) := by decide +kernel
theorem dX12_stepping_6 : decode cX12_stepping 6 = .ok (.istore_n 3, 1) := by decide +kernel
theorem dX12_stepping_7 : decode cX12_stepping 7 = .ok (.iload_n 2, 1) := by decide +kernel
theorem dX12_stepping_8 : decode cX12_stepping 8 = .ok (.istore 4, 2) := by decide +kernel
theorem dX12_stepping_10 : decode cX12_stepping 10 = .ok (.iload_n 3, 1) := by decide +kernel
theorem dX12_stepping_11 : decode cX12_stepping 11 = .ok (.iconst 2, 1) := by decide +kernel
theorem dX12_stepping_12 : decode cX12_stepping 12 = .ok (.if_icmp .ne 9, 3) := by decide +kernel
theorem dX12_stepping_15 : decode cX12_stepping 15 = .ok (.aload_n 0, 1) := by decide +kernel
theorem dX12_stepping_16 : decode cX12_stepping 16 = .ok (.bipush 30, 2) := by decide +kernel
theorem dX12_stepping_18 : decode cX12_stepping 18 = .ok (.invokevirtual 396, 3) := by decide +kernel
theorem dX12_stepping_21 : decode cX12_stepping 21 = .ok (.iload_n 3, 1) := by decide +kernel
theorem dX12_stepping_22 : decode cX12_stepping 22 = .ok (.iconst 3, 1) := by decide +kernel
theorem dX12_stepping_23 : decode cX12_stepping 23 = .ok (.if_icmp .ne 14, 3) := by decide +kernel
theorem dX12_stepping_26 : decode cX12_stepping 26 = .ok (.aload_n 0, 1) := by decide +kernel
theorem dX12_stepping_27 : decode cX12_stepping 27 = .ok (.bipush 40, 2) := by decide +kernel
theorem dX12_stepping_29 : decode cX12_stepping 29 = .ok (.invokevirtual 396, 3) := by decide +kernel
theorem dX12_stepping_32 : decode cX12_stepping 32 = .ok (.iload_n 2, 1) := by decide +kernel
theorem dX12_stepping_33 : decode cX12_stepping 33 = .ok (.iconst 1, 1) := by decide +kernel
theorem dX12_stepping_34 : decode cX12_stepping 34 = .ok (.iadd, 1) := by decide +kernel
theorem dX12_stepping_35 : decode cX12_stepping 35 = .ok (.istore 4, 2) := by decide +kernel
theorem dX12_stepping_37 : decode cX12_stepping 37 = .ok (.iload_n 3, 1) := by decide +kernel
theorem dX12_stepping_38 : decode cX12_stepping 38 = .ok (.bipush 6, 2) := by decide +kernel
theorem dX12_stepping_40 : decode cX12_stepping 40 = .ok (.if_icmp .ne 19, 3) := by decide +kernel
theorem dX12_stepping_43 : decode cX12_stepping 43 = .ok (.aload_n 0, 1) := by decide +kernel
theorem dX12_stepping_44 : decode cX12_stepping 44 = .ok (.bipush 71, 2) := by decide +kernel
theorem dX12_stepping_46 : decode cX12_stepping 46 = .ok (.invokevirtual 396, 3) := by decide +kernel
theorem dX12_stepping_49 : decode cX12_stepping 49 = .ok (.iload_n 2, 1) := by decide +kernel
theorem dX12_stepping_50 : decode cX12_stepping 50 = .ok (.aload_n 0, 1) := by decide +kernel
theorem dX12_stepping_51 : decode cX12_stepping 51 = .ok (.getfield 27, 3) := by decide +kernel
theorem dX12_stepping_54 : decode cX12_stepping 54 = .ok (.iload_n 1, 1) := by decide +kernel
theorem dX12_stepping_55 : decode cX12_stepping 55 = .ok (.iaload, 1) := by decide +kernel
theorem dX12_stepping_56 : decode cX12_stepping 56 = .ok (.isub, 1) := by decide +kernel
theorem dX12_stepping_57 : decode cX12_stepping 57 = .ok (.istore 4, 2) := by decide +kernel
theorem dX12_stepping_59 : decode cX12_stepping 59 = .ok (.aload_n 0, 1) := by decide +kernel
theorem dX12_stepping_60 : decode cX12_stepping 60 = .ok (.bipush 11, 2) := by decide +kernel
theorem dX12_stepping_62 : decode cX12_stepping 62 = .ok (.invokevirtual 396, 3) := by decide +kernel
theorem dX12_stepping_65 : decode cX12_stepping 65 = .ok (.aload_n 0, 1) := by decide +kernel
theorem dX12_stepping_66 : decode cX12_stepping 66 = .ok (.iload_n 1, 1) := by decide +kernel
theorem dX12_stepping_67 : decode cX12_stepping 67 = .ok (.iload 4, 2) := by decide +kernel
theorem dX12_stepping_69 : decode cX12_stepping 69 = .ok (.invokevirtual 399, 3) := by decide +kernel
theorem dX12_stepping_72 : decode cX12_stepping 72 = .ok (.iconst 2, 1) := by decide +kernel
theorem dX12_stepping_73 : decode cX12_stepping 73 = .ok (.imul, 1) := by decide +kernel
theorem dX12_stepping_74 : decode cX12_stepping 74 = .ok (.istore 5, 2) := by decide +kernel
theorem dX12_stepping_76 : decode cX12_stepping 76 = .ok (.iload_n 3, 1) := by decide +kernel
theorem dX12_stepping_77 : decode cX12_stepping 77 = .ok (.iconst 2, 1) := by decide +kernel
theorem dX12_stepping_78 : decode cX12_stepping 78 = .ok (.if_icmp .ne 10, 3) := by decide +kernel
theorem dX12_stepping_81 : decode cX12_stepping 81 = .ok (.iload 5, 2) := by decide +kernel
theorem dX12_stepping_83 : decode cX12_stepping 83 = .ok (.iconst 3, 1) := by decide +kernel
theorem dX12_stepping_84 : decode cX12_stepping 84 = .ok (.imul, 1) := by decide +kernel
theorem dX12_stepping_85 : decode cX12_stepping 85 = .ok (.goto 5, 3) := by decide +kernel
theorem dX12_stepping_88 : decode cX12_stepping 88 = .ok (.iload 5, 2) := by decide +kernel
theorem dX12_stepping_90 : decode cX12_stepping 90 = .ok (.ireturn, 1) := by decide +kernel
theorem dX12_knotting_0 : decode cX12_knotting 0 = .ok (.aload_n 0, 1) := by decide +kernel
theorem dX12_knotting_1 : decode cX12_knotting 1 = .ok (.getfield 24, 3) := by decide +kernel
theorem dX12_knotting_4 : decode cX12_knotting 4 = .ok (.iload_n 1, 1) := by decide +kernel
theorem dX12_knotting_5 : decode cX12_knotting 5 = .ok (.iaload, 1) := by decide +kernel
theorem dX12_knotting_6 : decode cX12_knotting 6 = .ok (.istore_n 3, 1) := by decide +kernel
theorem dX12_knotting_7 : decode cX12_knotting 7 = .ok (.iload_n 3, 1) := by decide +kernel
theorem dX12_knotting_8 : decode cX12_knotting 8 = .ok (.iconst 3, 1) := by decide +kernel
theorem dX12_knotting_9 : decode cX12_knotting 9 = .ok (.if_icmp .ne 9, 3) := by decide +kernel
theorem dX12_knotting_12 : decode cX12_knotting 12 = .ok (.aload_n 0, 1) := by decide +kernel
theorem dX12_knotting_13 : decode cX12_knotting 13 = .ok (.bipush 41, 2) := by decide +kernel
theorem dX12_knotting_15 : decode cX12_knotting 15 = .ok (.invokevirtual 396, 3) := by decide +kernel
theorem dX12_knotting_18 : decode cX12_knotting 18 = .ok (.iload_n 3, 1) := by decide +kernel
theorem dX12_knotting_19 : decode cX12_knotting 19 = .ok (.bipush 6, 2) := by decide +kernel
theorem dX12_knotting_21 : decode cX12_knotting 21 = .ok (.if_icmp .ne 9, 3) := by decide +kernel
theorem dX12_knotting_24 : decode cX12_knotting 24 = .ok (.aload_n 0, 1) := by decide +kernel
theorem dX12_knotting_25 : decode cX12_knotting 25 = .ok (.bipush 70, 2) := by decide +kernel
theorem dX12_knotting_27 : decode cX12_knotting 27 = .ok (.invokevirtual 396, 3) := by decide +kernel
theorem dX12_knotting_30 : decode cX12_knotting 30 = .ok (.aload_n 0, 1) := by decide +kernel
theorem dX12_knotting_31 : decode cX12_knotting 31 = .ok (.iload_n 3, 1) := by decide +kernel
theorem dX12_knotting_32 : decode cX12_knotting 32 = .ok (.invokevirtual 125, 3) := by decide +kernel
theorem dX12_knotting_35 : decode cX12_knotting 35 = .ok (.ifCond .eq 9, 3) := by decide +kernel
theorem dX12_knotting_38 : decode cX12_knotting 38 = .ok (.aload_n 0, 1) := by decide +kernel
theorem dX12_knotting_39 : decode cX12_knotting 39 = .ok (.bipush 50, 2) := by decide +kernel
theorem dX12_knotting_41 : decode cX12_knotting 41 = .ok (.invokevirtual 396, 3) := by decide +kernel
theorem dX12_knotting_44 : decode cX12_knotting 44 = .ok (.aload_n 0, 1) := by decide +kernel
theorem dX12_knotting_45 : decode cX12_knotting 45 = .ok (.bipush 12, 2) := by decide +kernel
theorem dX12_knotting_47 : decode cX12_knotting 47 = .ok (.invokevirtual 396, 3) := by decide +kernel
theorem dX12_knotting_50 : decode cX12_knotting 50 = .ok (.aload_n 0, 1) := by decide +kernel
theorem dX12_knotting_51 : decode cX12_knotting 51 = .ok (.iload_n 1, 1) := by decide +kernel
theorem dX12_knotting_52 : decode cX12_knotting 52 = .ok (.iload_n 2, 1) := by decide +kernel
theorem dX12_knotting_53 : decode cX12_knotting 53 = .ok (.invokevirtual 402, 3) := by decide +kernel
theorem dX12_knotting_56 : decode cX12_knotting 56 = .ok (.istore 4, 2) := by decide +kernel
theorem dX12_knotting_58 : decode cX12_knotting 58 = .ok (.iload 4, 2) := by decide +kernel
theorem dX12_knotting_60 : decode cX12_knotting 60 = .ok (.aload_n 0, 1) := by decide +kernel
theorem dX12_knotting_61 : decode cX12_knotting 61 = .ok (.iload_n 1, 1) := by decide +kernel
theorem dX12_knotting_62 : decode cX12_knotting 62 = .ok (.iload_n 2, 1) := by decide +kernel
theorem dX12_knotting_63 : decode cX12_knotting 63 = .ok (.aload_n 0, 1) := by decide +kernel
theorem dX12_knotting_64 : decode cX12_knotting 64 = .ok (.getfield 27, 3) := by decide +kernel
theorem dX12_knotting_67 : decode cX12_knotting 67 = .ok (.iload_n 1, 1) := by decide +kernel
theorem dX12_knotting_68 : decode cX12_knotting 68 = .ok (.iaload, 1) := by decide +kernel
theorem dX12_knotting_69 : decode cX12_knotting 69 = .ok (.isub, 1) := by decide +kernel
theorem dX12_knotting_70 : decode cX12_knotting 70 = .ok (.invokevirtual 399, 3) := by decide +kernel
theorem dX12_knotting_73 : decode cX12_knotting 73 = .ok (.ixor, 1) := by decide +kernel
theorem dX12_knotting_74 : decode cX12_knotting 74 = .ok (.istore 4, 2) := by decide +kernel
theorem dX12_knotting_76 : decode cX12_knotting 76 = .ok (.aload_n 0, 1) := by decide +kernel
theorem dX12_knotting_77 : decode cX12_knotting 77 = .ok (.iload_n 3, 1) := by decide +kernel
theorem dX12_knotting_78 : decode cX12_knotting 78 = .ok (.invokevirtual 125, 3) := by decide +kernel
theorem dX12_knotting_81 : decode cX12_knotting 81 = .ok (.ifCond .eq 8, 3) := by decide +kernel
theorem dX12_knotting_84 : decode cX12_knotting 84 = .ok (.iload 4, 2) := by decide +kernel
theorem dX12_knotting_86 : decode cX12_knotting 86 = .ok (.ineg, 1) := by decide +kernel
theorem dX12_knotting_87 : decode cX12_knotting 87 = .ok (.istore 4, 2) := by decide +kernel
theorem dX12_knotting_89 : decode cX12_knotting 89 = .ok (.iload_n 3, 1) := by decide +kernel
theorem dX12_knotting_90 : decode cX12_knotting 90 = .ok (.iconst 3, 1) := by decide +kernel
theorem dX12_knotting_91 : decode cX12_knotting 91 = .ok (.if_icmp .ne 10, 3) := by decide +kernel
theorem dX12_knotting_94 : decode cX12_knotting 94 = .ok (.iload 4, 2) := by decide +kernel
theorem dX12_knotting_96 : decode cX12_knotting 96 = .ok (.iload_n 1, 1) := by decide +kernel
theorem dX12_knotting_97 : decode cX12_knotting 97 = .ok (.isub, 1) := by decide +kernel
theorem dX12_knotting_98 : decode cX12_knotting 98 = .ok (.goto 18, 3) := by decide +kernel
theorem dX12_knotting_101 : decode cX12_knotting 101 = .ok (.iload_n 3, 1) := by decide +kernel
theorem dX12_knotting_102 : decode cX12_knotting 102 = .ok (.bipush 6, 2) := by decide +kernel
theorem dX12_knotting_104 : decode cX12_knotting 104 = .ok (.if_icmp .ne 10, 3) := by decide +kernel
theorem dX12_knotting_107 : decode cX12_knotting 107 = .ok (.iload 4, 2) := by decide +kernel
theorem dX12_knotting_109 : decode cX12_knotting 109 = .ok (.iconst 5, 1) := by decide +kernel
theorem dX12_knotting_110 : decode cX12_knotting 110 = .ok (.ixor, 1) := by decide +kernel
theorem dX12_knotting_111 : decode cX12_knotting 111 = .ok (.goto 5, 3) := by decide +kernel
theorem dX12_knotting_114 : decode cX12_knotting 114 = .ok (.iload 4, 2) := by decide +kernel
theorem dX12_knotting_116 : decode cX12_knotting 116 = .ok (.ireturn, 1) := by decide +kernel
theorem dX12_act_0 : decode cX12_act 0 = .ok (.aload_n 0, 1) := by decide +kernel
theorem dX12_act_1 : decode cX12_act 1 = .ok (.iconst 0, 1) := by decide +kernel
theorem dX12_act_2 : decode cX12_act 2 = .ok (.putfield 393, 3) := by decide +kernel
theorem dX12_act_5 : decode cX12_act 5 = .ok (.aload_n 0, 1) := by decide +kernel
theorem dX12_act_6 : decode cX12_act 6 = .ok (.iload_n 1, 1) := by decide +kernel
theorem dX12_act_7 : decode cX12_act 7 = .ok (.invokevirtual 119, 3) := by decide +kernel
theorem dX12_act_10 : decode cX12_act 10 = .ok (.ifCond .eq 12, 3) := by decide +kernel
theorem dX12_act_13 : decode cX12_act 13 = .ok (.iload_n 2, 1) := by decide +kernel
theorem dX12_act_14 : decode cX12_act 14 = .ok (.ifCond .lt 8, 3) := by decide +kernel
theorem dX12_act_17 : decode cX12_act 17 = .ok (.iload_n 2, 1) := by decide +kernel
theorem dX12_act_18 : decode cX12_act 18 = .ok (.iconst 2, 1) := by decide +kernel
theorem dX12_act_19 : decode cX12_act 19 = .ok (.if_icmp .le 5, 3) := by decide +kernel
theorem dX12_act_22 : decode cX12_act 22 = .ok (.iconst 0, 1) := by decide +kernel
theorem dX12_act_23 : decode cX12_act 23 = .ok (.ireturn, 1) := by decide +kernel
theorem dX12_act_24 : decode cX12_act 24 = .ok (.iload_n 2, 1) := by decide +kernel
theorem dX12_act_25 : decode cX12_act 25 = .ok (.ifCond .ne 12, 3) := by decide +kernel
theorem dX12_act_28 : decode cX12_act 28 = .ok (.aload_n 0, 1) := by decide +kernel
theorem dX12_act_29 : decode cX12_act 29 = .ok (.iload_n 1, 1) := by decide +kernel
theorem dX12_act_30 : decode cX12_act 30 = .ok (.iload_n 3, 1) := by decide +kernel
theorem dX12_act_31 : decode cX12_act 31 = .ok (.invokevirtual 399, 3) := by decide +kernel
theorem dX12_act_34 : decode cX12_act 34 = .ok (.goto 23, 3) := by decide +kernel
theorem dX12_act_37 : decode cX12_act 37 = .ok (.iload_n 2, 1) := by decide +kernel
theorem dX12_act_38 : decode cX12_act 38 = .ok (.iconst 1, 1) := by decide +kernel
theorem dX12_act_39 : decode cX12_act 39 = .ok (.if_icmp .ne 12, 3) := by decide +kernel
theorem dX12_act_42 : decode cX12_act 42 = .ok (.aload_n 0, 1) := by decide +kernel
theorem dX12_act_43 : decode cX12_act 43 = .ok (.iload_n 1, 1) := by decide +kernel
theorem dX12_act_44 : decode cX12_act 44 = .ok (.iload_n 3, 1) := by decide +kernel
theorem dX12_act_45 : decode cX12_act 45 = .ok (.invokevirtual 402, 3) := by decide +kernel
theorem dX12_act_48 : decode cX12_act 48 = .ok (.goto 9, 3) := by decide +kernel
theorem dX12_act_51 : decode cX12_act 51 = .ok (.aload_n 0, 1) := by decide +kernel
theorem dX12_act_52 : decode cX12_act 52 = .ok (.iload_n 1, 1) := by decide +kernel
theorem dX12_act_53 : decode cX12_act 53 = .ok (.iload_n 3, 1) := by decide +kernel
theorem dX12_act_54 : decode cX12_act 54 = .ok (.invokevirtual 405, 3) := by decide +kernel
theorem dX12_act_57 : decode cX12_act 57 = .ok (.ireturn, 1) := by decide +kernel
theorem dX12_trace_0 : decode cX12_trace 0 = .ok (.iload_n 1, 1) := by decide +kernel
theorem dX12_trace_1 : decode cX12_trace 1 = .ok (.ifCond .lt 26, 3) := by decide +kernel
theorem dX12_trace_4 : decode cX12_trace 4 = .ok (.iload_n 1, 1) := by decide +kernel
theorem dX12_trace_5 : decode cX12_trace 5 = .ok (.bipush 20, 2) := by decide +kernel
theorem dX12_trace_7 : decode cX12_trace 7 = .ok (.if_icmp .ge 20, 3) := by decide +kernel
theorem dX12_trace_10 : decode cX12_trace 10 = .ok (.iload_n 1, 1) := by decide +kernel
theorem dX12_trace_11 : decode cX12_trace 11 = .ok (.aload_n 0, 1) := by decide +kernel
theorem dX12_trace_12 : decode cX12_trace 12 = .ok (.getfield 393, 3) := by decide +kernel
theorem dX12_trace_15 : decode cX12_trace 15 = .ok (.if_icmp .ge 12, 3) := by decide +kernel
theorem dX12_trace_18 : decode cX12_trace 18 = .ok (.aload_n 0, 1) := by decide +kernel
theorem dX12_trace_19 : decode cX12_trace 19 = .ok (.getfield 103, 3) := by decide +kernel
theorem dX12_trace_22 : decode cX12_trace 22 = .ok (.iload_n 1, 1) := by decide +kernel
theorem dX12_trace_23 : decode cX12_trace 23 = .ok (.iaload, 1) := by decide +kernel
theorem dX12_trace_24 : decode cX12_trace 24 = .ok (.goto 4, 3) := by decide +kernel
theorem dX12_trace_27 : decode cX12_trace 27 = .ok (.iconst (-1), 1) := by decide +kernel
theorem dX12_trace_28 : decode cX12_trace 28 = .ok (.ireturn, 1) := by decide +kernel
theorem dX12_image_0 : decode cX12_image 0 = .ok (.aload_n 0, 1) := by decide +kernel
theorem dX12_image_1 : decode cX12_image 1 = .ok (.iconst 1, 1) := by decide +kernel
theorem dX12_image_2 : decode cX12_image 2 = .ok (.putfield 408, 3) := by decide +kernel
theorem dX12_image_5 : decode cX12_image 5 = .ok (.aload_n 0, 1) := by decide +kernel
theorem dX12_image_6 : decode cX12_image 6 = .ok (.aload_n 0, 1) := by decide +kernel
theorem dX12_image_7 : decode cX12_image 7 = .ok (.getfield 67, 3) := by decide +kernel
theorem dX12_image_10 : decode cX12_image 10 = .ok (.aload_n 0, 1) := by decide +kernel
theorem dX12_image_11 : decode cX12_image 11 = .ok (.getfield 73, 3) := by decide +kernel
theorem dX12_image_14 : decode cX12_image 14 = .ok (.iconst 0, 1) := by decide +kernel
theorem dX12_image_15 : decode cX12_image 15 = .ok (.invokevirtual 219, 3) := by decide +kernel
theorem dX12_image_18 : decode cX12_image 18 = .ok (.aload_n 0, 1) := by decide +kernel
theorem dX12_image_19 : decode cX12_image 19 = .ok (.getfield 108, 3) := by decide +kernel
theorem dX12_image_22 : decode cX12_image 22 = .ok (.ireturn, 1) := by decide +kernel
theorem dX12_restore_0 : decode cX12_restore 0 = .ok (.aload_n 0, 1) := by decide +kernel
theorem dX12_restore_1 : decode cX12_restore 1 = .ok (.getfield 408, 3) := by decide +kernel
theorem dX12_restore_4 : decode cX12_restore 4 = .ok (.ifCond .ne 10, 3) := by decide +kernel
theorem dX12_restore_7 : decode cX12_restore 7 = .ok (.aload_n 0, 1) := by decide +kernel
theorem dX12_restore_8 : decode cX12_restore 8 = .ok (.bipush (-6), 2) := by decide +kernel
theorem dX12_restore_10 : decode cX12_restore 10 = .ok (.invokevirtual 115, 3) := by decide +kernel
theorem dX12_restore_13 : decode cX12_restore 13 = .ok (.ireturn, 1) := by decide +kernel
theorem dX12_restore_14 : decode cX12_restore 14 = .ok (.aload_n 0, 1) := by decide +kernel
theorem dX12_restore_15 : decode cX12_restore 15 = .ok (.aload_n 0, 1) := by decide +kernel
theorem dX12_restore_16 : decode cX12_restore 16 = .ok (.getfield 67, 3) := by decide +kernel
theorem dX12_restore_19 : decode cX12_restore 19 = .ok (.aload_n 0, 1) := by decide +kernel
theorem dX12_restore_20 : decode cX12_restore 20 = .ok (.getfield 73, 3) := by decide +kernel
theorem dX12_restore_23 : decode cX12_restore 23 = .ok (.iconst 1, 1) := by decide +kernel
theorem dX12_restore_24 : decode cX12_restore 24 = .ok (.invokevirtual 219, 3) := by decide +kernel
theorem dX12_restore_27 : decode cX12_restore 27 = .ok (.iconst 0, 1) := by decide +kernel
theorem dX12_restore_28 : decode cX12_restore 28 = .ok (.istore_n 1, 1) := by decide +kernel
theorem dX12_restore_29 : decode cX12_restore 29 = .ok (.iload_n 1, 1) := by decide +kernel
theorem dX12_restore_30 : decode cX12_restore 30 = .ok (.bipush 8, 2) := by decide +kernel
theorem dX12_restore_32 : decode cX12_restore 32 = .ok (.if_icmp .ge 39, 3) := by decide +kernel
theorem dX12_restore_35 : decode cX12_restore 35 = .ok (.aload_n 0, 1) := by decide +kernel
theorem dX12_restore_36 : decode cX12_restore 36 = .ok (.getfield 36, 3) := by decide +kernel
theorem dX12_restore_39 : decode cX12_restore 39 = .ok (.iload_n 1, 1) := by decide +kernel
theorem dX12_restore_40 : decode cX12_restore 40 = .ok (.iaload, 1) := by decide +kernel
theorem dX12_restore_41 : decode cX12_restore 41 = .ok (.iconst 2, 1) := by decide +kernel
theorem dX12_restore_42 : decode cX12_restore 42 = .ok (.if_icmp .ne 23, 3) := by decide +kernel
theorem dX12_restore_45 : decode cX12_restore 45 = .ok (.aload_n 0, 1) := by decide +kernel
theorem dX12_restore_46 : decode cX12_restore 46 = .ok (.getfield 45, 3) := by decide +kernel
theorem dX12_restore_49 : decode cX12_restore 49 = .ok (.iload_n 1, 1) := by decide +kernel
theorem dX12_restore_50 : decode cX12_restore 50 = .ok (.iaload, 1) := by decide +kernel
theorem dX12_restore_51 : decode cX12_restore 51 = .ok (.aload_n 0, 1) := by decide +kernel
theorem dX12_restore_52 : decode cX12_restore 52 = .ok (.getfield 108, 3) := by decide +kernel
theorem dX12_restore_55 : decode cX12_restore 55 = .ok (.if_icmp .lt 10, 3) := by decide +kernel
theorem dX12_restore_58 : decode cX12_restore 58 = .ok (.aload_n 0, 1) := by decide +kernel
theorem dX12_restore_59 : decode cX12_restore 59 = .ok (.getfield 36, 3) := by decide +kernel
theorem dX12_restore_62 : decode cX12_restore 62 = .ok (.iload_n 1, 1) := by decide +kernel
theorem dX12_restore_63 : decode cX12_restore 63 = .ok (.iconst 0, 1) := by decide +kernel
theorem dX12_restore_64 : decode cX12_restore 64 = .ok (.iastore, 1) := by decide +kernel
theorem dX12_restore_65 : decode cX12_restore 65 = .ok (.iinc 1 1, 3) := by decide +kernel
theorem dX12_restore_68 : decode cX12_restore 68 = .ok (.goto (-39), 3) := by decide +kernel
theorem dX12_restore_71 : decode cX12_restore 71 = .ok (.aload_n 0, 1) := by decide +kernel
theorem dX12_restore_72 : decode cX12_restore 72 = .ok (.getfield 108, 3) := by decide +kernel
theorem dX12_restore_75 : decode cX12_restore 75 = .ok (.ireturn, 1) := by decide +kernel
theorem dX12_status_0 : decode cX12_status 0 = .ok (.iload_n 1, 1) := by decide +kernel
theorem dX12_status_1 : decode cX12_status 1 = .ok (.bipush 11, 2) := by decide +kernel
theorem dX12_status_3 : decode cX12_status 3 = .ok (.if_icmp .lt 19, 3) := by decide +kernel
theorem dX12_status_6 : decode cX12_status 6 = .ok (.iload_n 1, 1) := by decide +kernel
theorem dX12_status_7 : decode cX12_status 7 = .ok (.bipush 17, 2) := by decide +kernel
theorem dX12_status_9 : decode cX12_status 9 = .ok (.if_icmp .gt 13, 3) := by decide +kernel
theorem dX12_status_12 : decode cX12_status 12 = .ok (.aload_n 0, 1) := by decide +kernel
theorem dX12_status_13 : decode cX12_status 13 = .ok (.getfield 20, 3) := by decide +kernel
theorem dX12_status_16 : decode cX12_status 16 = .ok (.iload_n 1, 1) := by decide +kernel
theorem dX12_status_17 : decode cX12_status 17 = .ok (.bipush 10, 2) := by decide +kernel
theorem dX12_status_19 : decode cX12_status 19 = .ok (.isub, 1) := by decide +kernel
theorem dX12_status_20 : decode cX12_status 20 = .ok (.iaload, 1) := by decide +kernel
theorem dX12_status_21 : decode cX12_status 21 = .ok (.ireturn, 1) := by decide +kernel
theorem dX12_status_22 : decode cX12_status 22 = .ok (.iload_n 1, 1) := by decide +kernel
theorem dX12_status_23 : decode cX12_status 23 = .ok (.tableswitch 58 0 4 #[33, 38, 43, 48, 53], 33) := by decide +kernel
theorem dX12_status_56 : decode cX12_status 56 = .ok (.aload_n 0, 1) := by decide +kernel
theorem dX12_status_57 : decode cX12_status 57 = .ok (.getfield 108, 3) := by decide +kernel
theorem dX12_status_60 : decode cX12_status 60 = .ok (.ireturn, 1) := by decide +kernel
theorem dX12_status_61 : decode cX12_status 61 = .ok (.aload_n 0, 1) := by decide +kernel
theorem dX12_status_62 : decode cX12_status 62 = .ok (.getfield 213, 3) := by decide +kernel
theorem dX12_status_65 : decode cX12_status 65 = .ok (.ireturn, 1) := by decide +kernel
theorem dX12_status_66 : decode cX12_status 66 = .ok (.aload_n 0, 1) := by decide +kernel
theorem dX12_status_67 : decode cX12_status 67 = .ok (.getfield 216, 3) := by decide +kernel
theorem dX12_status_70 : decode cX12_status 70 = .ok (.ireturn, 1) := by decide +kernel
theorem dX12_status_71 : decode cX12_status 71 = .ok (.aload_n 0, 1) := by decide +kernel
theorem dX12_status_72 : decode cX12_status 72 = .ok (.getfield 7, 3) := by decide +kernel
theorem dX12_status_75 : decode cX12_status 75 = .ok (.ireturn, 1) := by decide +kernel
theorem dX12_status_76 : decode cX12_status 76 = .ok (.aload_n 0, 1) := by decide +kernel
theorem dX12_status_77 : decode cX12_status 77 = .ok (.getfield 393, 3) := by decide +kernel
theorem dX12_status_80 : decode cX12_status 80 = .ok (.ireturn, 1) := by decide +kernel
theorem dX12_status_81 : decode cX12_status 81 = .ok (.iconst (-1), 1) := by decide +kernel
theorem dX12_status_82 : decode cX12_status 82 = .ok (.ireturn, 1) := by decide +kernel
