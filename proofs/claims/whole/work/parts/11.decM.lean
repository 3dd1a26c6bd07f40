theorem d_M_init_0 : decode y_M_init.2.1 0 = .ok (.aload_n 0, 1) := by decide +kernel
theorem d_M_init_1 : decode y_M_init.2.1 1 = .ok (.invokespecial 1, 3) := by decide +kernel
theorem d_M_init_4 : decode y_M_init.2.1 4 = .ok (.aload_n 0, 1) := by decide +kernel
theorem d_M_init_5 : decode y_M_init.2.1 5 = .ok (.sipush 1000, 3) := by decide +kernel
theorem d_M_init_8 : decode y_M_init.2.1 8 = .ok (.putfield 7, 3) := by decide +kernel
theorem d_M_init_11 : decode y_M_init.2.1 11 = .ok (.aload_n 0, 1) := by decide +kernel
theorem d_M_init_12 : decode y_M_init.2.1 12 = .ok (.iconst 1, 1) := by decide +kernel
theorem d_M_init_13 : decode y_M_init.2.1 13 = .ok (.putfield 13, 3) := by decide +kernel
theorem d_M_init_16 : decode y_M_init.2.1 16 = .ok (.aload_n 0, 1) := by decide +kernel
theorem d_M_init_17 : decode y_M_init.2.1 17 = .ok (.iconst 1, 1) := by decide +kernel
theorem d_M_init_18 : decode y_M_init.2.1 18 = .ok (.putfield 16, 3) := by decide +kernel
theorem d_M_init_21 : decode y_M_init.2.1 21 = .ok (.aload_n 0, 1) := by decide +kernel
theorem d_M_init_22 : decode y_M_init.2.1 22 = .ok (.iconst 1, 1) := by decide +kernel
theorem d_M_init_23 : decode y_M_init.2.1 23 = .ok (.putfield 19, 3) := by decide +kernel
theorem d_M_init_26 : decode y_M_init.2.1 26 = .ok (.aload_n 0, 1) := by decide +kernel
theorem d_M_init_27 : decode y_M_init.2.1 27 = .ok (.bipush 8, 2) := by decide +kernel
theorem d_M_init_29 : decode y_M_init.2.1 29 = .ok (.newarray .int, 2) := by decide +kernel
theorem d_M_init_31 : decode y_M_init.2.1 31 = .ok (.putfield 22, 3) := by decide +kernel
theorem d_M_init_34 : decode y_M_init.2.1 34 = .ok (.aload_n 0, 1) := by decide +kernel
theorem d_M_init_35 : decode y_M_init.2.1 35 = .ok (.bipush 8, 2) := by decide +kernel
theorem d_M_init_37 : decode y_M_init.2.1 37 = .ok (.newarray .int, 2) := by decide +kernel
theorem d_M_init_39 : decode y_M_init.2.1 39 = .ok (.putfield 26, 3) := by decide +kernel
theorem d_M_init_42 : decode y_M_init.2.1 42 = .ok (.aload_n 0, 1) := by decide +kernel
theorem d_M_init_43 : decode y_M_init.2.1 43 = .ok (.bipush 8, 2) := by decide +kernel
theorem d_M_init_45 : decode y_M_init.2.1 45 = .ok (.newarray .int, 2) := by decide +kernel
theorem d_M_init_47 : decode y_M_init.2.1 47 = .ok (.putfield 29, 3) := by decide +kernel
theorem d_M_init_50 : decode y_M_init.2.1 50 = .ok (.aload_n 0, 1) := by decide +kernel
theorem d_M_init_51 : decode y_M_init.2.1 51 = .ok (.bipush 12, 2) := by decide +kernel
theorem d_M_init_53 : decode y_M_init.2.1 53 = .ok (.newarray .int, 2) := by decide +kernel
theorem d_M_init_55 : decode y_M_init.2.1 55 = .ok (.putfield 32, 3) := by decide +kernel
theorem d_M_init_58 : decode y_M_init.2.1 58 = .ok (.aload_n 0, 1) := by decide +kernel
theorem d_M_init_59 : decode y_M_init.2.1 59 = .ok (.bipush 12, 2) := by decide +kernel
theorem d_M_init_61 : decode y_M_init.2.1 61 = .ok (.newarray .int, 2) := by decide +kernel
theorem d_M_init_63 : decode y_M_init.2.1 63 = .ok (.putfield 35, 3) := by decide +kernel
theorem d_M_init_66 : decode y_M_init.2.1 66 = .ok (.aload_n 0, 1) := by decide +kernel
theorem d_M_init_67 : decode y_M_init.2.1 67 = .ok (.bipush 12, 2) := by decide +kernel
theorem d_M_init_69 : decode y_M_init.2.1 69 = .ok (.newarray .int, 2) := by decide +kernel
theorem d_M_init_71 : decode y_M_init.2.1 71 = .ok (.putfield 38, 3) := by decide +kernel
theorem d_M_init_74 : decode y_M_init.2.1 74 = .ok (.aload_n 0, 1) := by decide +kernel
theorem d_M_init_75 : decode y_M_init.2.1 75 = .ok (.bipush 12, 2) := by decide +kernel
theorem d_M_init_77 : decode y_M_init.2.1 77 = .ok (.newarray .int, 2) := by decide +kernel
theorem d_M_init_79 : decode y_M_init.2.1 79 = .ok (.putfield 41, 3) := by decide +kernel
theorem d_M_init_82 : decode y_M_init.2.1 82 = .ok (.aload_n 0, 1) := by decide +kernel
theorem d_M_init_83 : decode y_M_init.2.1 83 = .ok (.bipush 12, 2) := by decide +kernel
theorem d_M_init_85 : decode y_M_init.2.1 85 = .ok (.newarray .int, 2) := by decide +kernel
theorem d_M_init_87 : decode y_M_init.2.1 87 = .ok (.putfield 44, 3) := by decide +kernel
theorem d_M_init_90 : decode y_M_init.2.1 90 = .ok (.aload_n 0, 1) := by decide +kernel
theorem d_M_init_91 : decode y_M_init.2.1 91 = .ok (.iconst 4, 1) := by decide +kernel
theorem d_M_init_92 : decode y_M_init.2.1 92 = .ok (.newarray .int, 2) := by decide +kernel
theorem d_M_init_94 : decode y_M_init.2.1 94 = .ok (.putfield 47, 3) := by decide +kernel
theorem d_M_init_97 : decode y_M_init.2.1 97 = .ok (.aload_n 0, 1) := by decide +kernel
theorem d_M_init_98 : decode y_M_init.2.1 98 = .ok (.iconst 4, 1) := by decide +kernel
theorem d_M_init_99 : decode y_M_init.2.1 99 = .ok (.newarray .int, 2) := by decide +kernel
theorem d_M_init_101 : decode y_M_init.2.1 101 = .ok (.putfield 50, 3) := by decide +kernel
theorem d_M_init_104 : decode y_M_init.2.1 104 = .ok (.aload_n 0, 1) := by decide +kernel
theorem d_M_init_105 : decode y_M_init.2.1 105 = .ok (.iconst 4, 1) := by decide +kernel
theorem d_M_init_106 : decode y_M_init.2.1 106 = .ok (.newarray .int, 2) := by decide +kernel
theorem d_M_init_108 : decode y_M_init.2.1 108 = .ok (.putfield 53, 3) := by decide +kernel
theorem d_M_init_111 : decode y_M_init.2.1 111 = .ok (.aload_n 0, 1) := by decide +kernel
theorem d_M_init_112 : decode y_M_init.2.1 112 = .ok (.iconst 4, 1) := by decide +kernel
theorem d_M_init_113 : decode y_M_init.2.1 113 = .ok (.newarray .int, 2) := by decide +kernel
theorem d_M_init_115 : decode y_M_init.2.1 115 = .ok (.putfield 56, 3) := by decide +kernel
theorem d_M_init_118 : decode y_M_init.2.1 118 = .ok (.aload_n 0, 1) := by decide +kernel
theorem d_M_init_119 : decode y_M_init.2.1 119 = .ok (.iconst 4, 1) := by decide +kernel
theorem d_M_init_120 : decode y_M_init.2.1 120 = .ok (.newarray .int, 2) := by decide +kernel
theorem d_M_init_122 : decode y_M_init.2.1 122 = .ok (.putfield 59, 3) := by decide +kernel
theorem d_M_init_125 : decode y_M_init.2.1 125 = .ok (.aload_n 0, 1) := by decide +kernel
theorem d_M_init_126 : decode y_M_init.2.1 126 = .ok (.iconst 4, 1) := by decide +kernel
theorem d_M_init_127 : decode y_M_init.2.1 127 = .ok (.newarray .int, 2) := by decide +kernel
theorem d_M_init_129 : decode y_M_init.2.1 129 = .ok (.putfield 62, 3) := by decide +kernel
theorem d_M_init_132 : decode y_M_init.2.1 132 = .ok (.aload_n 0, 1) := by decide +kernel
theorem d_M_init_133 : decode y_M_init.2.1 133 = .ok (.bipush 8, 2) := by decide +kernel
theorem d_M_init_135 : decode y_M_init.2.1 135 = .ok (.newarray .int, 2) := by decide +kernel
theorem d_M_init_137 : decode y_M_init.2.1 137 = .ok (.putfield 65, 3) := by decide +kernel
theorem d_M_init_140 : decode y_M_init.2.1 140 = .ok (.aload_n 0, 1) := by decide +kernel
theorem d_M_init_141 : decode y_M_init.2.1 141 = .ok (.bipush 8, 2) := by decide +kernel
theorem d_M_init_143 : decode y_M_init.2.1 143 = .ok (.newarray .int, 2) := by decide +kernel
theorem d_M_init_145 : decode y_M_init.2.1 145 = .ok (.putfield 68, 3) := by decide +kernel
theorem d_M_init_148 : decode y_M_init.2.1 148 = .ok (.aload_n 0, 1) := by decide +kernel
theorem d_M_init_149 : decode y_M_init.2.1 149 = .ok (.bipush 8, 2) := by decide +kernel
theorem d_M_init_151 : decode y_M_init.2.1 151 = .ok (.newarray .int, 2) := by decide +kernel
theorem d_M_init_153 : decode y_M_init.2.1 153 = .ok (.putfield 71, 3) := by decide +kernel
theorem d_M_init_156 : decode y_M_init.2.1 156 = .ok (.aload_n 0, 1) := by decide +kernel
theorem d_M_init_157 : decode y_M_init.2.1 157 = .ok (.bipush 8, 2) := by decide +kernel
theorem d_M_init_159 : decode y_M_init.2.1 159 = .ok (.newarray .int, 2) := by decide +kernel
theorem d_M_init_161 : decode y_M_init.2.1 161 = .ok (.putfield 74, 3) := by decide +kernel
theorem d_M_init_164 : decode y_M_init.2.1 164 = .ok (.aload_n 0, 1) := by decide +kernel
theorem d_M_init_165 : decode y_M_init.2.1 165 = .ok (.bipush 60, 2) := by decide +kernel
theorem d_M_init_167 : decode y_M_init.2.1 167 = .ok (.newarray .int, 2) := by decide +kernel
theorem d_M_init_169 : decode y_M_init.2.1 169 = .ok (.putfield 77, 3) := by decide +kernel
theorem d_M_init_172 : decode y_M_init.2.1 172 = .ok (.aload_n 0, 1) := by decide +kernel
theorem d_M_init_173 : decode y_M_init.2.1 173 = .ok (.bipush 60, 2) := by decide +kernel
theorem d_M_init_175 : decode y_M_init.2.1 175 = .ok (.newarray .int, 2) := by decide +kernel
theorem d_M_init_177 : decode y_M_init.2.1 177 = .ok (.putfield 80, 3) := by decide +kernel
theorem d_M_init_180 : decode y_M_init.2.1 180 = .ok (.aload_n 0, 1) := by decide +kernel
theorem d_M_init_181 : decode y_M_init.2.1 181 = .ok (.bipush 60, 2) := by decide +kernel
theorem d_M_init_183 : decode y_M_init.2.1 183 = .ok (.newarray .int, 2) := by decide +kernel
theorem d_M_init_185 : decode y_M_init.2.1 185 = .ok (.putfield 83, 3) := by decide +kernel
theorem d_M_init_188 : decode y_M_init.2.1 188 = .ok (.aload_n 0, 1) := by decide +kernel
theorem d_M_init_189 : decode y_M_init.2.1 189 = .ok (.bipush 60, 2) := by decide +kernel
theorem d_M_init_191 : decode y_M_init.2.1 191 = .ok (.newarray .int, 2) := by decide +kernel
theorem d_M_init_193 : decode y_M_init.2.1 193 = .ok (.putfield 86, 3) := by decide +kernel
theorem d_M_init_196 : decode y_M_init.2.1 196 = .ok (.aload_n 0, 1) := by decide +kernel
theorem d_M_init_197 : decode y_M_init.2.1 197 = .ok (.bipush 10, 2) := by decide +kernel
theorem d_M_init_199 : decode y_M_init.2.1 199 = .ok (.newarray .int, 2) := by decide +kernel
theorem d_M_init_201 : decode y_M_init.2.1 201 = .ok (.putfield 89, 3) := by decide +kernel
theorem d_M_init_204 : decode y_M_init.2.1 204 = .ok (.aload_n 0, 1) := by decide +kernel
theorem d_M_init_205 : decode y_M_init.2.1 205 = .ok (.bipush 10, 2) := by decide +kernel
theorem d_M_init_207 : decode y_M_init.2.1 207 = .ok (.newarray .int, 2) := by decide +kernel
theorem d_M_init_209 : decode y_M_init.2.1 209 = .ok (.putfield 92, 3) := by decide +kernel
theorem d_M_init_212 : decode y_M_init.2.1 212 = .ok (.aload_n 0, 1) := by decide +kernel
theorem d_M_init_213 : decode y_M_init.2.1 213 = .ok (.bipush 10, 2) := by decide +kernel
theorem d_M_init_215 : decode y_M_init.2.1 215 = .ok (.newarray .int, 2) := by decide +kernel
theorem d_M_init_217 : decode y_M_init.2.1 217 = .ok (.putfield 95, 3) := by decide +kernel
theorem d_M_init_220 : decode y_M_init.2.1 220 = .ok (.aload_n 0, 1) := by decide +kernel
theorem d_M_init_221 : decode y_M_init.2.1 221 = .ok (.bipush 6, 2) := by decide +kernel
theorem d_M_init_223 : decode y_M_init.2.1 223 = .ok (.newarray .int, 2) := by decide +kernel
theorem d_M_init_225 : decode y_M_init.2.1 225 = .ok (.putfield 98, 3) := by decide +kernel
theorem d_M_init_228 : decode y_M_init.2.1 228 = .ok (.aload_n 0, 1) := by decide +kernel
theorem d_M_init_229 : decode y_M_init.2.1 229 = .ok (.bipush 6, 2) := by decide +kernel
theorem d_M_init_231 : decode y_M_init.2.1 231 = .ok (.newarray .int, 2) := by decide +kernel
theorem d_M_init_233 : decode y_M_init.2.1 233 = .ok (.putfield 101, 3) := by decide +kernel
theorem d_M_init_236 : decode y_M_init.2.1 236 = .ok (.aload_n 0, 1) := by decide +kernel
theorem d_M_init_237 : decode y_M_init.2.1 237 = .ok (.bipush 6, 2) := by decide +kernel
theorem d_M_init_239 : decode y_M_init.2.1 239 = .ok (.newarray .int, 2) := by decide +kernel
theorem d_M_init_241 : decode y_M_init.2.1 241 = .ok (.putfield 104, 3) := by decide +kernel
theorem d_M_init_244 : decode y_M_init.2.1 244 = .ok (.aload_n 0, 1) := by decide +kernel
theorem d_M_init_245 : decode y_M_init.2.1 245 = .ok (.bipush 6, 2) := by decide +kernel
theorem d_M_init_247 : decode y_M_init.2.1 247 = .ok (.newarray .boolean, 2) := by decide +kernel
theorem d_M_init_249 : decode y_M_init.2.1 249 = .ok (.putfield 107, 3) := by decide +kernel
theorem d_M_init_252 : decode y_M_init.2.1 252 = .ok (.aload_n 0, 1) := by decide +kernel
theorem d_M_init_253 : decode y_M_init.2.1 253 = .ok (.bipush 10, 2) := by decide +kernel
theorem d_M_init_255 : decode y_M_init.2.1 255 = .ok (.newarray .int, 2) := by decide +kernel
theorem d_M_init_257 : decode y_M_init.2.1 257 = .ok (.putfield 111, 3) := by decide +kernel
theorem d_M_init_260 : decode y_M_init.2.1 260 = .ok (.aload_n 0, 1) := by decide +kernel
theorem d_M_init_261 : decode y_M_init.2.1 261 = .ok (.bipush 10, 2) := by decide +kernel
theorem d_M_init_263 : decode y_M_init.2.1 263 = .ok (.newarray .int, 2) := by decide +kernel
theorem d_M_init_265 : decode y_M_init.2.1 265 = .ok (.putfield 114, 3) := by decide +kernel
theorem d_M_init_268 : decode y_M_init.2.1 268 = .ok (.aload_n 0, 1) := by decide +kernel
theorem d_M_init_269 : decode y_M_init.2.1 269 = .ok (.bipush 40, 2) := by decide +kernel
theorem d_M_init_271 : decode y_M_init.2.1 271 = .ok (.newarray .int, 2) := by decide +kernel
theorem d_M_init_273 : decode y_M_init.2.1 273 = .ok (.putfield 117, 3) := by decide +kernel
theorem d_M_init_276 : decode y_M_init.2.1 276 = .ok (.aload_n 0, 1) := by decide +kernel
theorem d_M_init_277 : decode y_M_init.2.1 277 = .ok (.bipush 40, 2) := by decide +kernel
theorem d_M_init_279 : decode y_M_init.2.1 279 = .ok (.newarray .int, 2) := by decide +kernel
theorem d_M_init_281 : decode y_M_init.2.1 281 = .ok (.putfield 120, 3) := by decide +kernel
theorem d_M_init_284 : decode y_M_init.2.1 284 = .ok (.aload_n 0, 1) := by decide +kernel
theorem d_M_init_285 : decode y_M_init.2.1 285 = .ok (.bipush 40, 2) := by decide +kernel
theorem d_M_init_287 : decode y_M_init.2.1 287 = .ok (.newarray .int, 2) := by decide +kernel
theorem d_M_init_289 : decode y_M_init.2.1 289 = .ok (.putfield 123, 3) := by decide +kernel
theorem d_M_init_292 : decode y_M_init.2.1 292 = .ok (.aload_n 0, 1) := by decide +kernel
theorem d_M_init_293 : decode y_M_init.2.1 293 = .ok (.sipush 4480, 3) := by decide +kernel
theorem d_M_init_296 : decode y_M_init.2.1 296 = .ok (.newarray .int, 2) := by decide +kernel
theorem d_M_init_298 : decode y_M_init.2.1 298 = .ok (.putfield 126, 3) := by decide +kernel
theorem d_M_init_301 : decode y_M_init.2.1 301 = .ok (.aload_n 0, 1) := by decide +kernel
theorem d_M_init_302 : decode y_M_init.2.1 302 = .ok (.sipush 168, 3) := by decide +kernel
theorem d_M_init_305 : decode y_M_init.2.1 305 = .ok (.newarray .int, 2) := by decide +kernel
theorem d_M_init_307 : decode y_M_init.2.1 307 = .ok (.putfield 129, 3) := by decide +kernel
theorem d_M_init_310 : decode y_M_init.2.1 310 = .ok (.aload_n 0, 1) := by decide +kernel
theorem d_M_init_311 : decode y_M_init.2.1 311 = .ok (.sipush 168, 3) := by decide +kernel
theorem d_M_init_314 : decode y_M_init.2.1 314 = .ok (.newarray .int, 2) := by decide +kernel
theorem d_M_init_316 : decode y_M_init.2.1 316 = .ok (.putfield 132, 3) := by decide +kernel
theorem d_M_init_319 : decode y_M_init.2.1 319 = .ok (.aload_n 0, 1) := by decide +kernel
theorem d_M_init_320 : decode y_M_init.2.1 320 = .ok (.sipush 252, 3) := by decide +kernel
theorem d_M_init_323 : decode y_M_init.2.1 323 = .ok (.newarray .int, 2) := by decide +kernel
theorem d_M_init_325 : decode y_M_init.2.1 325 = .ok (.putfield 135, 3) := by decide +kernel
theorem d_M_init_328 : decode y_M_init.2.1 328 = .ok (.aload_n 0, 1) := by decide +kernel
theorem d_M_init_329 : decode y_M_init.2.1 329 = .ok (.bipush 8, 2) := by decide +kernel
theorem d_M_init_331 : decode y_M_init.2.1 331 = .ok (.newarray .int, 2) := by decide +kernel
theorem d_M_init_333 : decode y_M_init.2.1 333 = .ok (.putfield 138, 3) := by decide +kernel
theorem d_M_init_336 : decode y_M_init.2.1 336 = .ok (.aload_n 0, 1) := by decide +kernel
theorem d_M_init_337 : decode y_M_init.2.1 337 = .ok (.bipush 21, 2) := by decide +kernel
theorem d_M_init_339 : decode y_M_init.2.1 339 = .ok (.newarray .int, 2) := by decide +kernel
theorem d_M_init_341 : decode y_M_init.2.1 341 = .ok (.putfield 141, 3) := by decide +kernel
theorem d_M_init_344 : decode y_M_init.2.1 344 = .ok (.aload_n 0, 1) := by decide +kernel
theorem d_M_init_345 : decode y_M_init.2.1 345 = .ok (.bipush 21, 2) := by decide +kernel
theorem d_M_init_347 : decode y_M_init.2.1 347 = .ok (.newarray .int, 2) := by decide +kernel
theorem d_M_init_349 : decode y_M_init.2.1 349 = .ok (.putfield 144, 3) := by decide +kernel
theorem d_M_init_352 : decode y_M_init.2.1 352 = .ok (.aload_n 0, 1) := by decide +kernel
theorem d_M_init_353 : decode y_M_init.2.1 353 = .ok (.bipush 21, 2) := by decide +kernel
theorem d_M_init_355 : decode y_M_init.2.1 355 = .ok (.newarray .int, 2) := by decide +kernel
theorem d_M_init_357 : decode y_M_init.2.1 357 = .ok (.putfield 147, 3) := by decide +kernel
theorem d_M_init_360 : decode y_M_init.2.1 360 = .ok (.aload_n 0, 1) := by decide +kernel
theorem d_M_init_361 : decode y_M_init.2.1 361 = .ok (.sipush 338, 3) := by decide +kernel
theorem d_M_init_364 : decode y_M_init.2.1 364 = .ok (.newarray .int, 2) := by decide +kernel
theorem d_M_init_366 : decode y_M_init.2.1 366 = .ok (.putfield 150, 3) := by decide +kernel
theorem d_M_init_369 : decode y_M_init.2.1 369 = .ok (.aload_n 0, 1) := by decide +kernel
theorem d_M_init_370 : decode y_M_init.2.1 370 = .ok (.sipush 338, 3) := by decide +kernel
theorem d_M_init_373 : decode y_M_init.2.1 373 = .ok (.newarray .int, 2) := by decide +kernel
theorem d_M_init_375 : decode y_M_init.2.1 375 = .ok (.putfield 153, 3) := by decide +kernel
theorem d_M_init_378 : decode y_M_init.2.1 378 = .ok (.aload_n 0, 1) := by decide +kernel
theorem d_M_init_379 : decode y_M_init.2.1 379 = .ok (.sipush 338, 3) := by decide +kernel
theorem d_M_init_382 : decode y_M_init.2.1 382 = .ok (.newarray .int, 2) := by decide +kernel
theorem d_M_init_384 : decode y_M_init.2.1 384 = .ok (.putfield 156, 3) := by decide +kernel
theorem d_M_init_387 : decode y_M_init.2.1 387 = .ok (.aload_n 0, 1) := by decide +kernel
theorem d_M_init_388 : decode y_M_init.2.1 388 = .ok (.sipush 338, 3) := by decide +kernel
theorem d_M_init_391 : decode y_M_init.2.1 391 = .ok (.newarray .int, 2) := by decide +kernel
theorem d_M_init_393 : decode y_M_init.2.1 393 = .ok (.putfield 159, 3) := by decide +kernel
theorem d_M_init_396 : decode y_M_init.2.1 396 = .ok (.aload_n 0, 1) := by decide +kernel
theorem d_M_init_397 : decode y_M_init.2.1 397 = .ok (.sipush 338, 3) := by decide +kernel
theorem d_M_init_400 : decode y_M_init.2.1 400 = .ok (.newarray .int, 2) := by decide +kernel
theorem d_M_init_402 : decode y_M_init.2.1 402 = .ok (.putfield 162, 3) := by decide +kernel
theorem d_M_init_405 : decode y_M_init.2.1 405 = .ok (.aload_n 0, 1) := by decide +kernel
theorem d_M_init_406 : decode y_M_init.2.1 406 = .ok (.sipush 2400, 3) := by decide +kernel
theorem d_M_init_409 : decode y_M_init.2.1 409 = .ok (.newarray .int, 2) := by decide +kernel
theorem d_M_init_411 : decode y_M_init.2.1 411 = .ok (.putfield 165, 3) := by decide +kernel
theorem d_M_init_414 : decode y_M_init.2.1 414 = .ok (.aload_n 0, 1) := by decide +kernel
theorem d_M_init_415 : decode y_M_init.2.1 415 = .ok (.sipush 2400, 3) := by decide +kernel
theorem d_M_init_418 : decode y_M_init.2.1 418 = .ok (.newarray .int, 2) := by decide +kernel
theorem d_M_init_420 : decode y_M_init.2.1 420 = .ok (.putfield 168, 3) := by decide +kernel
theorem d_M_init_423 : decode y_M_init.2.1 423 = .ok (.aload_n 0, 1) := by decide +kernel
theorem d_M_init_424 : decode y_M_init.2.1 424 = .ok (.sipush 2400, 3) := by decide +kernel
theorem d_M_init_427 : decode y_M_init.2.1 427 = .ok (.newarray .int, 2) := by decide +kernel
theorem d_M_init_429 : decode y_M_init.2.1 429 = .ok (.putfield 171, 3) := by decide +kernel
theorem d_M_init_432 : decode y_M_init.2.1 432 = .ok (.aload_n 0, 1) := by decide +kernel
theorem d_M_init_433 : decode y_M_init.2.1 433 = .ok (.bipush 21, 2) := by decide +kernel
theorem d_M_init_435 : decode y_M_init.2.1 435 = .ok (.newarray .int, 2) := by decide +kernel
theorem d_M_init_437 : decode y_M_init.2.1 437 = .ok (.putfield 174, 3) := by decide +kernel
theorem d_M_init_440 : decode y_M_init.2.1 440 = .ok (.aload_n 0, 1) := by decide +kernel
theorem d_M_init_441 : decode y_M_init.2.1 441 = .ok (.bipush 105, 2) := by decide +kernel
theorem d_M_init_443 : decode y_M_init.2.1 443 = .ok (.newarray .int, 2) := by decide +kernel
theorem d_M_init_445 : decode y_M_init.2.1 445 = .ok (.putfield 177, 3) := by decide +kernel
theorem d_M_init_448 : decode y_M_init.2.1 448 = .ok (.aload_n 0, 1) := by decide +kernel
theorem d_M_init_449 : decode y_M_init.2.1 449 = .ok (.bipush 16, 2) := by decide +kernel
theorem d_M_init_451 : decode y_M_init.2.1 451 = .ok (.newarray .int, 2) := by decide +kernel
theorem d_M_init_453 : decode y_M_init.2.1 453 = .ok (.putfield 180, 3) := by decide +kernel
theorem d_M_init_456 : decode y_M_init.2.1 456 = .ok (.aload_n 0, 1) := by decide +kernel
theorem d_M_init_457 : decode y_M_init.2.1 457 = .ok (.iconst 4, 1) := by decide +kernel
theorem d_M_init_458 : decode y_M_init.2.1 458 = .ok (.newarray .int, 2) := by decide +kernel
theorem d_M_init_460 : decode y_M_init.2.1 460 = .ok (.putfield 183, 3) := by decide +kernel
theorem d_M_init_463 : decode y_M_init.2.1 463 = .ok (.aload_n 0, 1) := by decide +kernel
theorem d_M_init_464 : decode y_M_init.2.1 464 = .ok (.sipush 168, 3) := by decide +kernel
theorem d_M_init_467 : decode y_M_init.2.1 467 = .ok (.newarray .int, 2) := by decide +kernel
theorem d_M_init_469 : decode y_M_init.2.1 469 = .ok (.putfield 186, 3) := by decide +kernel
theorem d_M_init_472 : decode y_M_init.2.1 472 = .ok (.aload_n 0, 1) := by decide +kernel
theorem d_M_init_473 : decode y_M_init.2.1 473 = .ok (.sipush 168, 3) := by decide +kernel
theorem d_M_init_476 : decode y_M_init.2.1 476 = .ok (.newarray .int, 2) := by decide +kernel
theorem d_M_init_478 : decode y_M_init.2.1 478 = .ok (.putfield 189, 3) := by decide +kernel
theorem d_M_init_481 : decode y_M_init.2.1 481 = .ok (.aload_n 0, 1) := by decide +kernel
theorem d_M_init_482 : decode y_M_init.2.1 482 = .ok (.sipush 168, 3) := by decide +kernel
theorem d_M_init_485 : decode y_M_init.2.1 485 = .ok (.newarray .long, 2) := by decide +kernel
theorem d_M_init_487 : decode y_M_init.2.1 487 = .ok (.putfield 192, 3) := by decide +kernel
theorem d_M_init_490 : decode y_M_init.2.1 490 = .ok (.aload_n 0, 1) := by decide +kernel
theorem d_M_init_491 : decode y_M_init.2.1 491 = .ok (.sipush 168, 3) := by decide +kernel
theorem d_M_init_494 : decode y_M_init.2.1 494 = .ok (.newarray .int, 2) := by decide +kernel
theorem d_M_init_496 : decode y_M_init.2.1 496 = .ok (.putfield 196, 3) := by decide +kernel
theorem d_M_init_499 : decode y_M_init.2.1 499 = .ok (.aload_n 0, 1) := by decide +kernel
theorem d_M_init_500 : decode y_M_init.2.1 500 = .ok (.sipush 168, 3) := by decide +kernel
theorem d_M_init_503 : decode y_M_init.2.1 503 = .ok (.newarray .int, 2) := by decide +kernel
theorem d_M_init_505 : decode y_M_init.2.1 505 = .ok (.putfield 199, 3) := by decide +kernel
theorem d_M_init_508 : decode y_M_init.2.1 508 = .ok (.aload_n 0, 1) := by decide +kernel
theorem d_M_init_509 : decode y_M_init.2.1 509 = .ok (.bipush 21, 2) := by decide +kernel
theorem d_M_init_511 : decode y_M_init.2.1 511 = .ok (.newarray .int, 2) := by decide +kernel
theorem d_M_init_513 : decode y_M_init.2.1 513 = .ok (.putfield 202, 3) := by decide +kernel
theorem d_M_init_516 : decode y_M_init.2.1 516 = .ok (.aload_n 0, 1) := by decide +kernel
theorem d_M_init_517 : decode y_M_init.2.1 517 = .ok (.sipush 840, 3) := by decide +kernel
theorem d_M_init_520 : decode y_M_init.2.1 520 = .ok (.newarray .boolean, 2) := by decide +kernel
theorem d_M_init_522 : decode y_M_init.2.1 522 = .ok (.putfield 205, 3) := by decide +kernel
theorem d_M_init_525 : decode y_M_init.2.1 525 = .ok (.aload_n 0, 1) := by decide +kernel
theorem d_M_init_526 : decode y_M_init.2.1 526 = .ok (.iconst 4, 1) := by decide +kernel
theorem d_M_init_527 : decode y_M_init.2.1 527 = .ok (.newarray .int, 2) := by decide +kernel
theorem d_M_init_529 : decode y_M_init.2.1 529 = .ok (.dup, 1) := by decide +kernel
theorem d_M_init_530 : decode y_M_init.2.1 530 = .ok (.iconst 0, 1) := by decide +kernel
theorem d_M_init_531 : decode y_M_init.2.1 531 = .ok (.iconst (-1), 1) := by decide +kernel
theorem d_M_init_532 : decode y_M_init.2.1 532 = .ok (.iastore, 1) := by decide +kernel
theorem d_M_init_533 : decode y_M_init.2.1 533 = .ok (.dup, 1) := by decide +kernel
theorem d_M_init_534 : decode y_M_init.2.1 534 = .ok (.iconst 1, 1) := by decide +kernel
theorem d_M_init_535 : decode y_M_init.2.1 535 = .ok (.iconst (-1), 1) := by decide +kernel
theorem d_M_init_536 : decode y_M_init.2.1 536 = .ok (.iastore, 1) := by decide +kernel
theorem d_M_init_537 : decode y_M_init.2.1 537 = .ok (.dup, 1) := by decide +kernel
theorem d_M_init_538 : decode y_M_init.2.1 538 = .ok (.iconst 2, 1) := by decide +kernel
theorem d_M_init_539 : decode y_M_init.2.1 539 = .ok (.iconst (-1), 1) := by decide +kernel
theorem d_M_init_540 : decode y_M_init.2.1 540 = .ok (.iastore, 1) := by decide +kernel
theorem d_M_init_541 : decode y_M_init.2.1 541 = .ok (.dup, 1) := by decide +kernel
theorem d_M_init_542 : decode y_M_init.2.1 542 = .ok (.iconst 3, 1) := by decide +kernel
theorem d_M_init_543 : decode y_M_init.2.1 543 = .ok (.iconst (-1), 1) := by decide +kernel
theorem d_M_init_544 : decode y_M_init.2.1 544 = .ok (.iastore, 1) := by decide +kernel
theorem d_M_init_545 : decode y_M_init.2.1 545 = .ok (.putfield 208, 3) := by decide +kernel
theorem d_M_init_548 : decode y_M_init.2.1 548 = .ok (.aload_n 0, 1) := by decide +kernel
theorem d_M_init_549 : decode y_M_init.2.1 549 = .ok (.iconst 4, 1) := by decide +kernel
theorem d_M_init_550 : decode y_M_init.2.1 550 = .ok (.newarray .int, 2) := by decide +kernel
theorem d_M_init_552 : decode y_M_init.2.1 552 = .ok (.putfield 211, 3) := by decide +kernel
theorem d_M_init_555 : decode y_M_init.2.1 555 = .ok (.aload_n 0, 1) := by decide +kernel
theorem d_M_init_556 : decode y_M_init.2.1 556 = .ok (.bipush 120, 2) := by decide +kernel
theorem d_M_init_558 : decode y_M_init.2.1 558 = .ok (.newarray .long, 2) := by decide +kernel
theorem d_M_init_560 : decode y_M_init.2.1 560 = .ok (.putfield 214, 3) := by decide +kernel
theorem d_M_init_563 : decode y_M_init.2.1 563 = .ok (.return_, 1) := by decide +kernel
theorem d_M_thrown_0 : decode y_M_thrown.2.1 0 = .ok (.aload_n 0, 1) := by decide +kernel
theorem d_M_thrown_1 : decode y_M_thrown.2.1 1 = .ok (.getfield 217, 3) := by decide +kernel
theorem d_M_thrown_4 : decode y_M_thrown.2.1 4 = .ok (.ireturn, 1) := by decide +kernel
theorem d_M_fails_0 : decode y_M_fails.2.1 0 = .ok (.aload_n 0, 1) := by decide +kernel
theorem d_M_fails_1 : decode y_M_fails.2.1 1 = .ok (.iload_n 1, 1) := by decide +kernel
theorem d_M_fails_2 : decode y_M_fails.2.1 2 = .ok (.putfield 217, 3) := by decide +kernel
theorem d_M_fails_5 : decode y_M_fails.2.1 5 = .ok (.iconst 0, 1) := by decide +kernel
theorem d_M_fails_6 : decode y_M_fails.2.1 6 = .ok (.ireturn, 1) := by decide +kernel
theorem d_M_within_0 : decode y_M_within.2.1 0 = .ok (.lload_n 0, 1) := by decide +kernel
theorem d_M_within_1 : decode y_M_within.2.1 1 = .ok (.lload_n 2, 1) := by decide +kernel
theorem d_M_within_2 : decode y_M_within.2.1 2 = .ok (.lcmp, 1) := by decide +kernel
theorem d_M_within_3 : decode y_M_within.2.1 3 = .ok (.ifCond .lt 14, 3) := by decide +kernel
theorem d_M_within_6 : decode y_M_within.2.1 6 = .ok (.lload_n 0, 1) := by decide +kernel
theorem d_M_within_7 : decode y_M_within.2.1 7 = .ok (.lload 4, 2) := by decide +kernel
theorem d_M_within_9 : decode y_M_within.2.1 9 = .ok (.lcmp, 1) := by decide +kernel
theorem d_M_within_10 : decode y_M_within.2.1 10 = .ok (.ifCond .gt 7, 3) := by decide +kernel
theorem d_M_within_13 : decode y_M_within.2.1 13 = .ok (.iconst 1, 1) := by decide +kernel
theorem d_M_within_14 : decode y_M_within.2.1 14 = .ok (.goto 4, 3) := by decide +kernel
theorem d_M_within_17 : decode y_M_within.2.1 17 = .ok (.iconst 0, 1) := by decide +kernel
theorem d_M_within_18 : decode y_M_within.2.1 18 = .ok (.ireturn, 1) := by decide +kernel
theorem d_M_isMinute_0 : decode y_M_isMinute.2.1 0 = .ok (.iload_n 0, 1) := by decide +kernel
theorem d_M_isMinute_1 : decode y_M_isMinute.2.1 1 = .ok (.i2l, 1) := by decide +kernel
theorem d_M_isMinute_2 : decode y_M_isMinute.2.1 2 = .ok (.lconst 0, 1) := by decide +kernel
theorem d_M_isMinute_3 : decode y_M_isMinute.2.1 3 = .ok (.ldc2_w 220, 3) := by decide +kernel
theorem d_M_isMinute_6 : decode y_M_isMinute.2.1 6 = .ok (.invokestatic 222, 3) := by decide +kernel
theorem d_M_isMinute_9 : decode y_M_isMinute.2.1 9 = .ok (.ireturn, 1) := by decide +kernel
theorem d_M_isPlan_0 : decode y_M_isPlan.2.1 0 = .ok (.iload_n 0, 1) := by decide +kernel
theorem d_M_isPlan_1 : decode y_M_isPlan.2.1 1 = .ok (.i2l, 1) := by decide +kernel
theorem d_M_isPlan_2 : decode y_M_isPlan.2.1 2 = .ok (.lconst 0, 1) := by decide +kernel
theorem d_M_isPlan_3 : decode y_M_isPlan.2.1 3 = .ok (.ldc2_w 226, 3) := by decide +kernel
theorem d_M_isPlan_6 : decode y_M_isPlan.2.1 6 = .ok (.invokestatic 222, 3) := by decide +kernel
theorem d_M_isPlan_9 : decode y_M_isPlan.2.1 9 = .ok (.ireturn, 1) := by decide +kernel
theorem d_M_isPiece_0 : decode y_M_isPiece.2.1 0 = .ok (.iload_n 1, 1) := by decide +kernel
theorem d_M_isPiece_1 : decode y_M_isPiece.2.1 1 = .ok (.i2l, 1) := by decide +kernel
theorem d_M_isPiece_2 : decode y_M_isPiece.2.1 2 = .ok (.lconst 0, 1) := by decide +kernel
theorem d_M_isPiece_3 : decode y_M_isPiece.2.1 3 = .ok (.aload_n 0, 1) := by decide +kernel
theorem d_M_isPiece_4 : decode y_M_isPiece.2.1 4 = .ok (.getfield 228, 3) := by decide +kernel
theorem d_M_isPiece_7 : decode y_M_isPiece.2.1 7 = .ok (.iconst 1, 1) := by decide +kernel
theorem d_M_isPiece_8 : decode y_M_isPiece.2.1 8 = .ok (.isub, 1) := by decide +kernel
theorem d_M_isPiece_9 : decode y_M_isPiece.2.1 9 = .ok (.i2l, 1) := by decide +kernel
theorem d_M_isPiece_10 : decode y_M_isPiece.2.1 10 = .ok (.invokestatic 222, 3) := by decide +kernel
theorem d_M_isPiece_13 : decode y_M_isPiece.2.1 13 = .ok (.ireturn, 1) := by decide +kernel
theorem d_M_act_0 : decode y_M_act.2.1 0 = .ok (.bipush 7, 2) := by decide +kernel
theorem d_M_act_2 : decode y_M_act.2.1 2 = .ok (.aload_n 0, 1) := by decide +kernel
theorem d_M_act_3 : decode y_M_act.2.1 3 = .ok (.getfield 231, 3) := by decide +kernel
theorem d_M_act_6 : decode y_M_act.2.1 6 = .ok (.imul, 1) := by decide +kernel
theorem d_M_act_7 : decode y_M_act.2.1 7 = .ok (.istore 8, 2) := by decide +kernel
theorem d_M_act_9 : decode y_M_act.2.1 9 = .ok (.aload_n 0, 1) := by decide +kernel
theorem d_M_act_10 : decode y_M_act.2.1 10 = .ok (.getfield 126, 3) := by decide +kernel
theorem d_M_act_13 : decode y_M_act.2.1 13 = .ok (.iload 8, 2) := by decide +kernel
theorem d_M_act_15 : decode y_M_act.2.1 15 = .ok (.iload_n 1, 1) := by decide +kernel
theorem d_M_act_16 : decode y_M_act.2.1 16 = .ok (.iastore, 1) := by decide +kernel
theorem d_M_act_17 : decode y_M_act.2.1 17 = .ok (.aload_n 0, 1) := by decide +kernel
theorem d_M_act_18 : decode y_M_act.2.1 18 = .ok (.getfield 126, 3) := by decide +kernel
theorem d_M_act_21 : decode y_M_act.2.1 21 = .ok (.iload 8, 2) := by decide +kernel
theorem d_M_act_23 : decode y_M_act.2.1 23 = .ok (.iconst 1, 1) := by decide +kernel
theorem d_M_act_24 : decode y_M_act.2.1 24 = .ok (.iadd, 1) := by decide +kernel
theorem d_M_act_25 : decode y_M_act.2.1 25 = .ok (.iload_n 2, 1) := by decide +kernel
theorem d_M_act_26 : decode y_M_act.2.1 26 = .ok (.iastore, 1) := by decide +kernel
theorem d_M_act_27 : decode y_M_act.2.1 27 = .ok (.aload_n 0, 1) := by decide +kernel
theorem d_M_act_28 : decode y_M_act.2.1 28 = .ok (.getfield 126, 3) := by decide +kernel
theorem d_M_act_31 : decode y_M_act.2.1 31 = .ok (.iload 8, 2) := by decide +kernel
theorem d_M_act_33 : decode y_M_act.2.1 33 = .ok (.iconst 2, 1) := by decide +kernel
theorem d_M_act_34 : decode y_M_act.2.1 34 = .ok (.iadd, 1) := by decide +kernel
theorem d_M_act_35 : decode y_M_act.2.1 35 = .ok (.iload_n 3, 1) := by decide +kernel
theorem d_M_act_36 : decode y_M_act.2.1 36 = .ok (.iastore, 1) := by decide +kernel
theorem d_M_act_37 : decode y_M_act.2.1 37 = .ok (.aload_n 0, 1) := by decide +kernel
theorem d_M_act_38 : decode y_M_act.2.1 38 = .ok (.getfield 126, 3) := by decide +kernel
theorem d_M_act_41 : decode y_M_act.2.1 41 = .ok (.iload 8, 2) := by decide +kernel
theorem d_M_act_43 : decode y_M_act.2.1 43 = .ok (.iconst 3, 1) := by decide +kernel
theorem d_M_act_44 : decode y_M_act.2.1 44 = .ok (.iadd, 1) := by decide +kernel
theorem d_M_act_45 : decode y_M_act.2.1 45 = .ok (.iload 4, 2) := by decide +kernel
theorem d_M_act_47 : decode y_M_act.2.1 47 = .ok (.iastore, 1) := by decide +kernel
theorem d_M_act_48 : decode y_M_act.2.1 48 = .ok (.aload_n 0, 1) := by decide +kernel
theorem d_M_act_49 : decode y_M_act.2.1 49 = .ok (.getfield 126, 3) := by decide +kernel
theorem d_M_act_52 : decode y_M_act.2.1 52 = .ok (.iload 8, 2) := by decide +kernel
theorem d_M_act_54 : decode y_M_act.2.1 54 = .ok (.iconst 4, 1) := by decide +kernel
theorem d_M_act_55 : decode y_M_act.2.1 55 = .ok (.iadd, 1) := by decide +kernel
theorem d_M_act_56 : decode y_M_act.2.1 56 = .ok (.iload 5, 2) := by decide +kernel
theorem d_M_act_58 : decode y_M_act.2.1 58 = .ok (.iastore, 1) := by decide +kernel
theorem d_M_act_59 : decode y_M_act.2.1 59 = .ok (.aload_n 0, 1) := by decide +kernel
theorem d_M_act_60 : decode y_M_act.2.1 60 = .ok (.getfield 126, 3) := by decide +kernel
theorem d_M_act_63 : decode y_M_act.2.1 63 = .ok (.iload 8, 2) := by decide +kernel
theorem d_M_act_65 : decode y_M_act.2.1 65 = .ok (.iconst 5, 1) := by decide +kernel
theorem d_M_act_66 : decode y_M_act.2.1 66 = .ok (.iadd, 1) := by decide +kernel
theorem d_M_act_67 : decode y_M_act.2.1 67 = .ok (.iload 6, 2) := by decide +kernel
theorem d_M_act_69 : decode y_M_act.2.1 69 = .ok (.iastore, 1) := by decide +kernel
theorem d_M_act_70 : decode y_M_act.2.1 70 = .ok (.aload_n 0, 1) := by decide +kernel
theorem d_M_act_71 : decode y_M_act.2.1 71 = .ok (.getfield 126, 3) := by decide +kernel
theorem d_M_act_74 : decode y_M_act.2.1 74 = .ok (.iload 8, 2) := by decide +kernel
theorem d_M_act_76 : decode y_M_act.2.1 76 = .ok (.bipush 6, 2) := by decide +kernel
theorem d_M_act_78 : decode y_M_act.2.1 78 = .ok (.iadd, 1) := by decide +kernel
theorem d_M_act_79 : decode y_M_act.2.1 79 = .ok (.iload 7, 2) := by decide +kernel
theorem d_M_act_81 : decode y_M_act.2.1 81 = .ok (.iastore, 1) := by decide +kernel
theorem d_M_act_82 : decode y_M_act.2.1 82 = .ok (.aload_n 0, 1) := by decide +kernel
theorem d_M_act_83 : decode y_M_act.2.1 83 = .ok (.aload_n 0, 1) := by decide +kernel
theorem d_M_act_84 : decode y_M_act.2.1 84 = .ok (.getfield 231, 3) := by decide +kernel
theorem d_M_act_87 : decode y_M_act.2.1 87 = .ok (.invokevirtual 234, 3) := by decide +kernel
theorem d_M_act_90 : decode y_M_act.2.1 90 = .ok (.aload_n 0, 1) := by decide +kernel
theorem d_M_act_91 : decode y_M_act.2.1 91 = .ok (.dup, 1) := by decide +kernel
theorem d_M_act_92 : decode y_M_act.2.1 92 = .ok (.getfield 231, 3) := by decide +kernel
theorem d_M_act_95 : decode y_M_act.2.1 95 = .ok (.iconst 1, 1) := by decide +kernel
theorem d_M_act_96 : decode y_M_act.2.1 96 = .ok (.iadd, 1) := by decide +kernel
theorem d_M_act_97 : decode y_M_act.2.1 97 = .ok (.putfield 231, 3) := by decide +kernel
theorem d_M_act_100 : decode y_M_act.2.1 100 = .ok (.aload_n 0, 1) := by decide +kernel
theorem d_M_act_101 : decode y_M_act.2.1 101 = .ok (.aload_n 0, 1) := by decide +kernel
theorem d_M_act_102 : decode y_M_act.2.1 102 = .ok (.getfield 231, 3) := by decide +kernel
theorem d_M_act_105 : decode y_M_act.2.1 105 = .ok (.putfield 238, 3) := by decide +kernel
theorem d_M_act_108 : decode y_M_act.2.1 108 = .ok (.aload_n 0, 1) := by decide +kernel
theorem d_M_act_109 : decode y_M_act.2.1 109 = .ok (.aload_n 0, 1) := by decide +kernel
theorem d_M_act_110 : decode y_M_act.2.1 110 = .ok (.getfield 241, 3) := by decide +kernel
theorem d_M_act_113 : decode y_M_act.2.1 113 = .ok (.aload_n 0, 1) := by decide +kernel
theorem d_M_act_114 : decode y_M_act.2.1 114 = .ok (.getfield 231, 3) := by decide +kernel
theorem d_M_act_117 : decode y_M_act.2.1 117 = .ok (.bipush 100, 2) := by decide +kernel
theorem d_M_act_119 : decode y_M_act.2.1 119 = .ok (.isub, 1) := by decide +kernel
theorem d_M_act_120 : decode y_M_act.2.1 120 = .ok (.invokestatic 244, 3) := by decide +kernel
theorem d_M_act_123 : decode y_M_act.2.1 123 = .ok (.putfield 241, 3) := by decide +kernel
theorem d_M_act_126 : decode y_M_act.2.1 126 = .ok (.return_, 1) := by decide +kernel
theorem d_M_does_0 : decode y_M_does.2.1 0 = .ok (.bipush 7, 2) := by decide +kernel
theorem d_M_does_2 : decode y_M_does.2.1 2 = .ok (.iload_n 1, 1) := by decide +kernel
theorem d_M_does_3 : decode y_M_does.2.1 3 = .ok (.imul, 1) := by decide +kernel
theorem d_M_does_4 : decode y_M_does.2.1 4 = .ok (.istore_n 2, 1) := by decide +kernel
theorem d_M_does_5 : decode y_M_does.2.1 5 = .ok (.aload_n 0, 1) := by decide +kernel
theorem d_M_does_6 : decode y_M_does.2.1 6 = .ok (.getfield 126, 3) := by decide +kernel
theorem d_M_does_9 : decode y_M_does.2.1 9 = .ok (.iload_n 2, 1) := by decide +kernel
theorem d_M_does_10 : decode y_M_does.2.1 10 = .ok (.iconst 1, 1) := by decide +kernel
theorem d_M_does_11 : decode y_M_does.2.1 11 = .ok (.iadd, 1) := by decide +kernel
theorem d_M_does_12 : decode y_M_does.2.1 12 = .ok (.iaload, 1) := by decide +kernel
theorem d_M_does_13 : decode y_M_does.2.1 13 = .ok (.istore_n 3, 1) := by decide +kernel
theorem d_M_does_14 : decode y_M_does.2.1 14 = .ok (.aload_n 0, 1) := by decide +kernel
theorem d_M_does_15 : decode y_M_does.2.1 15 = .ok (.getfield 126, 3) := by decide +kernel
theorem d_M_does_18 : decode y_M_does.2.1 18 = .ok (.iload_n 2, 1) := by decide +kernel
theorem d_M_does_19 : decode y_M_does.2.1 19 = .ok (.iconst 2, 1) := by decide +kernel
theorem d_M_does_20 : decode y_M_does.2.1 20 = .ok (.iadd, 1) := by decide +kernel
theorem d_M_does_21 : decode y_M_does.2.1 21 = .ok (.iaload, 1) := by decide +kernel
theorem d_M_does_22 : decode y_M_does.2.1 22 = .ok (.istore 4, 2) := by decide +kernel
theorem d_M_does_24 : decode y_M_does.2.1 24 = .ok (.aload_n 0, 1) := by decide +kernel
theorem d_M_does_25 : decode y_M_does.2.1 25 = .ok (.getfield 126, 3) := by decide +kernel
theorem d_M_does_28 : decode y_M_does.2.1 28 = .ok (.iload_n 2, 1) := by decide +kernel
theorem d_M_does_29 : decode y_M_does.2.1 29 = .ok (.iconst 3, 1) := by decide +kernel
theorem d_M_does_30 : decode y_M_does.2.1 30 = .ok (.iadd, 1) := by decide +kernel
theorem d_M_does_31 : decode y_M_does.2.1 31 = .ok (.iaload, 1) := by decide +kernel
theorem d_M_does_32 : decode y_M_does.2.1 32 = .ok (.istore 5, 2) := by decide +kernel
theorem d_M_does_34 : decode y_M_does.2.1 34 = .ok (.aload_n 0, 1) := by decide +kernel
theorem d_M_does_35 : decode y_M_does.2.1 35 = .ok (.getfield 126, 3) := by decide +kernel
theorem d_M_does_38 : decode y_M_does.2.1 38 = .ok (.iload_n 2, 1) := by decide +kernel
theorem d_M_does_39 : decode y_M_does.2.1 39 = .ok (.iconst 4, 1) := by decide +kernel
theorem d_M_does_40 : decode y_M_does.2.1 40 = .ok (.iadd, 1) := by decide +kernel
theorem d_M_does_41 : decode y_M_does.2.1 41 = .ok (.iaload, 1) := by decide +kernel
theorem d_M_does_42 : decode y_M_does.2.1 42 = .ok (.istore 6, 2) := by decide +kernel
theorem d_M_does_44 : decode y_M_does.2.1 44 = .ok (.aload_n 0, 1) := by decide +kernel
theorem d_M_does_45 : decode y_M_does.2.1 45 = .ok (.getfield 126, 3) := by decide +kernel
theorem d_M_does_48 : decode y_M_does.2.1 48 = .ok (.iload_n 2, 1) := by decide +kernel
theorem d_M_does_49 : decode y_M_does.2.1 49 = .ok (.iaload, 1) := by decide +kernel
theorem d_M_does_50 : decode y_M_does.2.1 50 = .ok (.tableswitch 443 0 8 #[50, 95, 168, 179, 270, 326, 382, 390, 435], 50) := by decide +kernel
theorem d_M_does_100 : decode y_M_does.2.1 100 = .ok (.aload_n 0, 1) := by decide +kernel
theorem d_M_does_101 : decode y_M_does.2.1 101 = .ok (.getfield 22, 3) := by decide +kernel
theorem d_M_does_104 : decode y_M_does.2.1 104 = .ok (.aload_n 0, 1) := by decide +kernel
theorem d_M_does_105 : decode y_M_does.2.1 105 = .ok (.getfield 228, 3) := by decide +kernel
theorem d_M_does_108 : decode y_M_does.2.1 108 = .ok (.iload_n 3, 1) := by decide +kernel
theorem d_M_does_109 : decode y_M_does.2.1 109 = .ok (.iastore, 1) := by decide +kernel
theorem d_M_does_110 : decode y_M_does.2.1 110 = .ok (.aload_n 0, 1) := by decide +kernel
theorem d_M_does_111 : decode y_M_does.2.1 111 = .ok (.getfield 26, 3) := by decide +kernel
theorem d_M_does_114 : decode y_M_does.2.1 114 = .ok (.aload_n 0, 1) := by decide +kernel
theorem d_M_does_115 : decode y_M_does.2.1 115 = .ok (.getfield 228, 3) := by decide +kernel
theorem d_M_does_118 : decode y_M_does.2.1 118 = .ok (.iload 4, 2) := by decide +kernel
theorem d_M_does_120 : decode y_M_does.2.1 120 = .ok (.iastore, 1) := by decide +kernel
theorem d_M_does_121 : decode y_M_does.2.1 121 = .ok (.aload_n 0, 1) := by decide +kernel
theorem d_M_does_122 : decode y_M_does.2.1 122 = .ok (.getfield 29, 3) := by decide +kernel
theorem d_M_does_125 : decode y_M_does.2.1 125 = .ok (.aload_n 0, 1) := by decide +kernel
theorem d_M_does_126 : decode y_M_does.2.1 126 = .ok (.getfield 228, 3) := by decide +kernel
theorem d_M_does_129 : decode y_M_does.2.1 129 = .ok (.bipush 21, 2) := by decide +kernel
theorem d_M_does_131 : decode y_M_does.2.1 131 = .ok (.iastore, 1) := by decide +kernel
theorem d_M_does_132 : decode y_M_does.2.1 132 = .ok (.aload_n 0, 1) := by decide +kernel
theorem d_M_does_133 : decode y_M_does.2.1 133 = .ok (.dup, 1) := by decide +kernel
theorem d_M_does_134 : decode y_M_does.2.1 134 = .ok (.getfield 228, 3) := by decide +kernel
theorem d_M_does_137 : decode y_M_does.2.1 137 = .ok (.iconst 1, 1) := by decide +kernel
theorem d_M_does_138 : decode y_M_does.2.1 138 = .ok (.iadd, 1) := by decide +kernel
theorem d_M_does_139 : decode y_M_does.2.1 139 = .ok (.putfield 228, 3) := by decide +kernel
theorem d_M_does_142 : decode y_M_does.2.1 142 = .ok (.goto 366, 3) := by decide +kernel
theorem d_M_does_145 : decode y_M_does.2.1 145 = .ok (.aload_n 0, 1) := by decide +kernel
theorem d_M_does_146 : decode y_M_does.2.1 146 = .ok (.getfield 32, 3) := by decide +kernel
theorem d_M_does_149 : decode y_M_does.2.1 149 = .ok (.aload_n 0, 1) := by decide +kernel
theorem d_M_does_150 : decode y_M_does.2.1 150 = .ok (.getfield 250, 3) := by decide +kernel
theorem d_M_does_153 : decode y_M_does.2.1 153 = .ok (.iload_n 3, 1) := by decide +kernel
theorem d_M_does_154 : decode y_M_does.2.1 154 = .ok (.iastore, 1) := by decide +kernel
theorem d_M_does_155 : decode y_M_does.2.1 155 = .ok (.aload_n 0, 1) := by decide +kernel
theorem d_M_does_156 : decode y_M_does.2.1 156 = .ok (.getfield 35, 3) := by decide +kernel
theorem d_M_does_159 : decode y_M_does.2.1 159 = .ok (.aload_n 0, 1) := by decide +kernel
theorem d_M_does_160 : decode y_M_does.2.1 160 = .ok (.getfield 250, 3) := by decide +kernel
theorem d_M_does_163 : decode y_M_does.2.1 163 = .ok (.iload 4, 2) := by decide +kernel
theorem d_M_does_165 : decode y_M_does.2.1 165 = .ok (.iastore, 1) := by decide +kernel
theorem d_M_does_166 : decode y_M_does.2.1 166 = .ok (.aload_n 0, 1) := by decide +kernel
theorem d_M_does_167 : decode y_M_does.2.1 167 = .ok (.getfield 38, 3) := by decide +kernel
theorem d_M_does_170 : decode y_M_does.2.1 170 = .ok (.aload_n 0, 1) := by decide +kernel
theorem d_M_does_171 : decode y_M_does.2.1 171 = .ok (.getfield 250, 3) := by decide +kernel
theorem d_M_does_174 : decode y_M_does.2.1 174 = .ok (.iload 5, 2) := by decide +kernel
theorem d_M_does_176 : decode y_M_does.2.1 176 = .ok (.iastore, 1) := by decide +kernel
theorem d_M_does_177 : decode y_M_does.2.1 177 = .ok (.aload_n 0, 1) := by decide +kernel
theorem d_M_does_178 : decode y_M_does.2.1 178 = .ok (.getfield 41, 3) := by decide +kernel
theorem d_M_does_181 : decode y_M_does.2.1 181 = .ok (.aload_n 0, 1) := by decide +kernel
theorem d_M_does_182 : decode y_M_does.2.1 182 = .ok (.getfield 250, 3) := by decide +kernel
theorem d_M_does_185 : decode y_M_does.2.1 185 = .ok (.iload 6, 2) := by decide +kernel
theorem d_M_does_187 : decode y_M_does.2.1 187 = .ok (.iastore, 1) := by decide +kernel
theorem d_M_does_188 : decode y_M_does.2.1 188 = .ok (.aload_n 0, 1) := by decide +kernel
theorem d_M_does_189 : decode y_M_does.2.1 189 = .ok (.getfield 44, 3) := by decide +kernel
theorem d_M_does_192 : decode y_M_does.2.1 192 = .ok (.aload_n 0, 1) := by decide +kernel
theorem d_M_does_193 : decode y_M_does.2.1 193 = .ok (.getfield 250, 3) := by decide +kernel
theorem d_M_does_196 : decode y_M_does.2.1 196 = .ok (.aload_n 0, 1) := by decide +kernel
theorem d_M_does_197 : decode y_M_does.2.1 197 = .ok (.getfield 126, 3) := by decide +kernel
theorem d_M_does_200 : decode y_M_does.2.1 200 = .ok (.iload_n 2, 1) := by decide +kernel
theorem d_M_does_201 : decode y_M_does.2.1 201 = .ok (.iconst 5, 1) := by decide +kernel
theorem d_M_does_202 : decode y_M_does.2.1 202 = .ok (.iadd, 1) := by decide +kernel
theorem d_M_does_203 : decode y_M_does.2.1 203 = .ok (.iaload, 1) := by decide +kernel
theorem d_M_does_204 : decode y_M_does.2.1 204 = .ok (.iastore, 1) := by decide +kernel
theorem d_M_does_205 : decode y_M_does.2.1 205 = .ok (.aload_n 0, 1) := by decide +kernel
theorem d_M_does_206 : decode y_M_does.2.1 206 = .ok (.dup, 1) := by decide +kernel
theorem d_M_does_207 : decode y_M_does.2.1 207 = .ok (.getfield 250, 3) := by decide +kernel
theorem d_M_does_210 : decode y_M_does.2.1 210 = .ok (.iconst 1, 1) := by decide +kernel
theorem d_M_does_211 : decode y_M_does.2.1 211 = .ok (.iadd, 1) := by decide +kernel
theorem d_M_does_212 : decode y_M_does.2.1 212 = .ok (.putfield 250, 3) := by decide +kernel
theorem d_M_does_215 : decode y_M_does.2.1 215 = .ok (.goto 293, 3) := by decide +kernel
theorem d_M_does_218 : decode y_M_does.2.1 218 = .ok (.aload_n 0, 1) := by decide +kernel
theorem d_M_does_219 : decode y_M_does.2.1 219 = .ok (.getfield 29, 3) := by decide +kernel
theorem d_M_does_222 : decode y_M_does.2.1 222 = .ok (.iload_n 3, 1) := by decide +kernel
theorem d_M_does_223 : decode y_M_does.2.1 223 = .ok (.iload 4, 2) := by decide +kernel
theorem d_M_does_225 : decode y_M_does.2.1 225 = .ok (.iastore, 1) := by decide +kernel
theorem d_M_does_226 : decode y_M_does.2.1 226 = .ok (.goto 282, 3) := by decide +kernel
theorem d_M_does_229 : decode y_M_does.2.1 229 = .ok (.aload_n 0, 1) := by decide +kernel
theorem d_M_does_230 : decode y_M_does.2.1 230 = .ok (.getfield 47, 3) := by decide +kernel
theorem d_M_does_233 : decode y_M_does.2.1 233 = .ok (.aload_n 0, 1) := by decide +kernel
theorem d_M_does_234 : decode y_M_does.2.1 234 = .ok (.getfield 253, 3) := by decide +kernel
theorem d_M_does_237 : decode y_M_does.2.1 237 = .ok (.iload_n 3, 1) := by decide +kernel
theorem d_M_does_238 : decode y_M_does.2.1 238 = .ok (.iastore, 1) := by decide +kernel
theorem d_M_does_239 : decode y_M_does.2.1 239 = .ok (.aload_n 0, 1) := by decide +kernel
theorem d_M_does_240 : decode y_M_does.2.1 240 = .ok (.getfield 50, 3) := by decide +kernel
theorem d_M_does_243 : decode y_M_does.2.1 243 = .ok (.aload_n 0, 1) := by decide +kernel
theorem d_M_does_244 : decode y_M_does.2.1 244 = .ok (.getfield 253, 3) := by decide +kernel
theorem d_M_does_247 : decode y_M_does.2.1 247 = .ok (.iload 4, 2) := by decide +kernel
theorem d_M_does_249 : decode y_M_does.2.1 249 = .ok (.iastore, 1) := by decide +kernel
theorem d_M_does_250 : decode y_M_does.2.1 250 = .ok (.aload_n 0, 1) := by decide +kernel
theorem d_M_does_251 : decode y_M_does.2.1 251 = .ok (.getfield 53, 3) := by decide +kernel
theorem d_M_does_254 : decode y_M_does.2.1 254 = .ok (.aload_n 0, 1) := by decide +kernel
theorem d_M_does_255 : decode y_M_does.2.1 255 = .ok (.getfield 253, 3) := by decide +kernel
theorem d_M_does_258 : decode y_M_does.2.1 258 = .ok (.iload 5, 2) := by decide +kernel
theorem d_M_does_260 : decode y_M_does.2.1 260 = .ok (.iastore, 1) := by decide +kernel
theorem d_M_does_261 : decode y_M_does.2.1 261 = .ok (.aload_n 0, 1) := by decide +kernel
theorem d_M_does_262 : decode y_M_does.2.1 262 = .ok (.getfield 56, 3) := by decide +kernel
theorem d_M_does_265 : decode y_M_does.2.1 265 = .ok (.aload_n 0, 1) := by decide +kernel
theorem d_M_does_266 : decode y_M_does.2.1 266 = .ok (.getfield 253, 3) := by decide +kernel
theorem d_M_does_269 : decode y_M_does.2.1 269 = .ok (.iload 6, 2) := by decide +kernel
theorem d_M_does_271 : decode y_M_does.2.1 271 = .ok (.iastore, 1) := by decide +kernel
theorem d_M_does_272 : decode y_M_does.2.1 272 = .ok (.aload_n 0, 1) := by decide +kernel
theorem d_M_does_273 : decode y_M_does.2.1 273 = .ok (.getfield 59, 3) := by decide +kernel
theorem d_M_does_276 : decode y_M_does.2.1 276 = .ok (.aload_n 0, 1) := by decide +kernel
theorem d_M_does_277 : decode y_M_does.2.1 277 = .ok (.getfield 253, 3) := by decide +kernel
theorem d_M_does_280 : decode y_M_does.2.1 280 = .ok (.aload_n 0, 1) := by decide +kernel
theorem d_M_does_281 : decode y_M_does.2.1 281 = .ok (.getfield 126, 3) := by decide +kernel
theorem d_M_does_284 : decode y_M_does.2.1 284 = .ok (.iload_n 2, 1) := by decide +kernel
theorem d_M_does_285 : decode y_M_does.2.1 285 = .ok (.iconst 5, 1) := by decide +kernel
theorem d_M_does_286 : decode y_M_does.2.1 286 = .ok (.iadd, 1) := by decide +kernel
theorem d_M_does_287 : decode y_M_does.2.1 287 = .ok (.iaload, 1) := by decide +kernel
theorem d_M_does_288 : decode y_M_does.2.1 288 = .ok (.iastore, 1) := by decide +kernel
theorem d_M_does_289 : decode y_M_does.2.1 289 = .ok (.aload_n 0, 1) := by decide +kernel
theorem d_M_does_290 : decode y_M_does.2.1 290 = .ok (.getfield 62, 3) := by decide +kernel
theorem d_M_does_293 : decode y_M_does.2.1 293 = .ok (.aload_n 0, 1) := by decide +kernel
theorem d_M_does_294 : decode y_M_does.2.1 294 = .ok (.getfield 253, 3) := by decide +kernel
theorem d_M_does_297 : decode y_M_does.2.1 297 = .ok (.aload_n 0, 1) := by decide +kernel
theorem d_M_does_298 : decode y_M_does.2.1 298 = .ok (.getfield 126, 3) := by decide +kernel
theorem d_M_does_301 : decode y_M_does.2.1 301 = .ok (.iload_n 2, 1) := by decide +kernel
theorem d_M_does_302 : decode y_M_does.2.1 302 = .ok (.bipush 6, 2) := by decide +kernel
theorem d_M_does_304 : decode y_M_does.2.1 304 = .ok (.iadd, 1) := by decide +kernel
theorem d_M_does_305 : decode y_M_does.2.1 305 = .ok (.iaload, 1) := by decide +kernel
theorem d_M_does_306 : decode y_M_does.2.1 306 = .ok (.iastore, 1) := by decide +kernel
theorem d_M_does_307 : decode y_M_does.2.1 307 = .ok (.aload_n 0, 1) := by decide +kernel
theorem d_M_does_308 : decode y_M_does.2.1 308 = .ok (.dup, 1) := by decide +kernel
theorem d_M_does_309 : decode y_M_does.2.1 309 = .ok (.getfield 253, 3) := by decide +kernel
theorem d_M_does_312 : decode y_M_does.2.1 312 = .ok (.iconst 1, 1) := by decide +kernel
theorem d_M_does_313 : decode y_M_does.2.1 313 = .ok (.iadd, 1) := by decide +kernel
theorem d_M_does_314 : decode y_M_does.2.1 314 = .ok (.putfield 253, 3) := by decide +kernel
theorem d_M_does_317 : decode y_M_does.2.1 317 = .ok (.goto 191, 3) := by decide +kernel
theorem d_M_does_320 : decode y_M_does.2.1 320 = .ok (.aload_n 0, 1) := by decide +kernel
theorem d_M_does_321 : decode y_M_does.2.1 321 = .ok (.getfield 65, 3) := by decide +kernel
theorem d_M_does_324 : decode y_M_does.2.1 324 = .ok (.aload_n 0, 1) := by decide +kernel
theorem d_M_does_325 : decode y_M_does.2.1 325 = .ok (.getfield 256, 3) := by decide +kernel
theorem d_M_does_328 : decode y_M_does.2.1 328 = .ok (.iload_n 3, 1) := by decide +kernel
theorem d_M_does_329 : decode y_M_does.2.1 329 = .ok (.iastore, 1) := by decide +kernel
theorem d_M_does_330 : decode y_M_does.2.1 330 = .ok (.aload_n 0, 1) := by decide +kernel
theorem d_M_does_331 : decode y_M_does.2.1 331 = .ok (.getfield 68, 3) := by decide +kernel
theorem d_M_does_334 : decode y_M_does.2.1 334 = .ok (.aload_n 0, 1) := by decide +kernel
theorem d_M_does_335 : decode y_M_does.2.1 335 = .ok (.getfield 256, 3) := by decide +kernel
theorem d_M_does_338 : decode y_M_does.2.1 338 = .ok (.iload 4, 2) := by decide +kernel
theorem d_M_does_340 : decode y_M_does.2.1 340 = .ok (.iastore, 1) := by decide +kernel
theorem d_M_does_341 : decode y_M_does.2.1 341 = .ok (.aload_n 0, 1) := by decide +kernel
theorem d_M_does_342 : decode y_M_does.2.1 342 = .ok (.getfield 71, 3) := by decide +kernel
theorem d_M_does_345 : decode y_M_does.2.1 345 = .ok (.aload_n 0, 1) := by decide +kernel
theorem d_M_does_346 : decode y_M_does.2.1 346 = .ok (.getfield 256, 3) := by decide +kernel
theorem d_M_does_349 : decode y_M_does.2.1 349 = .ok (.iload 5, 2) := by decide +kernel
theorem d_M_does_351 : decode y_M_does.2.1 351 = .ok (.iastore, 1) := by decide +kernel
theorem d_M_does_352 : decode y_M_does.2.1 352 = .ok (.aload_n 0, 1) := by decide +kernel
theorem d_M_does_353 : decode y_M_does.2.1 353 = .ok (.getfield 74, 3) := by decide +kernel
theorem d_M_does_356 : decode y_M_does.2.1 356 = .ok (.aload_n 0, 1) := by decide +kernel
theorem d_M_does_357 : decode y_M_does.2.1 357 = .ok (.getfield 256, 3) := by decide +kernel
theorem d_M_does_360 : decode y_M_does.2.1 360 = .ok (.iload 6, 2) := by decide +kernel
theorem d_M_does_362 : decode y_M_does.2.1 362 = .ok (.iastore, 1) := by decide +kernel
theorem d_M_does_363 : decode y_M_does.2.1 363 = .ok (.aload_n 0, 1) := by decide +kernel
theorem d_M_does_364 : decode y_M_does.2.1 364 = .ok (.dup, 1) := by decide +kernel
theorem d_M_does_365 : decode y_M_does.2.1 365 = .ok (.getfield 256, 3) := by decide +kernel
theorem d_M_does_368 : decode y_M_does.2.1 368 = .ok (.iconst 1, 1) := by decide +kernel
theorem d_M_does_369 : decode y_M_does.2.1 369 = .ok (.iadd, 1) := by decide +kernel
theorem d_M_does_370 : decode y_M_does.2.1 370 = .ok (.putfield 256, 3) := by decide +kernel
theorem d_M_does_373 : decode y_M_does.2.1 373 = .ok (.goto 135, 3) := by decide +kernel
theorem d_M_does_376 : decode y_M_does.2.1 376 = .ok (.aload_n 0, 1) := by decide +kernel
theorem d_M_does_377 : decode y_M_does.2.1 377 = .ok (.getfield 77, 3) := by decide +kernel
theorem d_M_does_380 : decode y_M_does.2.1 380 = .ok (.aload_n 0, 1) := by decide +kernel
theorem d_M_does_381 : decode y_M_does.2.1 381 = .ok (.getfield 259, 3) := by decide +kernel
theorem d_M_does_384 : decode y_M_does.2.1 384 = .ok (.iload_n 3, 1) := by decide +kernel
theorem d_M_does_385 : decode y_M_does.2.1 385 = .ok (.iastore, 1) := by decide +kernel
theorem d_M_does_386 : decode y_M_does.2.1 386 = .ok (.aload_n 0, 1) := by decide +kernel
theorem d_M_does_387 : decode y_M_does.2.1 387 = .ok (.getfield 80, 3) := by decide +kernel
theorem d_M_does_390 : decode y_M_does.2.1 390 = .ok (.aload_n 0, 1) := by decide +kernel
theorem d_M_does_391 : decode y_M_does.2.1 391 = .ok (.getfield 259, 3) := by decide +kernel
theorem d_M_does_394 : decode y_M_does.2.1 394 = .ok (.iload 4, 2) := by decide +kernel
theorem d_M_does_396 : decode y_M_does.2.1 396 = .ok (.iastore, 1) := by decide +kernel
theorem d_M_does_397 : decode y_M_does.2.1 397 = .ok (.aload_n 0, 1) := by decide +kernel
theorem d_M_does_398 : decode y_M_does.2.1 398 = .ok (.getfield 83, 3) := by decide +kernel
theorem d_M_does_401 : decode y_M_does.2.1 401 = .ok (.aload_n 0, 1) := by decide +kernel
theorem d_M_does_402 : decode y_M_does.2.1 402 = .ok (.getfield 259, 3) := by decide +kernel
theorem d_M_does_405 : decode y_M_does.2.1 405 = .ok (.iload 5, 2) := by decide +kernel
theorem d_M_does_407 : decode y_M_does.2.1 407 = .ok (.iastore, 1) := by decide +kernel
theorem d_M_does_408 : decode y_M_does.2.1 408 = .ok (.aload_n 0, 1) := by decide +kernel
theorem d_M_does_409 : decode y_M_does.2.1 409 = .ok (.getfield 86, 3) := by decide +kernel
theorem d_M_does_412 : decode y_M_does.2.1 412 = .ok (.aload_n 0, 1) := by decide +kernel
theorem d_M_does_413 : decode y_M_does.2.1 413 = .ok (.getfield 259, 3) := by decide +kernel
theorem d_M_does_416 : decode y_M_does.2.1 416 = .ok (.iload 6, 2) := by decide +kernel
theorem d_M_does_418 : decode y_M_does.2.1 418 = .ok (.iastore, 1) := by decide +kernel
theorem d_M_does_419 : decode y_M_does.2.1 419 = .ok (.aload_n 0, 1) := by decide +kernel
theorem d_M_does_420 : decode y_M_does.2.1 420 = .ok (.dup, 1) := by decide +kernel
theorem d_M_does_421 : decode y_M_does.2.1 421 = .ok (.getfield 259, 3) := by decide +kernel
theorem d_M_does_424 : decode y_M_does.2.1 424 = .ok (.iconst 1, 1) := by decide +kernel
theorem d_M_does_425 : decode y_M_does.2.1 425 = .ok (.iadd, 1) := by decide +kernel
theorem d_M_does_426 : decode y_M_does.2.1 426 = .ok (.putfield 259, 3) := by decide +kernel
theorem d_M_does_429 : decode y_M_does.2.1 429 = .ok (.goto 79, 3) := by decide +kernel
theorem d_M_does_432 : decode y_M_does.2.1 432 = .ok (.aload_n 0, 1) := by decide +kernel
theorem d_M_does_433 : decode y_M_does.2.1 433 = .ok (.iload_n 3, 1) := by decide +kernel
theorem d_M_does_434 : decode y_M_does.2.1 434 = .ok (.putfield 7, 3) := by decide +kernel
theorem d_M_does_437 : decode y_M_does.2.1 437 = .ok (.goto 71, 3) := by decide +kernel
theorem d_M_does_440 : decode y_M_does.2.1 440 = .ok (.aload_n 0, 1) := by decide +kernel
theorem d_M_does_441 : decode y_M_does.2.1 441 = .ok (.getfield 89, 3) := by decide +kernel
theorem d_M_does_444 : decode y_M_does.2.1 444 = .ok (.aload_n 0, 1) := by decide +kernel
theorem d_M_does_445 : decode y_M_does.2.1 445 = .ok (.getfield 262, 3) := by decide +kernel
theorem d_M_does_448 : decode y_M_does.2.1 448 = .ok (.iload_n 3, 1) := by decide +kernel
theorem d_M_does_449 : decode y_M_does.2.1 449 = .ok (.iastore, 1) := by decide +kernel
theorem d_M_does_450 : decode y_M_does.2.1 450 = .ok (.aload_n 0, 1) := by decide +kernel
theorem d_M_does_451 : decode y_M_does.2.1 451 = .ok (.getfield 92, 3) := by decide +kernel
theorem d_M_does_454 : decode y_M_does.2.1 454 = .ok (.aload_n 0, 1) := by decide +kernel
theorem d_M_does_455 : decode y_M_does.2.1 455 = .ok (.getfield 262, 3) := by decide +kernel
theorem d_M_does_458 : decode y_M_does.2.1 458 = .ok (.iload 4, 2) := by decide +kernel
theorem d_M_does_460 : decode y_M_does.2.1 460 = .ok (.iastore, 1) := by decide +kernel
theorem d_M_does_461 : decode y_M_does.2.1 461 = .ok (.aload_n 0, 1) := by decide +kernel
theorem d_M_does_462 : decode y_M_does.2.1 462 = .ok (.getfield 95, 3) := by decide +kernel
theorem d_M_does_465 : decode y_M_does.2.1 465 = .ok (.aload_n 0, 1) := by decide +kernel
theorem d_M_does_466 : decode y_M_does.2.1 466 = .ok (.getfield 262, 3) := by decide +kernel
theorem d_M_does_469 : decode y_M_does.2.1 469 = .ok (.iload 5, 2) := by decide +kernel
theorem d_M_does_471 : decode y_M_does.2.1 471 = .ok (.iastore, 1) := by decide +kernel
theorem d_M_does_472 : decode y_M_does.2.1 472 = .ok (.aload_n 0, 1) := by decide +kernel
theorem d_M_does_473 : decode y_M_does.2.1 473 = .ok (.dup, 1) := by decide +kernel
theorem d_M_does_474 : decode y_M_does.2.1 474 = .ok (.getfield 262, 3) := by decide +kernel
theorem d_M_does_477 : decode y_M_does.2.1 477 = .ok (.iconst 1, 1) := by decide +kernel
theorem d_M_does_478 : decode y_M_does.2.1 478 = .ok (.iadd, 1) := by decide +kernel
theorem d_M_does_479 : decode y_M_does.2.1 479 = .ok (.putfield 262, 3) := by decide +kernel
theorem d_M_does_482 : decode y_M_does.2.1 482 = .ok (.goto 26, 3) := by decide +kernel
theorem d_M_does_485 : decode y_M_does.2.1 485 = .ok (.aload_n 0, 1) := by decide +kernel
theorem d_M_does_486 : decode y_M_does.2.1 486 = .ok (.iload_n 3, 1) := by decide +kernel
theorem d_M_does_487 : decode y_M_does.2.1 487 = .ok (.putfield 13, 3) := by decide +kernel
theorem d_M_does_490 : decode y_M_does.2.1 490 = .ok (.goto 18, 3) := by decide +kernel
theorem d_M_does_493 : decode y_M_does.2.1 493 = .ok (.aload_n 0, 1) := by decide +kernel
theorem d_M_does_494 : decode y_M_does.2.1 494 = .ok (.aload_n 0, 1) := by decide +kernel
theorem d_M_does_495 : decode y_M_does.2.1 495 = .ok (.getfield 126, 3) := by decide +kernel
theorem d_M_does_498 : decode y_M_does.2.1 498 = .ok (.iload_n 2, 1) := by decide +kernel
theorem d_M_does_499 : decode y_M_does.2.1 499 = .ok (.iaload, 1) := by decide +kernel
theorem d_M_does_500 : decode y_M_does.2.1 500 = .ok (.iload_n 3, 1) := by decide +kernel
theorem d_M_does_501 : decode y_M_does.2.1 501 = .ok (.iload 4, 2) := by decide +kernel
theorem d_M_does_503 : decode y_M_does.2.1 503 = .ok (.iload 5, 2) := by decide +kernel
theorem d_M_does_505 : decode y_M_does.2.1 505 = .ok (.invokevirtual 265, 3) := by decide +kernel
theorem d_M_does_508 : decode y_M_does.2.1 508 = .ok (.return_, 1) := by decide +kernel
theorem d_M_doesMore_0 : decode y_M_doesMore.2.1 0 = .ok (.iload_n 1, 1) := by decide +kernel
theorem d_M_doesMore_1 : decode y_M_doesMore.2.1 1 = .ok (.tableswitch 156 9 12 #[31, 85, 104, 123], 31) := by decide +kernel
theorem d_M_doesMore_32 : decode y_M_doesMore.2.1 32 = .ok (.aload_n 0, 1) := by decide +kernel
theorem d_M_doesMore_33 : decode y_M_doesMore.2.1 33 = .ok (.getfield 98, 3) := by decide +kernel
theorem d_M_doesMore_36 : decode y_M_doesMore.2.1 36 = .ok (.aload_n 0, 1) := by decide +kernel
theorem d_M_doesMore_37 : decode y_M_doesMore.2.1 37 = .ok (.getfield 269, 3) := by decide +kernel
theorem d_M_doesMore_40 : decode y_M_doesMore.2.1 40 = .ok (.iload_n 2, 1) := by decide +kernel
theorem d_M_doesMore_41 : decode y_M_doesMore.2.1 41 = .ok (.iastore, 1) := by decide +kernel
theorem d_M_doesMore_42 : decode y_M_doesMore.2.1 42 = .ok (.aload_n 0, 1) := by decide +kernel
theorem d_M_doesMore_43 : decode y_M_doesMore.2.1 43 = .ok (.getfield 101, 3) := by decide +kernel
theorem d_M_doesMore_46 : decode y_M_doesMore.2.1 46 = .ok (.aload_n 0, 1) := by decide +kernel
theorem d_M_doesMore_47 : decode y_M_doesMore.2.1 47 = .ok (.getfield 269, 3) := by decide +kernel
theorem d_M_doesMore_50 : decode y_M_doesMore.2.1 50 = .ok (.iload_n 3, 1) := by decide +kernel
theorem d_M_doesMore_51 : decode y_M_doesMore.2.1 51 = .ok (.iastore, 1) := by decide +kernel
theorem d_M_doesMore_52 : decode y_M_doesMore.2.1 52 = .ok (.aload_n 0, 1) := by decide +kernel
theorem d_M_doesMore_53 : decode y_M_doesMore.2.1 53 = .ok (.getfield 104, 3) := by decide +kernel
theorem d_M_doesMore_56 : decode y_M_doesMore.2.1 56 = .ok (.aload_n 0, 1) := by decide +kernel
theorem d_M_doesMore_57 : decode y_M_doesMore.2.1 57 = .ok (.getfield 269, 3) := by decide +kernel
theorem d_M_doesMore_60 : decode y_M_doesMore.2.1 60 = .ok (.iload 4, 2) := by decide +kernel
theorem d_M_doesMore_62 : decode y_M_doesMore.2.1 62 = .ok (.iastore, 1) := by decide +kernel
theorem d_M_doesMore_63 : decode y_M_doesMore.2.1 63 = .ok (.aload_n 0, 1) := by decide +kernel
theorem d_M_doesMore_64 : decode y_M_doesMore.2.1 64 = .ok (.getfield 107, 3) := by decide +kernel
theorem d_M_doesMore_67 : decode y_M_doesMore.2.1 67 = .ok (.aload_n 0, 1) := by decide +kernel
theorem d_M_doesMore_68 : decode y_M_doesMore.2.1 68 = .ok (.getfield 269, 3) := by decide +kernel
theorem d_M_doesMore_71 : decode y_M_doesMore.2.1 71 = .ok (.iconst 0, 1) := by decide +kernel
theorem d_M_doesMore_72 : decode y_M_doesMore.2.1 72 = .ok (.bastore, 1) := by decide +kernel
theorem d_M_doesMore_73 : decode y_M_doesMore.2.1 73 = .ok (.aload_n 0, 1) := by decide +kernel
theorem d_M_doesMore_74 : decode y_M_doesMore.2.1 74 = .ok (.dup, 1) := by decide +kernel
theorem d_M_doesMore_75 : decode y_M_doesMore.2.1 75 = .ok (.getfield 269, 3) := by decide +kernel
theorem d_M_doesMore_78 : decode y_M_doesMore.2.1 78 = .ok (.iconst 1, 1) := by decide +kernel
theorem d_M_doesMore_79 : decode y_M_doesMore.2.1 79 = .ok (.iadd, 1) := by decide +kernel
theorem d_M_doesMore_80 : decode y_M_doesMore.2.1 80 = .ok (.putfield 269, 3) := by decide +kernel
theorem d_M_doesMore_83 : decode y_M_doesMore.2.1 83 = .ok (.goto 115, 3) := by decide +kernel
theorem d_M_doesMore_86 : decode y_M_doesMore.2.1 86 = .ok (.aload_n 0, 1) := by decide +kernel
theorem d_M_doesMore_87 : decode y_M_doesMore.2.1 87 = .ok (.getfield 107, 3) := by decide +kernel
theorem d_M_doesMore_90 : decode y_M_doesMore.2.1 90 = .ok (.iload_n 2, 1) := by decide +kernel
theorem d_M_doesMore_91 : decode y_M_doesMore.2.1 91 = .ok (.iload_n 3, 1) := by decide +kernel
theorem d_M_doesMore_92 : decode y_M_doesMore.2.1 92 = .ok (.iconst 1, 1) := by decide +kernel
theorem d_M_doesMore_93 : decode y_M_doesMore.2.1 93 = .ok (.if_icmp .ne 7, 3) := by decide +kernel
theorem d_M_doesMore_96 : decode y_M_doesMore.2.1 96 = .ok (.iconst 1, 1) := by decide +kernel
theorem d_M_doesMore_97 : decode y_M_doesMore.2.1 97 = .ok (.goto 4, 3) := by decide +kernel
theorem d_M_doesMore_100 : decode y_M_doesMore.2.1 100 = .ok (.iconst 0, 1) := by decide +kernel
theorem d_M_doesMore_101 : decode y_M_doesMore.2.1 101 = .ok (.bastore, 1) := by decide +kernel
theorem d_M_doesMore_102 : decode y_M_doesMore.2.1 102 = .ok (.goto 96, 3) := by decide +kernel
theorem d_M_doesMore_105 : decode y_M_doesMore.2.1 105 = .ok (.aload_n 0, 1) := by decide +kernel
theorem d_M_doesMore_106 : decode y_M_doesMore.2.1 106 = .ok (.iload_n 2, 1) := by decide +kernel
theorem d_M_doesMore_107 : decode y_M_doesMore.2.1 107 = .ok (.putfield 272, 3) := by decide +kernel
theorem d_M_doesMore_110 : decode y_M_doesMore.2.1 110 = .ok (.aload_n 0, 1) := by decide +kernel
theorem d_M_doesMore_111 : decode y_M_doesMore.2.1 111 = .ok (.iload_n 3, 1) := by decide +kernel
theorem d_M_doesMore_112 : decode y_M_doesMore.2.1 112 = .ok (.putfield 16, 3) := by decide +kernel
theorem d_M_doesMore_115 : decode y_M_doesMore.2.1 115 = .ok (.aload_n 0, 1) := by decide +kernel
theorem d_M_doesMore_116 : decode y_M_doesMore.2.1 116 = .ok (.iload 4, 2) := by decide +kernel
theorem d_M_doesMore_118 : decode y_M_doesMore.2.1 118 = .ok (.putfield 19, 3) := by decide +kernel
theorem d_M_doesMore_121 : decode y_M_doesMore.2.1 121 = .ok (.goto 77, 3) := by decide +kernel
theorem d_M_doesMore_124 : decode y_M_doesMore.2.1 124 = .ok (.aload_n 0, 1) := by decide +kernel
theorem d_M_doesMore_125 : decode y_M_doesMore.2.1 125 = .ok (.getfield 111, 3) := by decide +kernel
theorem d_M_doesMore_128 : decode y_M_doesMore.2.1 128 = .ok (.aload_n 0, 1) := by decide +kernel
theorem d_M_doesMore_129 : decode y_M_doesMore.2.1 129 = .ok (.getfield 275, 3) := by decide +kernel
theorem d_M_doesMore_132 : decode y_M_doesMore.2.1 132 = .ok (.iload_n 2, 1) := by decide +kernel
theorem d_M_doesMore_133 : decode y_M_doesMore.2.1 133 = .ok (.iastore, 1) := by decide +kernel
theorem d_M_doesMore_134 : decode y_M_doesMore.2.1 134 = .ok (.aload_n 0, 1) := by decide +kernel
theorem d_M_doesMore_135 : decode y_M_doesMore.2.1 135 = .ok (.getfield 114, 3) := by decide +kernel
theorem d_M_doesMore_138 : decode y_M_doesMore.2.1 138 = .ok (.aload_n 0, 1) := by decide +kernel
theorem d_M_doesMore_139 : decode y_M_doesMore.2.1 139 = .ok (.getfield 275, 3) := by decide +kernel
theorem d_M_doesMore_142 : decode y_M_doesMore.2.1 142 = .ok (.iload_n 3, 1) := by decide +kernel
theorem d_M_doesMore_143 : decode y_M_doesMore.2.1 143 = .ok (.iastore, 1) := by decide +kernel
theorem d_M_doesMore_144 : decode y_M_doesMore.2.1 144 = .ok (.aload_n 0, 1) := by decide +kernel
theorem d_M_doesMore_145 : decode y_M_doesMore.2.1 145 = .ok (.dup, 1) := by decide +kernel
theorem d_M_doesMore_146 : decode y_M_doesMore.2.1 146 = .ok (.getfield 275, 3) := by decide +kernel
theorem d_M_doesMore_149 : decode y_M_doesMore.2.1 149 = .ok (.iconst 1, 1) := by decide +kernel
theorem d_M_doesMore_150 : decode y_M_doesMore.2.1 150 = .ok (.iadd, 1) := by decide +kernel
theorem d_M_doesMore_151 : decode y_M_doesMore.2.1 151 = .ok (.putfield 275, 3) := by decide +kernel
theorem d_M_doesMore_154 : decode y_M_doesMore.2.1 154 = .ok (.goto 44, 3) := by decide +kernel
theorem d_M_doesMore_157 : decode y_M_doesMore.2.1 157 = .ok (.aload_n 0, 1) := by decide +kernel
theorem d_M_doesMore_158 : decode y_M_doesMore.2.1 158 = .ok (.getfield 117, 3) := by decide +kernel
theorem d_M_doesMore_161 : decode y_M_doesMore.2.1 161 = .ok (.aload_n 0, 1) := by decide +kernel
theorem d_M_doesMore_162 : decode y_M_doesMore.2.1 162 = .ok (.getfield 278, 3) := by decide +kernel
theorem d_M_doesMore_165 : decode y_M_doesMore.2.1 165 = .ok (.iload_n 2, 1) := by decide +kernel
theorem d_M_doesMore_166 : decode y_M_doesMore.2.1 166 = .ok (.iastore, 1) := by decide +kernel
theorem d_M_doesMore_167 : decode y_M_doesMore.2.1 167 = .ok (.aload_n 0, 1) := by decide +kernel
theorem d_M_doesMore_168 : decode y_M_doesMore.2.1 168 = .ok (.getfield 120, 3) := by decide +kernel
theorem d_M_doesMore_171 : decode y_M_doesMore.2.1 171 = .ok (.aload_n 0, 1) := by decide +kernel
theorem d_M_doesMore_172 : decode y_M_doesMore.2.1 172 = .ok (.getfield 278, 3) := by decide +kernel
theorem d_M_doesMore_175 : decode y_M_doesMore.2.1 175 = .ok (.iload_n 3, 1) := by decide +kernel
theorem d_M_doesMore_176 : decode y_M_doesMore.2.1 176 = .ok (.iastore, 1) := by decide +kernel
theorem d_M_doesMore_177 : decode y_M_doesMore.2.1 177 = .ok (.aload_n 0, 1) := by decide +kernel
theorem d_M_doesMore_178 : decode y_M_doesMore.2.1 178 = .ok (.getfield 123, 3) := by decide +kernel
theorem d_M_doesMore_181 : decode y_M_doesMore.2.1 181 = .ok (.aload_n 0, 1) := by decide +kernel
theorem d_M_doesMore_182 : decode y_M_doesMore.2.1 182 = .ok (.getfield 278, 3) := by decide +kernel
theorem d_M_doesMore_185 : decode y_M_doesMore.2.1 185 = .ok (.iload 4, 2) := by decide +kernel
theorem d_M_doesMore_187 : decode y_M_doesMore.2.1 187 = .ok (.iastore, 1) := by decide +kernel
theorem d_M_doesMore_188 : decode y_M_doesMore.2.1 188 = .ok (.aload_n 0, 1) := by decide +kernel
theorem d_M_doesMore_189 : decode y_M_doesMore.2.1 189 = .ok (.dup, 1) := by decide +kernel
theorem d_M_doesMore_190 : decode y_M_doesMore.2.1 190 = .ok (.getfield 278, 3) := by decide +kernel
theorem d_M_doesMore_193 : decode y_M_doesMore.2.1 193 = .ok (.iconst 1, 1) := by decide +kernel
theorem d_M_doesMore_194 : decode y_M_doesMore.2.1 194 = .ok (.iadd, 1) := by decide +kernel
theorem d_M_doesMore_195 : decode y_M_doesMore.2.1 195 = .ok (.putfield 278, 3) := by decide +kernel
theorem d_M_doesMore_198 : decode y_M_doesMore.2.1 198 = .ok (.return_, 1) := by decide +kernel
theorem d_M_undo_0 : decode y_M_undo.2.1 0 = .ok (.aload_n 0, 1) := by decide +kernel
theorem d_M_undo_1 : decode y_M_undo.2.1 1 = .ok (.iconst 0, 1) := by decide +kernel
theorem d_M_undo_2 : decode y_M_undo.2.1 2 = .ok (.putfield 217, 3) := by decide +kernel
theorem d_M_undo_5 : decode y_M_undo.2.1 5 = .ok (.aload_n 0, 1) := by decide +kernel
theorem d_M_undo_6 : decode y_M_undo.2.1 6 = .ok (.getfield 231, 3) := by decide +kernel
theorem d_M_undo_9 : decode y_M_undo.2.1 9 = .ok (.aload_n 0, 1) := by decide +kernel
theorem d_M_undo_10 : decode y_M_undo.2.1 10 = .ok (.getfield 241, 3) := by decide +kernel
theorem d_M_undo_13 : decode y_M_undo.2.1 13 = .ok (.if_icmp .ne 5, 3) := by decide +kernel
theorem d_M_undo_16 : decode y_M_undo.2.1 16 = .ok (.iconst 0, 1) := by decide +kernel
theorem d_M_undo_17 : decode y_M_undo.2.1 17 = .ok (.ireturn, 1) := by decide +kernel
theorem d_M_undo_18 : decode y_M_undo.2.1 18 = .ok (.aload_n 0, 1) := by decide +kernel
theorem d_M_undo_19 : decode y_M_undo.2.1 19 = .ok (.dup, 1) := by decide +kernel
theorem d_M_undo_20 : decode y_M_undo.2.1 20 = .ok (.getfield 231, 3) := by decide +kernel
theorem d_M_undo_23 : decode y_M_undo.2.1 23 = .ok (.iconst 1, 1) := by decide +kernel
theorem d_M_undo_24 : decode y_M_undo.2.1 24 = .ok (.isub, 1) := by decide +kernel
theorem d_M_undo_25 : decode y_M_undo.2.1 25 = .ok (.putfield 231, 3) := by decide +kernel
theorem d_M_undo_28 : decode y_M_undo.2.1 28 = .ok (.aload_n 0, 1) := by decide +kernel
theorem d_M_undo_29 : decode y_M_undo.2.1 29 = .ok (.iconst 0, 1) := by decide +kernel
theorem d_M_undo_30 : decode y_M_undo.2.1 30 = .ok (.putfield 228, 3) := by decide +kernel
theorem d_M_undo_33 : decode y_M_undo.2.1 33 = .ok (.aload_n 0, 1) := by decide +kernel
theorem d_M_undo_34 : decode y_M_undo.2.1 34 = .ok (.iconst 0, 1) := by decide +kernel
theorem d_M_undo_35 : decode y_M_undo.2.1 35 = .ok (.putfield 250, 3) := by decide +kernel
theorem d_M_undo_38 : decode y_M_undo.2.1 38 = .ok (.aload_n 0, 1) := by decide +kernel
theorem d_M_undo_39 : decode y_M_undo.2.1 39 = .ok (.iconst 0, 1) := by decide +kernel
theorem d_M_undo_40 : decode y_M_undo.2.1 40 = .ok (.putfield 253, 3) := by decide +kernel
theorem d_M_undo_43 : decode y_M_undo.2.1 43 = .ok (.aload_n 0, 1) := by decide +kernel
theorem d_M_undo_44 : decode y_M_undo.2.1 44 = .ok (.iconst 0, 1) := by decide +kernel
theorem d_M_undo_45 : decode y_M_undo.2.1 45 = .ok (.putfield 256, 3) := by decide +kernel
theorem d_M_undo_48 : decode y_M_undo.2.1 48 = .ok (.aload_n 0, 1) := by decide +kernel
theorem d_M_undo_49 : decode y_M_undo.2.1 49 = .ok (.iconst 0, 1) := by decide +kernel
theorem d_M_undo_50 : decode y_M_undo.2.1 50 = .ok (.putfield 259, 3) := by decide +kernel
theorem d_M_undo_53 : decode y_M_undo.2.1 53 = .ok (.aload_n 0, 1) := by decide +kernel
theorem d_M_undo_54 : decode y_M_undo.2.1 54 = .ok (.iconst 0, 1) := by decide +kernel
theorem d_M_undo_55 : decode y_M_undo.2.1 55 = .ok (.putfield 262, 3) := by decide +kernel
theorem d_M_undo_58 : decode y_M_undo.2.1 58 = .ok (.aload_n 0, 1) := by decide +kernel
theorem d_M_undo_59 : decode y_M_undo.2.1 59 = .ok (.iconst 0, 1) := by decide +kernel
theorem d_M_undo_60 : decode y_M_undo.2.1 60 = .ok (.putfield 269, 3) := by decide +kernel
theorem d_M_undo_63 : decode y_M_undo.2.1 63 = .ok (.aload_n 0, 1) := by decide +kernel
theorem d_M_undo_64 : decode y_M_undo.2.1 64 = .ok (.iconst 0, 1) := by decide +kernel
theorem d_M_undo_65 : decode y_M_undo.2.1 65 = .ok (.putfield 275, 3) := by decide +kernel
theorem d_M_undo_68 : decode y_M_undo.2.1 68 = .ok (.aload_n 0, 1) := by decide +kernel
theorem d_M_undo_69 : decode y_M_undo.2.1 69 = .ok (.iconst 0, 1) := by decide +kernel
theorem d_M_undo_70 : decode y_M_undo.2.1 70 = .ok (.putfield 278, 3) := by decide +kernel
theorem d_M_undo_73 : decode y_M_undo.2.1 73 = .ok (.aload_n 0, 1) := by decide +kernel
theorem d_M_undo_74 : decode y_M_undo.2.1 74 = .ok (.sipush 1000, 3) := by decide +kernel
theorem d_M_undo_77 : decode y_M_undo.2.1 77 = .ok (.putfield 7, 3) := by decide +kernel
theorem d_M_undo_80 : decode y_M_undo.2.1 80 = .ok (.aload_n 0, 1) := by decide +kernel
theorem d_M_undo_81 : decode y_M_undo.2.1 81 = .ok (.iconst 1, 1) := by decide +kernel
theorem d_M_undo_82 : decode y_M_undo.2.1 82 = .ok (.putfield 13, 3) := by decide +kernel
theorem d_M_undo_85 : decode y_M_undo.2.1 85 = .ok (.aload_n 0, 1) := by decide +kernel
theorem d_M_undo_86 : decode y_M_undo.2.1 86 = .ok (.iconst 0, 1) := by decide +kernel
theorem d_M_undo_87 : decode y_M_undo.2.1 87 = .ok (.putfield 272, 3) := by decide +kernel
theorem d_M_undo_90 : decode y_M_undo.2.1 90 = .ok (.aload_n 0, 1) := by decide +kernel
theorem d_M_undo_91 : decode y_M_undo.2.1 91 = .ok (.iconst 1, 1) := by decide +kernel
theorem d_M_undo_92 : decode y_M_undo.2.1 92 = .ok (.putfield 16, 3) := by decide +kernel
theorem d_M_undo_95 : decode y_M_undo.2.1 95 = .ok (.aload_n 0, 1) := by decide +kernel
theorem d_M_undo_96 : decode y_M_undo.2.1 96 = .ok (.iconst 1, 1) := by decide +kernel
theorem d_M_undo_97 : decode y_M_undo.2.1 97 = .ok (.putfield 19, 3) := by decide +kernel
theorem d_M_undo_100 : decode y_M_undo.2.1 100 = .ok (.iconst 0, 1) := by decide +kernel
theorem d_M_undo_101 : decode y_M_undo.2.1 101 = .ok (.istore_n 1, 1) := by decide +kernel
theorem d_M_undo_102 : decode y_M_undo.2.1 102 = .ok (.iload_n 1, 1) := by decide +kernel
theorem d_M_undo_103 : decode y_M_undo.2.1 103 = .ok (.aload_n 0, 1) := by decide +kernel
theorem d_M_undo_104 : decode y_M_undo.2.1 104 = .ok (.getfield 231, 3) := by decide +kernel
theorem d_M_undo_107 : decode y_M_undo.2.1 107 = .ok (.if_icmp .ge 14, 3) := by decide +kernel
theorem d_M_undo_110 : decode y_M_undo.2.1 110 = .ok (.aload_n 0, 1) := by decide +kernel
theorem d_M_undo_111 : decode y_M_undo.2.1 111 = .ok (.iload_n 1, 1) := by decide +kernel
theorem d_M_undo_112 : decode y_M_undo.2.1 112 = .ok (.invokevirtual 234, 3) := by decide +kernel
theorem d_M_undo_115 : decode y_M_undo.2.1 115 = .ok (.iinc 1 1, 3) := by decide +kernel
theorem d_M_undo_118 : decode y_M_undo.2.1 118 = .ok (.goto (-16), 3) := by decide +kernel
theorem d_M_undo_121 : decode y_M_undo.2.1 121 = .ok (.iconst 1, 1) := by decide +kernel
theorem d_M_undo_122 : decode y_M_undo.2.1 122 = .ok (.ireturn, 1) := by decide +kernel
theorem d_M_redo_0 : decode y_M_redo.2.1 0 = .ok (.aload_n 0, 1) := by decide +kernel
theorem d_M_redo_1 : decode y_M_redo.2.1 1 = .ok (.iconst 0, 1) := by decide +kernel
theorem d_M_redo_2 : decode y_M_redo.2.1 2 = .ok (.putfield 217, 3) := by decide +kernel
theorem d_M_redo_5 : decode y_M_redo.2.1 5 = .ok (.aload_n 0, 1) := by decide +kernel
theorem d_M_redo_6 : decode y_M_redo.2.1 6 = .ok (.getfield 231, 3) := by decide +kernel
theorem d_M_redo_9 : decode y_M_redo.2.1 9 = .ok (.aload_n 0, 1) := by decide +kernel
theorem d_M_redo_10 : decode y_M_redo.2.1 10 = .ok (.getfield 238, 3) := by decide +kernel
theorem d_M_redo_13 : decode y_M_redo.2.1 13 = .ok (.if_icmp .ne 5, 3) := by decide +kernel
theorem d_M_redo_16 : decode y_M_redo.2.1 16 = .ok (.iconst 0, 1) := by decide +kernel
theorem d_M_redo_17 : decode y_M_redo.2.1 17 = .ok (.ireturn, 1) := by decide +kernel
theorem d_M_redo_18 : decode y_M_redo.2.1 18 = .ok (.aload_n 0, 1) := by decide +kernel
theorem d_M_redo_19 : decode y_M_redo.2.1 19 = .ok (.aload_n 0, 1) := by decide +kernel
theorem d_M_redo_20 : decode y_M_redo.2.1 20 = .ok (.getfield 231, 3) := by decide +kernel
theorem d_M_redo_23 : decode y_M_redo.2.1 23 = .ok (.invokevirtual 234, 3) := by decide +kernel
theorem d_M_redo_26 : decode y_M_redo.2.1 26 = .ok (.aload_n 0, 1) := by decide +kernel
theorem d_M_redo_27 : decode y_M_redo.2.1 27 = .ok (.dup, 1) := by decide +kernel
theorem d_M_redo_28 : decode y_M_redo.2.1 28 = .ok (.getfield 231, 3) := by decide +kernel
theorem d_M_redo_31 : decode y_M_redo.2.1 31 = .ok (.iconst 1, 1) := by decide +kernel
theorem d_M_redo_32 : decode y_M_redo.2.1 32 = .ok (.iadd, 1) := by decide +kernel
theorem d_M_redo_33 : decode y_M_redo.2.1 33 = .ok (.putfield 231, 3) := by decide +kernel
theorem d_M_redo_36 : decode y_M_redo.2.1 36 = .ok (.iconst 1, 1) := by decide +kernel
theorem d_M_redo_37 : decode y_M_redo.2.1 37 = .ok (.ireturn, 1) := by decide +kernel
theorem d_M_piece_0 : decode y_M_piece.2.1 0 = .ok (.aload_n 0, 1) := by decide +kernel
theorem d_M_piece_1 : decode y_M_piece.2.1 1 = .ok (.iconst 0, 1) := by decide +kernel
theorem d_M_piece_2 : decode y_M_piece.2.1 2 = .ok (.putfield 217, 3) := by decide +kernel
theorem d_M_piece_5 : decode y_M_piece.2.1 5 = .ok (.iload_n 1, 1) := by decide +kernel
theorem d_M_piece_6 : decode y_M_piece.2.1 6 = .ok (.i2l, 1) := by decide +kernel
theorem d_M_piece_7 : decode y_M_piece.2.1 7 = .ok (.lconst 1, 1) := by decide +kernel
theorem d_M_piece_8 : decode y_M_piece.2.1 8 = .ok (.ldc2_w 281, 3) := by decide +kernel
theorem d_M_piece_11 : decode y_M_piece.2.1 11 = .ok (.invokestatic 222, 3) := by decide +kernel
theorem d_M_piece_14 : decode y_M_piece.2.1 14 = .ok (.ifCond .eq 15, 3) := by decide +kernel
theorem d_M_piece_17 : decode y_M_piece.2.1 17 = .ok (.iload_n 2, 1) := by decide +kernel
theorem d_M_piece_18 : decode y_M_piece.2.1 18 = .ok (.i2l, 1) := by decide +kernel
theorem d_M_piece_19 : decode y_M_piece.2.1 19 = .ok (.lconst 0, 1) := by decide +kernel
theorem d_M_piece_20 : decode y_M_piece.2.1 20 = .ok (.ldc2_w 283, 3) := by decide +kernel
theorem d_M_piece_23 : decode y_M_piece.2.1 23 = .ok (.invokestatic 222, 3) := by decide +kernel
theorem d_M_piece_26 : decode y_M_piece.2.1 26 = .ok (.ifCond .ne 9, 3) := by decide +kernel
theorem d_M_piece_29 : decode y_M_piece.2.1 29 = .ok (.aload_n 0, 1) := by decide +kernel
theorem d_M_piece_30 : decode y_M_piece.2.1 30 = .ok (.iconst 1, 1) := by decide +kernel
theorem d_M_piece_31 : decode y_M_piece.2.1 31 = .ok (.invokevirtual 285, 3) := by decide +kernel
theorem d_M_piece_34 : decode y_M_piece.2.1 34 = .ok (.ireturn, 1) := by decide +kernel
theorem d_M_piece_35 : decode y_M_piece.2.1 35 = .ok (.aload_n 0, 1) := by decide +kernel
theorem d_M_piece_36 : decode y_M_piece.2.1 36 = .ok (.getfield 228, 3) := by decide +kernel
theorem d_M_piece_39 : decode y_M_piece.2.1 39 = .ok (.bipush 8, 2) := by decide +kernel
theorem d_M_piece_41 : decode y_M_piece.2.1 41 = .ok (.if_icmp .ne 5, 3) := by decide +kernel
theorem d_M_piece_44 : decode y_M_piece.2.1 44 = .ok (.iconst (-1), 1) := by decide +kernel
theorem d_M_piece_45 : decode y_M_piece.2.1 45 = .ok (.ireturn, 1) := by decide +kernel
theorem d_M_piece_46 : decode y_M_piece.2.1 46 = .ok (.aload_n 0, 1) := by decide +kernel
theorem d_M_piece_47 : decode y_M_piece.2.1 47 = .ok (.iconst 0, 1) := by decide +kernel
theorem d_M_piece_48 : decode y_M_piece.2.1 48 = .ok (.iload_n 1, 1) := by decide +kernel
theorem d_M_piece_49 : decode y_M_piece.2.1 49 = .ok (.iload_n 2, 1) := by decide +kernel
theorem d_M_piece_50 : decode y_M_piece.2.1 50 = .ok (.iconst 0, 1) := by decide +kernel
theorem d_M_piece_51 : decode y_M_piece.2.1 51 = .ok (.iconst 0, 1) := by decide +kernel
theorem d_M_piece_52 : decode y_M_piece.2.1 52 = .ok (.iconst 0, 1) := by decide +kernel
theorem d_M_piece_53 : decode y_M_piece.2.1 53 = .ok (.iconst 0, 1) := by decide +kernel
theorem d_M_piece_54 : decode y_M_piece.2.1 54 = .ok (.invokevirtual 289, 3) := by decide +kernel
theorem d_M_piece_57 : decode y_M_piece.2.1 57 = .ok (.aload_n 0, 1) := by decide +kernel
theorem d_M_piece_58 : decode y_M_piece.2.1 58 = .ok (.getfield 228, 3) := by decide +kernel
theorem d_M_piece_61 : decode y_M_piece.2.1 61 = .ok (.iconst 1, 1) := by decide +kernel
theorem d_M_piece_62 : decode y_M_piece.2.1 62 = .ok (.isub, 1) := by decide +kernel
theorem d_M_piece_63 : decode y_M_piece.2.1 63 = .ok (.ireturn, 1) := by decide +kernel
theorem d_M_way_0 : decode y_M_way.2.1 0 = .ok (.aload_n 0, 1) := by decide +kernel
theorem d_M_way_1 : decode y_M_way.2.1 1 = .ok (.iconst 0, 1) := by decide +kernel
theorem d_M_way_2 : decode y_M_way.2.1 2 = .ok (.putfield 217, 3) := by decide +kernel
theorem d_M_way_5 : decode y_M_way.2.1 5 = .ok (.aload_n 0, 1) := by decide +kernel
theorem d_M_way_6 : decode y_M_way.2.1 6 = .ok (.iload_n 1, 1) := by decide +kernel
theorem d_M_way_7 : decode y_M_way.2.1 7 = .ok (.invokevirtual 293, 3) := by decide +kernel
theorem d_M_way_10 : decode y_M_way.2.1 10 = .ok (.ifCond .eq 11, 3) := by decide +kernel
theorem d_M_way_13 : decode y_M_way.2.1 13 = .ok (.aload_n 0, 1) := by decide +kernel
theorem d_M_way_14 : decode y_M_way.2.1 14 = .ok (.iload_n 2, 1) := by decide +kernel
theorem d_M_way_15 : decode y_M_way.2.1 15 = .ok (.invokevirtual 293, 3) := by decide +kernel
theorem d_M_way_18 : decode y_M_way.2.1 18 = .ok (.ifCond .ne 9, 3) := by decide +kernel
theorem d_M_way_21 : decode y_M_way.2.1 21 = .ok (.aload_n 0, 1) := by decide +kernel
theorem d_M_way_22 : decode y_M_way.2.1 22 = .ok (.iconst 1, 1) := by decide +kernel
theorem d_M_way_23 : decode y_M_way.2.1 23 = .ok (.invokevirtual 285, 3) := by decide +kernel
theorem d_M_way_26 : decode y_M_way.2.1 26 = .ok (.ireturn, 1) := by decide +kernel
theorem d_M_way_27 : decode y_M_way.2.1 27 = .ok (.iload_n 1, 1) := by decide +kernel
theorem d_M_way_28 : decode y_M_way.2.1 28 = .ok (.iload_n 2, 1) := by decide +kernel
theorem d_M_way_29 : decode y_M_way.2.1 29 = .ok (.if_icmp .eq 43, 3) := by decide +kernel
theorem d_M_way_32 : decode y_M_way.2.1 32 = .ok (.iload_n 3, 1) := by decide +kernel
theorem d_M_way_33 : decode y_M_way.2.1 33 = .ok (.i2l, 1) := by decide +kernel
theorem d_M_way_34 : decode y_M_way.2.1 34 = .ok (.lconst 1, 1) := by decide +kernel
theorem d_M_way_35 : decode y_M_way.2.1 35 = .ok (.ldc2_w 297, 3) := by decide +kernel
theorem d_M_way_38 : decode y_M_way.2.1 38 = .ok (.invokestatic 222, 3) := by decide +kernel
theorem d_M_way_41 : decode y_M_way.2.1 41 = .ok (.ifCond .eq 31, 3) := by decide +kernel
theorem d_M_way_44 : decode y_M_way.2.1 44 = .ok (.iload 4, 2) := by decide +kernel
theorem d_M_way_46 : decode y_M_way.2.1 46 = .ok (.i2l, 1) := by decide +kernel
theorem d_M_way_47 : decode y_M_way.2.1 47 = .ok (.lconst 1, 1) := by decide +kernel
theorem d_M_way_48 : decode y_M_way.2.1 48 = .ok (.ldc2_w 283, 3) := by decide +kernel
theorem d_M_way_51 : decode y_M_way.2.1 51 = .ok (.invokestatic 222, 3) := by decide +kernel
theorem d_M_way_54 : decode y_M_way.2.1 54 = .ok (.ifCond .eq 18, 3) := by decide +kernel
theorem d_M_way_57 : decode y_M_way.2.1 57 = .ok (.iload 5, 2) := by decide +kernel
theorem d_M_way_59 : decode y_M_way.2.1 59 = .ok (.i2l, 1) := by decide +kernel
theorem d_M_way_60 : decode y_M_way.2.1 60 = .ok (.ldc2_w 299, 3) := by decide +kernel
theorem d_M_way_63 : decode y_M_way.2.1 63 = .ok (.ldc2_w 301, 3) := by decide +kernel
theorem d_M_way_66 : decode y_M_way.2.1 66 = .ok (.invokestatic 222, 3) := by decide +kernel
theorem d_M_way_69 : decode y_M_way.2.1 69 = .ok (.ifCond .ne 9, 3) := by decide +kernel
theorem d_M_way_72 : decode y_M_way.2.1 72 = .ok (.aload_n 0, 1) := by decide +kernel
theorem d_M_way_73 : decode y_M_way.2.1 73 = .ok (.iconst 2, 1) := by decide +kernel
theorem d_M_way_74 : decode y_M_way.2.1 74 = .ok (.invokevirtual 285, 3) := by decide +kernel
theorem d_M_way_77 : decode y_M_way.2.1 77 = .ok (.ireturn, 1) := by decide +kernel
theorem d_M_way_78 : decode y_M_way.2.1 78 = .ok (.aload_n 0, 1) := by decide +kernel
theorem d_M_way_79 : decode y_M_way.2.1 79 = .ok (.getfield 250, 3) := by decide +kernel
theorem d_M_way_82 : decode y_M_way.2.1 82 = .ok (.bipush 12, 2) := by decide +kernel
theorem d_M_way_84 : decode y_M_way.2.1 84 = .ok (.if_icmp .ne 5, 3) := by decide +kernel
theorem d_M_way_87 : decode y_M_way.2.1 87 = .ok (.iconst (-1), 1) := by decide +kernel
theorem d_M_way_88 : decode y_M_way.2.1 88 = .ok (.ireturn, 1) := by decide +kernel
theorem d_M_way_89 : decode y_M_way.2.1 89 = .ok (.aload_n 0, 1) := by decide +kernel
theorem d_M_way_90 : decode y_M_way.2.1 90 = .ok (.iconst 1, 1) := by decide +kernel
theorem d_M_way_91 : decode y_M_way.2.1 91 = .ok (.iload_n 1, 1) := by decide +kernel
theorem d_M_way_92 : decode y_M_way.2.1 92 = .ok (.iload_n 2, 1) := by decide +kernel
theorem d_M_way_93 : decode y_M_way.2.1 93 = .ok (.iload_n 3, 1) := by decide +kernel
theorem d_M_way_94 : decode y_M_way.2.1 94 = .ok (.iload 4, 2) := by decide +kernel
theorem d_M_way_96 : decode y_M_way.2.1 96 = .ok (.iload 5, 2) := by decide +kernel
theorem d_M_way_98 : decode y_M_way.2.1 98 = .ok (.iconst 0, 1) := by decide +kernel
theorem d_M_way_99 : decode y_M_way.2.1 99 = .ok (.invokevirtual 289, 3) := by decide +kernel
theorem d_M_way_102 : decode y_M_way.2.1 102 = .ok (.aload_n 0, 1) := by decide +kernel
theorem d_M_way_103 : decode y_M_way.2.1 103 = .ok (.getfield 250, 3) := by decide +kernel
theorem d_M_way_106 : decode y_M_way.2.1 106 = .ok (.iconst 1, 1) := by decide +kernel
theorem d_M_way_107 : decode y_M_way.2.1 107 = .ok (.isub, 1) := by decide +kernel
theorem d_M_way_108 : decode y_M_way.2.1 108 = .ok (.ireturn, 1) := by decide +kernel
theorem d_M_water_0 : decode y_M_water.2.1 0 = .ok (.aload_n 0, 1) := by decide +kernel
theorem d_M_water_1 : decode y_M_water.2.1 1 = .ok (.iconst 0, 1) := by decide +kernel
theorem d_M_water_2 : decode y_M_water.2.1 2 = .ok (.putfield 217, 3) := by decide +kernel
theorem d_M_water_5 : decode y_M_water.2.1 5 = .ok (.aload_n 0, 1) := by decide +kernel
theorem d_M_water_6 : decode y_M_water.2.1 6 = .ok (.iload_n 1, 1) := by decide +kernel
theorem d_M_water_7 : decode y_M_water.2.1 7 = .ok (.invokevirtual 293, 3) := by decide +kernel
theorem d_M_water_10 : decode y_M_water.2.1 10 = .ok (.ifCond .ne 9, 3) := by decide +kernel
theorem d_M_water_13 : decode y_M_water.2.1 13 = .ok (.aload_n 0, 1) := by decide +kernel
theorem d_M_water_14 : decode y_M_water.2.1 14 = .ok (.iconst 1, 1) := by decide +kernel
theorem d_M_water_15 : decode y_M_water.2.1 15 = .ok (.invokevirtual 285, 3) := by decide +kernel
theorem d_M_water_18 : decode y_M_water.2.1 18 = .ok (.ireturn, 1) := by decide +kernel
theorem d_M_water_19 : decode y_M_water.2.1 19 = .ok (.iload_n 2, 1) := by decide +kernel
theorem d_M_water_20 : decode y_M_water.2.1 20 = .ok (.i2l, 1) := by decide +kernel
theorem d_M_water_21 : decode y_M_water.2.1 21 = .ok (.lconst 0, 1) := by decide +kernel
theorem d_M_water_22 : decode y_M_water.2.1 22 = .ok (.ldc2_w 303, 3) := by decide +kernel
theorem d_M_water_25 : decode y_M_water.2.1 25 = .ok (.invokestatic 222, 3) := by decide +kernel
theorem d_M_water_28 : decode y_M_water.2.1 28 = .ok (.ifCond .ne 9, 3) := by decide +kernel
theorem d_M_water_31 : decode y_M_water.2.1 31 = .ok (.aload_n 0, 1) := by decide +kernel
theorem d_M_water_32 : decode y_M_water.2.1 32 = .ok (.iconst 2, 1) := by decide +kernel
theorem d_M_water_33 : decode y_M_water.2.1 33 = .ok (.invokevirtual 285, 3) := by decide +kernel
theorem d_M_water_36 : decode y_M_water.2.1 36 = .ok (.ireturn, 1) := by decide +kernel
theorem d_M_water_37 : decode y_M_water.2.1 37 = .ok (.aload_n 0, 1) := by decide +kernel
theorem d_M_water_38 : decode y_M_water.2.1 38 = .ok (.getfield 29, 3) := by decide +kernel
theorem d_M_water_41 : decode y_M_water.2.1 41 = .ok (.iload_n 1, 1) := by decide +kernel
theorem d_M_water_42 : decode y_M_water.2.1 42 = .ok (.iaload, 1) := by decide +kernel
theorem d_M_water_43 : decode y_M_water.2.1 43 = .ok (.istore_n 3, 1) := by decide +kernel
theorem d_M_water_44 : decode y_M_water.2.1 44 = .ok (.aload_n 0, 1) := by decide +kernel
theorem d_M_water_45 : decode y_M_water.2.1 45 = .ok (.iconst 2, 1) := by decide +kernel
theorem d_M_water_46 : decode y_M_water.2.1 46 = .ok (.iload_n 1, 1) := by decide +kernel
theorem d_M_water_47 : decode y_M_water.2.1 47 = .ok (.iload_n 2, 1) := by decide +kernel
theorem d_M_water_48 : decode y_M_water.2.1 48 = .ok (.iconst 0, 1) := by decide +kernel
theorem d_M_water_49 : decode y_M_water.2.1 49 = .ok (.iconst 0, 1) := by decide +kernel
theorem d_M_water_50 : decode y_M_water.2.1 50 = .ok (.iconst 0, 1) := by decide +kernel
theorem d_M_water_51 : decode y_M_water.2.1 51 = .ok (.iconst 0, 1) := by decide +kernel
theorem d_M_water_52 : decode y_M_water.2.1 52 = .ok (.invokevirtual 289, 3) := by decide +kernel
theorem d_M_water_55 : decode y_M_water.2.1 55 = .ok (.iload_n 3, 1) := by decide +kernel
theorem d_M_water_56 : decode y_M_water.2.1 56 = .ok (.ireturn, 1) := by decide +kernel
theorem d_M_fire_0 : decode y_M_fire.2.1 0 = .ok (.aload_n 0, 1) := by decide +kernel
theorem d_M_fire_1 : decode y_M_fire.2.1 1 = .ok (.iconst 0, 1) := by decide +kernel
theorem d_M_fire_2 : decode y_M_fire.2.1 2 = .ok (.putfield 217, 3) := by decide +kernel
theorem d_M_fire_5 : decode y_M_fire.2.1 5 = .ok (.aload_n 0, 1) := by decide +kernel
theorem d_M_fire_6 : decode y_M_fire.2.1 6 = .ok (.iload_n 1, 1) := by decide +kernel
theorem d_M_fire_7 : decode y_M_fire.2.1 7 = .ok (.invokevirtual 293, 3) := by decide +kernel
theorem d_M_fire_10 : decode y_M_fire.2.1 10 = .ok (.ifCond .ne 9, 3) := by decide +kernel
theorem d_M_fire_13 : decode y_M_fire.2.1 13 = .ok (.aload_n 0, 1) := by decide +kernel
theorem d_M_fire_14 : decode y_M_fire.2.1 14 = .ok (.iconst 1, 1) := by decide +kernel
theorem d_M_fire_15 : decode y_M_fire.2.1 15 = .ok (.invokevirtual 285, 3) := by decide +kernel
theorem d_M_fire_18 : decode y_M_fire.2.1 18 = .ok (.ireturn, 1) := by decide +kernel
theorem d_M_fire_19 : decode y_M_fire.2.1 19 = .ok (.iload_n 2, 1) := by decide +kernel
theorem d_M_fire_20 : decode y_M_fire.2.1 20 = .ok (.invokestatic 305, 3) := by decide +kernel
theorem d_M_fire_23 : decode y_M_fire.2.1 23 = .ok (.ifCond .eq 57, 3) := by decide +kernel
theorem d_M_fire_26 : decode y_M_fire.2.1 26 = .ok (.iload_n 3, 1) := by decide +kernel
theorem d_M_fire_27 : decode y_M_fire.2.1 27 = .ok (.i2l, 1) := by decide +kernel
theorem d_M_fire_28 : decode y_M_fire.2.1 28 = .ok (.iload_n 2, 1) := by decide +kernel
theorem d_M_fire_29 : decode y_M_fire.2.1 29 = .ok (.iconst 1, 1) := by decide +kernel
theorem d_M_fire_30 : decode y_M_fire.2.1 30 = .ok (.iadd, 1) := by decide +kernel
theorem d_M_fire_31 : decode y_M_fire.2.1 31 = .ok (.i2l, 1) := by decide +kernel
theorem d_M_fire_32 : decode y_M_fire.2.1 32 = .ok (.ldc2_w 303, 3) := by decide +kernel
theorem d_M_fire_35 : decode y_M_fire.2.1 35 = .ok (.invokestatic 222, 3) := by decide +kernel
theorem d_M_fire_38 : decode y_M_fire.2.1 38 = .ok (.ifCond .eq 42, 3) := by decide +kernel
theorem d_M_fire_41 : decode y_M_fire.2.1 41 = .ok (.iload 4, 2) := by decide +kernel
theorem d_M_fire_43 : decode y_M_fire.2.1 43 = .ok (.i2l, 1) := by decide +kernel
theorem d_M_fire_44 : decode y_M_fire.2.1 44 = .ok (.lconst 0, 1) := by decide +kernel
theorem d_M_fire_45 : decode y_M_fire.2.1 45 = .ok (.ldc2_w 308, 3) := by decide +kernel
theorem d_M_fire_48 : decode y_M_fire.2.1 48 = .ok (.invokestatic 222, 3) := by decide +kernel
theorem d_M_fire_51 : decode y_M_fire.2.1 51 = .ok (.ifCond .eq 29, 3) := by decide +kernel
theorem d_M_fire_54 : decode y_M_fire.2.1 54 = .ok (.iload 5, 2) := by decide +kernel
theorem d_M_fire_56 : decode y_M_fire.2.1 56 = .ok (.i2l, 1) := by decide +kernel
theorem d_M_fire_57 : decode y_M_fire.2.1 57 = .ok (.lconst 0, 1) := by decide +kernel
theorem d_M_fire_58 : decode y_M_fire.2.1 58 = .ok (.ldc2_w 308, 3) := by decide +kernel
theorem d_M_fire_61 : decode y_M_fire.2.1 61 = .ok (.invokestatic 222, 3) := by decide +kernel
theorem d_M_fire_64 : decode y_M_fire.2.1 64 = .ok (.ifCond .eq 16, 3) := by decide +kernel
theorem d_M_fire_67 : decode y_M_fire.2.1 67 = .ok (.iload 6, 2) := by decide +kernel
theorem d_M_fire_69 : decode y_M_fire.2.1 69 = .ok (.i2l, 1) := by decide +kernel
theorem d_M_fire_70 : decode y_M_fire.2.1 70 = .ok (.lconst 0, 1) := by decide +kernel
theorem d_M_fire_71 : decode y_M_fire.2.1 71 = .ok (.ldc2_w 308, 3) := by decide +kernel
theorem d_M_fire_74 : decode y_M_fire.2.1 74 = .ok (.invokestatic 222, 3) := by decide +kernel
theorem d_M_fire_77 : decode y_M_fire.2.1 77 = .ok (.ifCond .ne 9, 3) := by decide +kernel
theorem d_M_fire_80 : decode y_M_fire.2.1 80 = .ok (.aload_n 0, 1) := by decide +kernel
theorem d_M_fire_81 : decode y_M_fire.2.1 81 = .ok (.iconst 2, 1) := by decide +kernel
theorem d_M_fire_82 : decode y_M_fire.2.1 82 = .ok (.invokevirtual 285, 3) := by decide +kernel
theorem d_M_fire_85 : decode y_M_fire.2.1 85 = .ok (.ireturn, 1) := by decide +kernel
theorem d_M_fire_86 : decode y_M_fire.2.1 86 = .ok (.aload_n 0, 1) := by decide +kernel
theorem d_M_fire_87 : decode y_M_fire.2.1 87 = .ok (.getfield 253, 3) := by decide +kernel
theorem d_M_fire_90 : decode y_M_fire.2.1 90 = .ok (.iconst 4, 1) := by decide +kernel
theorem d_M_fire_91 : decode y_M_fire.2.1 91 = .ok (.if_icmp .ne 5, 3) := by decide +kernel
theorem d_M_fire_94 : decode y_M_fire.2.1 94 = .ok (.iconst (-1), 1) := by decide +kernel
theorem d_M_fire_95 : decode y_M_fire.2.1 95 = .ok (.ireturn, 1) := by decide +kernel
theorem d_M_fire_96 : decode y_M_fire.2.1 96 = .ok (.aload_n 0, 1) := by decide +kernel
theorem d_M_fire_97 : decode y_M_fire.2.1 97 = .ok (.iconst 3, 1) := by decide +kernel
theorem d_M_fire_98 : decode y_M_fire.2.1 98 = .ok (.iload_n 1, 1) := by decide +kernel
theorem d_M_fire_99 : decode y_M_fire.2.1 99 = .ok (.iload_n 2, 1) := by decide +kernel
theorem d_M_fire_100 : decode y_M_fire.2.1 100 = .ok (.iload_n 3, 1) := by decide +kernel
theorem d_M_fire_101 : decode y_M_fire.2.1 101 = .ok (.iload 4, 2) := by decide +kernel
theorem d_M_fire_103 : decode y_M_fire.2.1 103 = .ok (.iload 5, 2) := by decide +kernel
theorem d_M_fire_105 : decode y_M_fire.2.1 105 = .ok (.iload 6, 2) := by decide +kernel
theorem d_M_fire_107 : decode y_M_fire.2.1 107 = .ok (.invokevirtual 289, 3) := by decide +kernel
theorem d_M_fire_110 : decode y_M_fire.2.1 110 = .ok (.aload_n 0, 1) := by decide +kernel
theorem d_M_fire_111 : decode y_M_fire.2.1 111 = .ok (.getfield 253, 3) := by decide +kernel
theorem d_M_fire_114 : decode y_M_fire.2.1 114 = .ok (.iconst 1, 1) := by decide +kernel
theorem d_M_fire_115 : decode y_M_fire.2.1 115 = .ok (.isub, 1) := by decide +kernel
theorem d_M_fire_116 : decode y_M_fire.2.1 116 = .ok (.ireturn, 1) := by decide +kernel
theorem d_M_fan_0 : decode y_M_fan.2.1 0 = .ok (.aload_n 0, 1) := by decide +kernel
theorem d_M_fan_1 : decode y_M_fan.2.1 1 = .ok (.iconst 0, 1) := by decide +kernel
theorem d_M_fan_2 : decode y_M_fan.2.1 2 = .ok (.putfield 217, 3) := by decide +kernel
theorem d_M_fan_5 : decode y_M_fan.2.1 5 = .ok (.iload_n 1, 1) := by decide +kernel
theorem d_M_fan_6 : decode y_M_fan.2.1 6 = .ok (.i2l, 1) := by decide +kernel
theorem d_M_fan_7 : decode y_M_fan.2.1 7 = .ok (.lconst 0, 1) := by decide +kernel
theorem d_M_fan_8 : decode y_M_fan.2.1 8 = .ok (.aload_n 0, 1) := by decide +kernel
theorem d_M_fan_9 : decode y_M_fan.2.1 9 = .ok (.getfield 250, 3) := by decide +kernel
theorem d_M_fan_12 : decode y_M_fan.2.1 12 = .ok (.iconst 1, 1) := by decide +kernel
theorem d_M_fan_13 : decode y_M_fan.2.1 13 = .ok (.isub, 1) := by decide +kernel
theorem d_M_fan_14 : decode y_M_fan.2.1 14 = .ok (.i2l, 1) := by decide +kernel
theorem d_M_fan_15 : decode y_M_fan.2.1 15 = .ok (.invokestatic 222, 3) := by decide +kernel
theorem d_M_fan_18 : decode y_M_fan.2.1 18 = .ok (.ifCond .ne 9, 3) := by decide +kernel
theorem d_M_fan_21 : decode y_M_fan.2.1 21 = .ok (.aload_n 0, 1) := by decide +kernel
theorem d_M_fan_22 : decode y_M_fan.2.1 22 = .ok (.iconst 1, 1) := by decide +kernel
theorem d_M_fan_23 : decode y_M_fan.2.1 23 = .ok (.invokevirtual 285, 3) := by decide +kernel
theorem d_M_fan_26 : decode y_M_fan.2.1 26 = .ok (.ireturn, 1) := by decide +kernel
theorem d_M_fan_27 : decode y_M_fan.2.1 27 = .ok (.iload_n 2, 1) := by decide +kernel
theorem d_M_fan_28 : decode y_M_fan.2.1 28 = .ok (.i2l, 1) := by decide +kernel
theorem d_M_fan_29 : decode y_M_fan.2.1 29 = .ok (.lconst 1, 1) := by decide +kernel
theorem d_M_fan_30 : decode y_M_fan.2.1 30 = .ok (.ldc2_w 310, 3) := by decide +kernel
theorem d_M_fan_33 : decode y_M_fan.2.1 33 = .ok (.invokestatic 222, 3) := by decide +kernel
theorem d_M_fan_36 : decode y_M_fan.2.1 36 = .ok (.ifCond .eq 34, 3) := by decide +kernel
theorem d_M_fan_39 : decode y_M_fan.2.1 39 = .ok (.iload_n 3, 1) := by decide +kernel
theorem d_M_fan_40 : decode y_M_fan.2.1 40 = .ok (.i2l, 1) := by decide +kernel
theorem d_M_fan_41 : decode y_M_fan.2.1 41 = .ok (.lconst 1, 1) := by decide +kernel
theorem d_M_fan_42 : decode y_M_fan.2.1 42 = .ok (.ldc2_w 312, 3) := by decide +kernel
theorem d_M_fan_45 : decode y_M_fan.2.1 45 = .ok (.invokestatic 222, 3) := by decide +kernel
theorem d_M_fan_48 : decode y_M_fan.2.1 48 = .ok (.ifCond .eq 22, 3) := by decide +kernel
theorem d_M_fan_51 : decode y_M_fan.2.1 51 = .ok (.iload 4, 2) := by decide +kernel
theorem d_M_fan_53 : decode y_M_fan.2.1 53 = .ok (.i2l, 1) := by decide +kernel
theorem d_M_fan_54 : decode y_M_fan.2.1 54 = .ok (.lconst 0, 1) := by decide +kernel
theorem d_M_fan_55 : decode y_M_fan.2.1 55 = .ok (.iconst 1, 1) := by decide +kernel
theorem d_M_fan_56 : decode y_M_fan.2.1 56 = .ok (.aload_n 0, 1) := by decide +kernel
theorem d_M_fan_57 : decode y_M_fan.2.1 57 = .ok (.getfield 228, 3) := by decide +kernel
theorem d_M_fan_60 : decode y_M_fan.2.1 60 = .ok (.ishl, 1) := by decide +kernel
theorem d_M_fan_61 : decode y_M_fan.2.1 61 = .ok (.iconst 1, 1) := by decide +kernel
theorem d_M_fan_62 : decode y_M_fan.2.1 62 = .ok (.isub, 1) := by decide +kernel
theorem d_M_fan_63 : decode y_M_fan.2.1 63 = .ok (.i2l, 1) := by decide +kernel
theorem d_M_fan_64 : decode y_M_fan.2.1 64 = .ok (.invokestatic 222, 3) := by decide +kernel
theorem d_M_fan_67 : decode y_M_fan.2.1 67 = .ok (.ifCond .ne 9, 3) := by decide +kernel
theorem d_M_fan_70 : decode y_M_fan.2.1 70 = .ok (.aload_n 0, 1) := by decide +kernel
theorem d_M_fan_71 : decode y_M_fan.2.1 71 = .ok (.iconst 2, 1) := by decide +kernel
theorem d_M_fan_72 : decode y_M_fan.2.1 72 = .ok (.invokevirtual 285, 3) := by decide +kernel
theorem d_M_fan_75 : decode y_M_fan.2.1 75 = .ok (.ireturn, 1) := by decide +kernel
theorem d_M_fan_76 : decode y_M_fan.2.1 76 = .ok (.aload_n 0, 1) := by decide +kernel
theorem d_M_fan_77 : decode y_M_fan.2.1 77 = .ok (.getfield 256, 3) := by decide +kernel
theorem d_M_fan_80 : decode y_M_fan.2.1 80 = .ok (.bipush 8, 2) := by decide +kernel
theorem d_M_fan_82 : decode y_M_fan.2.1 82 = .ok (.if_icmp .ne 5, 3) := by decide +kernel
theorem d_M_fan_85 : decode y_M_fan.2.1 85 = .ok (.iconst (-1), 1) := by decide +kernel
theorem d_M_fan_86 : decode y_M_fan.2.1 86 = .ok (.ireturn, 1) := by decide +kernel
theorem d_M_fan_87 : decode y_M_fan.2.1 87 = .ok (.aload_n 0, 1) := by decide +kernel
theorem d_M_fan_88 : decode y_M_fan.2.1 88 = .ok (.iconst 4, 1) := by decide +kernel
theorem d_M_fan_89 : decode y_M_fan.2.1 89 = .ok (.iload_n 1, 1) := by decide +kernel
theorem d_M_fan_90 : decode y_M_fan.2.1 90 = .ok (.iload_n 2, 1) := by decide +kernel
theorem d_M_fan_91 : decode y_M_fan.2.1 91 = .ok (.iload_n 3, 1) := by decide +kernel
theorem d_M_fan_92 : decode y_M_fan.2.1 92 = .ok (.iload 4, 2) := by decide +kernel
theorem d_M_fan_94 : decode y_M_fan.2.1 94 = .ok (.iconst 0, 1) := by decide +kernel
theorem d_M_fan_95 : decode y_M_fan.2.1 95 = .ok (.iconst 0, 1) := by decide +kernel
theorem d_M_fan_96 : decode y_M_fan.2.1 96 = .ok (.invokevirtual 289, 3) := by decide +kernel
theorem d_M_fan_99 : decode y_M_fan.2.1 99 = .ok (.aload_n 0, 1) := by decide +kernel
theorem d_M_fan_100 : decode y_M_fan.2.1 100 = .ok (.getfield 256, 3) := by decide +kernel
theorem d_M_fan_103 : decode y_M_fan.2.1 103 = .ok (.iconst 1, 1) := by decide +kernel
theorem d_M_fan_104 : decode y_M_fan.2.1 104 = .ok (.isub, 1) := by decide +kernel
theorem d_M_fan_105 : decode y_M_fan.2.1 105 = .ok (.ireturn, 1) := by decide +kernel
theorem d_M_set_0 : decode y_M_set.2.1 0 = .ok (.aload_n 0, 1) := by decide +kernel
theorem d_M_set_1 : decode y_M_set.2.1 1 = .ok (.iconst 0, 1) := by decide +kernel
theorem d_M_set_2 : decode y_M_set.2.1 2 = .ok (.putfield 217, 3) := by decide +kernel
theorem d_M_set_5 : decode y_M_set.2.1 5 = .ok (.iload_n 2, 1) := by decide +kernel
theorem d_M_set_6 : decode y_M_set.2.1 6 = .ok (.i2l, 1) := by decide +kernel
theorem d_M_set_7 : decode y_M_set.2.1 7 = .ok (.lconst 0, 1) := by decide +kernel
theorem d_M_set_8 : decode y_M_set.2.1 8 = .ok (.aload_n 0, 1) := by decide +kernel
theorem d_M_set_9 : decode y_M_set.2.1 9 = .ok (.getfield 256, 3) := by decide +kernel
theorem d_M_set_12 : decode y_M_set.2.1 12 = .ok (.iconst 1, 1) := by decide +kernel
theorem d_M_set_13 : decode y_M_set.2.1 13 = .ok (.isub, 1) := by decide +kernel
theorem d_M_set_14 : decode y_M_set.2.1 14 = .ok (.i2l, 1) := by decide +kernel
theorem d_M_set_15 : decode y_M_set.2.1 15 = .ok (.invokestatic 222, 3) := by decide +kernel
theorem d_M_set_18 : decode y_M_set.2.1 18 = .ok (.ifCond .ne 9, 3) := by decide +kernel
theorem d_M_set_21 : decode y_M_set.2.1 21 = .ok (.aload_n 0, 1) := by decide +kernel
theorem d_M_set_22 : decode y_M_set.2.1 22 = .ok (.iconst 1, 1) := by decide +kernel
theorem d_M_set_23 : decode y_M_set.2.1 23 = .ok (.invokevirtual 285, 3) := by decide +kernel
theorem d_M_set_26 : decode y_M_set.2.1 26 = .ok (.ireturn, 1) := by decide +kernel
theorem d_M_set_27 : decode y_M_set.2.1 27 = .ok (.iload_n 1, 1) := by decide +kernel
theorem d_M_set_28 : decode y_M_set.2.1 28 = .ok (.invokestatic 314, 3) := by decide +kernel
theorem d_M_set_31 : decode y_M_set.2.1 31 = .ok (.ifCond .eq 23, 3) := by decide +kernel
theorem d_M_set_34 : decode y_M_set.2.1 34 = .ok (.iload_n 3, 1) := by decide +kernel
theorem d_M_set_35 : decode y_M_set.2.1 35 = .ok (.invokestatic 305, 3) := by decide +kernel
theorem d_M_set_38 : decode y_M_set.2.1 38 = .ok (.ifCond .eq 16, 3) := by decide +kernel
theorem d_M_set_41 : decode y_M_set.2.1 41 = .ok (.iload 4, 2) := by decide +kernel
theorem d_M_set_43 : decode y_M_set.2.1 43 = .ok (.i2l, 1) := by decide +kernel
theorem d_M_set_44 : decode y_M_set.2.1 44 = .ok (.ldc2_w 317, 3) := by decide +kernel
theorem d_M_set_47 : decode y_M_set.2.1 47 = .ok (.lconst 1, 1) := by decide +kernel
theorem d_M_set_48 : decode y_M_set.2.1 48 = .ok (.invokestatic 222, 3) := by decide +kernel
theorem d_M_set_51 : decode y_M_set.2.1 51 = .ok (.ifCond .ne 9, 3) := by decide +kernel
theorem d_M_set_54 : decode y_M_set.2.1 54 = .ok (.aload_n 0, 1) := by decide +kernel
theorem d_M_set_55 : decode y_M_set.2.1 55 = .ok (.iconst 2, 1) := by decide +kernel
theorem d_M_set_56 : decode y_M_set.2.1 56 = .ok (.invokevirtual 285, 3) := by decide +kernel
theorem d_M_set_59 : decode y_M_set.2.1 59 = .ok (.ireturn, 1) := by decide +kernel
theorem d_M_set_60 : decode y_M_set.2.1 60 = .ok (.aload_n 0, 1) := by decide +kernel
theorem d_M_set_61 : decode y_M_set.2.1 61 = .ok (.getfield 259, 3) := by decide +kernel
theorem d_M_set_64 : decode y_M_set.2.1 64 = .ok (.bipush 60, 2) := by decide +kernel
theorem d_M_set_66 : decode y_M_set.2.1 66 = .ok (.if_icmp .ne 5, 3) := by decide +kernel
theorem d_M_set_69 : decode y_M_set.2.1 69 = .ok (.iconst (-1), 1) := by decide +kernel
theorem d_M_set_70 : decode y_M_set.2.1 70 = .ok (.ireturn, 1) := by decide +kernel
theorem d_M_set_71 : decode y_M_set.2.1 71 = .ok (.aload_n 0, 1) := by decide +kernel
theorem d_M_set_72 : decode y_M_set.2.1 72 = .ok (.iconst 5, 1) := by decide +kernel
theorem d_M_set_73 : decode y_M_set.2.1 73 = .ok (.iload_n 1, 1) := by decide +kernel
theorem d_M_set_74 : decode y_M_set.2.1 74 = .ok (.iload_n 2, 1) := by decide +kernel
theorem d_M_set_75 : decode y_M_set.2.1 75 = .ok (.iload_n 3, 1) := by decide +kernel
theorem d_M_set_76 : decode y_M_set.2.1 76 = .ok (.iload 4, 2) := by decide +kernel
theorem d_M_set_78 : decode y_M_set.2.1 78 = .ok (.iconst 0, 1) := by decide +kernel
theorem d_M_set_79 : decode y_M_set.2.1 79 = .ok (.iconst 0, 1) := by decide +kernel
theorem d_M_set_80 : decode y_M_set.2.1 80 = .ok (.invokevirtual 289, 3) := by decide +kernel
theorem d_M_set_83 : decode y_M_set.2.1 83 = .ok (.aload_n 0, 1) := by decide +kernel
theorem d_M_set_84 : decode y_M_set.2.1 84 = .ok (.getfield 259, 3) := by decide +kernel
theorem d_M_set_87 : decode y_M_set.2.1 87 = .ok (.iconst 1, 1) := by decide +kernel
theorem d_M_set_88 : decode y_M_set.2.1 88 = .ok (.isub, 1) := by decide +kernel
theorem d_M_set_89 : decode y_M_set.2.1 89 = .ok (.ireturn, 1) := by decide +kernel
theorem d_M_eyes_0 : decode y_M_eyes.2.1 0 = .ok (.aload_n 0, 1) := by decide +kernel
theorem d_M_eyes_1 : decode y_M_eyes.2.1 1 = .ok (.iconst 0, 1) := by decide +kernel
theorem d_M_eyes_2 : decode y_M_eyes.2.1 2 = .ok (.putfield 217, 3) := by decide +kernel
theorem d_M_eyes_5 : decode y_M_eyes.2.1 5 = .ok (.iload_n 1, 1) := by decide +kernel
theorem d_M_eyes_6 : decode y_M_eyes.2.1 6 = .ok (.i2l, 1) := by decide +kernel
theorem d_M_eyes_7 : decode y_M_eyes.2.1 7 = .ok (.lconst 0, 1) := by decide +kernel
theorem d_M_eyes_8 : decode y_M_eyes.2.1 8 = .ok (.ldc2_w 312, 3) := by decide +kernel
theorem d_M_eyes_11 : decode y_M_eyes.2.1 11 = .ok (.invokestatic 222, 3) := by decide +kernel
theorem d_M_eyes_14 : decode y_M_eyes.2.1 14 = .ok (.ifCond .ne 9, 3) := by decide +kernel
theorem d_M_eyes_17 : decode y_M_eyes.2.1 17 = .ok (.aload_n 0, 1) := by decide +kernel
theorem d_M_eyes_18 : decode y_M_eyes.2.1 18 = .ok (.iconst 1, 1) := by decide +kernel
theorem d_M_eyes_19 : decode y_M_eyes.2.1 19 = .ok (.invokevirtual 285, 3) := by decide +kernel
theorem d_M_eyes_22 : decode y_M_eyes.2.1 22 = .ok (.ireturn, 1) := by decide +kernel
theorem d_M_eyes_23 : decode y_M_eyes.2.1 23 = .ok (.aload_n 0, 1) := by decide +kernel
theorem d_M_eyes_24 : decode y_M_eyes.2.1 24 = .ok (.getfield 7, 3) := by decide +kernel
theorem d_M_eyes_27 : decode y_M_eyes.2.1 27 = .ok (.istore_n 2, 1) := by decide +kernel
theorem d_M_eyes_28 : decode y_M_eyes.2.1 28 = .ok (.aload_n 0, 1) := by decide +kernel
theorem d_M_eyes_29 : decode y_M_eyes.2.1 29 = .ok (.bipush 6, 2) := by decide +kernel
theorem d_M_eyes_31 : decode y_M_eyes.2.1 31 = .ok (.iload_n 1, 1) := by decide +kernel
theorem d_M_eyes_32 : decode y_M_eyes.2.1 32 = .ok (.iconst 0, 1) := by decide +kernel
theorem d_M_eyes_33 : decode y_M_eyes.2.1 33 = .ok (.iconst 0, 1) := by decide +kernel
theorem d_M_eyes_34 : decode y_M_eyes.2.1 34 = .ok (.iconst 0, 1) := by decide +kernel
theorem d_M_eyes_35 : decode y_M_eyes.2.1 35 = .ok (.iconst 0, 1) := by decide +kernel
theorem d_M_eyes_36 : decode y_M_eyes.2.1 36 = .ok (.iconst 0, 1) := by decide +kernel
theorem d_M_eyes_37 : decode y_M_eyes.2.1 37 = .ok (.invokevirtual 289, 3) := by decide +kernel
theorem d_M_eyes_40 : decode y_M_eyes.2.1 40 = .ok (.iload_n 2, 1) := by decide +kernel
theorem d_M_eyes_41 : decode y_M_eyes.2.1 41 = .ok (.ireturn, 1) := by decide +kernel
theorem d_M_group_0 : decode y_M_group.2.1 0 = .ok (.aload_n 0, 1) := by decide +kernel
theorem d_M_group_1 : decode y_M_group.2.1 1 = .ok (.iconst 0, 1) := by decide +kernel
theorem d_M_group_2 : decode y_M_group.2.1 2 = .ok (.putfield 217, 3) := by decide +kernel
theorem d_M_group_5 : decode y_M_group.2.1 5 = .ok (.aload_n 0, 1) := by decide +kernel
theorem d_M_group_6 : decode y_M_group.2.1 6 = .ok (.iload_n 1, 1) := by decide +kernel
theorem d_M_group_7 : decode y_M_group.2.1 7 = .ok (.invokevirtual 293, 3) := by decide +kernel
theorem d_M_group_10 : decode y_M_group.2.1 10 = .ok (.ifCond .ne 9, 3) := by decide +kernel
theorem d_M_group_13 : decode y_M_group.2.1 13 = .ok (.aload_n 0, 1) := by decide +kernel
theorem d_M_group_14 : decode y_M_group.2.1 14 = .ok (.iconst 1, 1) := by decide +kernel
theorem d_M_group_15 : decode y_M_group.2.1 15 = .ok (.invokevirtual 285, 3) := by decide +kernel
theorem d_M_group_18 : decode y_M_group.2.1 18 = .ok (.ireturn, 1) := by decide +kernel
theorem d_M_group_19 : decode y_M_group.2.1 19 = .ok (.iload_n 2, 1) := by decide +kernel
theorem d_M_group_20 : decode y_M_group.2.1 20 = .ok (.i2l, 1) := by decide +kernel
theorem d_M_group_21 : decode y_M_group.2.1 21 = .ok (.lconst 1, 1) := by decide +kernel
theorem d_M_group_22 : decode y_M_group.2.1 22 = .ok (.ldc2_w 319, 3) := by decide +kernel
theorem d_M_group_25 : decode y_M_group.2.1 25 = .ok (.invokestatic 222, 3) := by decide +kernel
theorem d_M_group_28 : decode y_M_group.2.1 28 = .ok (.ifCond .eq 10, 3) := by decide +kernel
theorem d_M_group_31 : decode y_M_group.2.1 31 = .ok (.iload_n 3, 1) := by decide +kernel
theorem d_M_group_32 : decode y_M_group.2.1 32 = .ok (.invokestatic 305, 3) := by decide +kernel
theorem d_M_group_35 : decode y_M_group.2.1 35 = .ok (.ifCond .ne 9, 3) := by decide +kernel
theorem d_M_group_38 : decode y_M_group.2.1 38 = .ok (.aload_n 0, 1) := by decide +kernel
theorem d_M_group_39 : decode y_M_group.2.1 39 = .ok (.iconst 2, 1) := by decide +kernel
theorem d_M_group_40 : decode y_M_group.2.1 40 = .ok (.invokevirtual 285, 3) := by decide +kernel
theorem d_M_group_43 : decode y_M_group.2.1 43 = .ok (.ireturn, 1) := by decide +kernel
theorem d_M_group_44 : decode y_M_group.2.1 44 = .ok (.aload_n 0, 1) := by decide +kernel
theorem d_M_group_45 : decode y_M_group.2.1 45 = .ok (.getfield 262, 3) := by decide +kernel
theorem d_M_group_48 : decode y_M_group.2.1 48 = .ok (.bipush 10, 2) := by decide +kernel
theorem d_M_group_50 : decode y_M_group.2.1 50 = .ok (.if_icmp .ne 5, 3) := by decide +kernel
theorem d_M_group_53 : decode y_M_group.2.1 53 = .ok (.iconst (-1), 1) := by decide +kernel
theorem d_M_group_54 : decode y_M_group.2.1 54 = .ok (.ireturn, 1) := by decide +kernel
theorem d_M_group_55 : decode y_M_group.2.1 55 = .ok (.aload_n 0, 1) := by decide +kernel
theorem d_M_group_56 : decode y_M_group.2.1 56 = .ok (.bipush 7, 2) := by decide +kernel
theorem d_M_group_58 : decode y_M_group.2.1 58 = .ok (.iload_n 1, 1) := by decide +kernel
theorem d_M_group_59 : decode y_M_group.2.1 59 = .ok (.iload_n 2, 1) := by decide +kernel
theorem d_M_group_60 : decode y_M_group.2.1 60 = .ok (.iload_n 3, 1) := by decide +kernel
theorem d_M_group_61 : decode y_M_group.2.1 61 = .ok (.iconst 0, 1) := by decide +kernel
theorem d_M_group_62 : decode y_M_group.2.1 62 = .ok (.iconst 0, 1) := by decide +kernel
theorem d_M_group_63 : decode y_M_group.2.1 63 = .ok (.iconst 0, 1) := by decide +kernel
theorem d_M_group_64 : decode y_M_group.2.1 64 = .ok (.invokevirtual 289, 3) := by decide +kernel
theorem d_M_group_67 : decode y_M_group.2.1 67 = .ok (.aload_n 0, 1) := by decide +kernel
theorem d_M_group_68 : decode y_M_group.2.1 68 = .ok (.getfield 262, 3) := by decide +kernel
theorem d_M_group_71 : decode y_M_group.2.1 71 = .ok (.iconst 1, 1) := by decide +kernel
theorem d_M_group_72 : decode y_M_group.2.1 72 = .ok (.isub, 1) := by decide +kernel
theorem d_M_group_73 : decode y_M_group.2.1 73 = .ok (.ireturn, 1) := by decide +kernel
theorem d_M_walk_0 : decode y_M_walk.2.1 0 = .ok (.aload_n 0, 1) := by decide +kernel
theorem d_M_walk_1 : decode y_M_walk.2.1 1 = .ok (.iconst 0, 1) := by decide +kernel
theorem d_M_walk_2 : decode y_M_walk.2.1 2 = .ok (.putfield 217, 3) := by decide +kernel
theorem d_M_walk_5 : decode y_M_walk.2.1 5 = .ok (.iload_n 1, 1) := by decide +kernel
theorem d_M_walk_6 : decode y_M_walk.2.1 6 = .ok (.i2l, 1) := by decide +kernel
theorem d_M_walk_7 : decode y_M_walk.2.1 7 = .ok (.lconst 1, 1) := by decide +kernel
theorem d_M_walk_8 : decode y_M_walk.2.1 8 = .ok (.ldc2_w 226, 3) := by decide +kernel
theorem d_M_walk_11 : decode y_M_walk.2.1 11 = .ok (.invokestatic 222, 3) := by decide +kernel
theorem d_M_walk_14 : decode y_M_walk.2.1 14 = .ok (.ifCond .ne 9, 3) := by decide +kernel
theorem d_M_walk_17 : decode y_M_walk.2.1 17 = .ok (.aload_n 0, 1) := by decide +kernel
theorem d_M_walk_18 : decode y_M_walk.2.1 18 = .ok (.iconst 1, 1) := by decide +kernel
theorem d_M_walk_19 : decode y_M_walk.2.1 19 = .ok (.invokevirtual 285, 3) := by decide +kernel
theorem d_M_walk_22 : decode y_M_walk.2.1 22 = .ok (.ireturn, 1) := by decide +kernel
theorem d_M_walk_23 : decode y_M_walk.2.1 23 = .ok (.aload_n 0, 1) := by decide +kernel
theorem d_M_walk_24 : decode y_M_walk.2.1 24 = .ok (.getfield 13, 3) := by decide +kernel
theorem d_M_walk_27 : decode y_M_walk.2.1 27 = .ok (.istore_n 2, 1) := by decide +kernel
theorem d_M_walk_28 : decode y_M_walk.2.1 28 = .ok (.aload_n 0, 1) := by decide +kernel
theorem d_M_walk_29 : decode y_M_walk.2.1 29 = .ok (.bipush 8, 2) := by decide +kernel
theorem d_M_walk_31 : decode y_M_walk.2.1 31 = .ok (.iload_n 1, 1) := by decide +kernel
theorem d_M_walk_32 : decode y_M_walk.2.1 32 = .ok (.iconst 0, 1) := by decide +kernel
theorem d_M_walk_33 : decode y_M_walk.2.1 33 = .ok (.iconst 0, 1) := by decide +kernel
theorem d_M_walk_34 : decode y_M_walk.2.1 34 = .ok (.iconst 0, 1) := by decide +kernel
theorem d_M_walk_35 : decode y_M_walk.2.1 35 = .ok (.iconst 0, 1) := by decide +kernel
theorem d_M_walk_36 : decode y_M_walk.2.1 36 = .ok (.iconst 0, 1) := by decide +kernel
theorem d_M_walk_37 : decode y_M_walk.2.1 37 = .ok (.invokevirtual 289, 3) := by decide +kernel
theorem d_M_walk_40 : decode y_M_walk.2.1 40 = .ok (.iload_n 2, 1) := by decide +kernel
theorem d_M_walk_41 : decode y_M_walk.2.1 41 = .ok (.ireturn, 1) := by decide +kernel
theorem d_M_door_0 : decode y_M_door.2.1 0 = .ok (.aload_n 0, 1) := by decide +kernel
theorem d_M_door_1 : decode y_M_door.2.1 1 = .ok (.iconst 0, 1) := by decide +kernel
theorem d_M_door_2 : decode y_M_door.2.1 2 = .ok (.putfield 217, 3) := by decide +kernel
theorem d_M_door_5 : decode y_M_door.2.1 5 = .ok (.aload_n 0, 1) := by decide +kernel
theorem d_M_door_6 : decode y_M_door.2.1 6 = .ok (.iload_n 1, 1) := by decide +kernel
theorem d_M_door_7 : decode y_M_door.2.1 7 = .ok (.invokevirtual 293, 3) := by decide +kernel
theorem d_M_door_10 : decode y_M_door.2.1 10 = .ok (.ifCond .ne 9, 3) := by decide +kernel
theorem d_M_door_13 : decode y_M_door.2.1 13 = .ok (.aload_n 0, 1) := by decide +kernel
theorem d_M_door_14 : decode y_M_door.2.1 14 = .ok (.iconst 1, 1) := by decide +kernel
theorem d_M_door_15 : decode y_M_door.2.1 15 = .ok (.invokevirtual 285, 3) := by decide +kernel
theorem d_M_door_18 : decode y_M_door.2.1 18 = .ok (.ireturn, 1) := by decide +kernel
theorem d_M_door_19 : decode y_M_door.2.1 19 = .ok (.iload_n 2, 1) := by decide +kernel
theorem d_M_door_20 : decode y_M_door.2.1 20 = .ok (.i2l, 1) := by decide +kernel
theorem d_M_door_21 : decode y_M_door.2.1 21 = .ok (.lconst 1, 1) := by decide +kernel
theorem d_M_door_22 : decode y_M_door.2.1 22 = .ok (.ldc2_w 283, 3) := by decide +kernel
theorem d_M_door_25 : decode y_M_door.2.1 25 = .ok (.invokestatic 222, 3) := by decide +kernel
theorem d_M_door_28 : decode y_M_door.2.1 28 = .ok (.ifCond .eq 15, 3) := by decide +kernel
theorem d_M_door_31 : decode y_M_door.2.1 31 = .ok (.iload_n 3, 1) := by decide +kernel
theorem d_M_door_32 : decode y_M_door.2.1 32 = .ok (.i2l, 1) := by decide +kernel
theorem d_M_door_33 : decode y_M_door.2.1 33 = .ok (.lconst 1, 1) := by decide +kernel
theorem d_M_door_34 : decode y_M_door.2.1 34 = .ok (.ldc2_w 321, 3) := by decide +kernel
theorem d_M_door_37 : decode y_M_door.2.1 37 = .ok (.invokestatic 222, 3) := by decide +kernel
theorem d_M_door_40 : decode y_M_door.2.1 40 = .ok (.ifCond .ne 9, 3) := by decide +kernel
theorem d_M_door_43 : decode y_M_door.2.1 43 = .ok (.aload_n 0, 1) := by decide +kernel
theorem d_M_door_44 : decode y_M_door.2.1 44 = .ok (.iconst 2, 1) := by decide +kernel
theorem d_M_door_45 : decode y_M_door.2.1 45 = .ok (.invokevirtual 285, 3) := by decide +kernel
theorem d_M_door_48 : decode y_M_door.2.1 48 = .ok (.ireturn, 1) := by decide +kernel
theorem d_M_door_49 : decode y_M_door.2.1 49 = .ok (.aload_n 0, 1) := by decide +kernel
theorem d_M_door_50 : decode y_M_door.2.1 50 = .ok (.getfield 269, 3) := by decide +kernel
theorem d_M_door_53 : decode y_M_door.2.1 53 = .ok (.bipush 6, 2) := by decide +kernel
theorem d_M_door_55 : decode y_M_door.2.1 55 = .ok (.if_icmp .ne 5, 3) := by decide +kernel
theorem d_M_door_58 : decode y_M_door.2.1 58 = .ok (.iconst (-1), 1) := by decide +kernel
theorem d_M_door_59 : decode y_M_door.2.1 59 = .ok (.ireturn, 1) := by decide +kernel
theorem d_M_door_60 : decode y_M_door.2.1 60 = .ok (.aload_n 0, 1) := by decide +kernel
theorem d_M_door_61 : decode y_M_door.2.1 61 = .ok (.bipush 9, 2) := by decide +kernel
theorem d_M_door_63 : decode y_M_door.2.1 63 = .ok (.iload_n 1, 1) := by decide +kernel
theorem d_M_door_64 : decode y_M_door.2.1 64 = .ok (.iload_n 2, 1) := by decide +kernel
theorem d_M_door_65 : decode y_M_door.2.1 65 = .ok (.iload_n 3, 1) := by decide +kernel
theorem d_M_door_66 : decode y_M_door.2.1 66 = .ok (.iconst 0, 1) := by decide +kernel
theorem d_M_door_67 : decode y_M_door.2.1 67 = .ok (.iconst 0, 1) := by decide +kernel
theorem d_M_door_68 : decode y_M_door.2.1 68 = .ok (.iconst 0, 1) := by decide +kernel
theorem d_M_door_69 : decode y_M_door.2.1 69 = .ok (.invokevirtual 289, 3) := by decide +kernel
theorem d_M_door_72 : decode y_M_door.2.1 72 = .ok (.aload_n 0, 1) := by decide +kernel
theorem d_M_door_73 : decode y_M_door.2.1 73 = .ok (.getfield 269, 3) := by decide +kernel
theorem d_M_door_76 : decode y_M_door.2.1 76 = .ok (.iconst 1, 1) := by decide +kernel
theorem d_M_door_77 : decode y_M_door.2.1 77 = .ok (.isub, 1) := by decide +kernel
theorem d_M_door_78 : decode y_M_door.2.1 78 = .ok (.ireturn, 1) := by decide +kernel
theorem d_M_make_0 : decode y_M_make.2.1 0 = .ok (.aload_n 0, 1) := by decide +kernel
theorem d_M_make_1 : decode y_M_make.2.1 1 = .ok (.iload_n 1, 1) := by decide +kernel
theorem d_M_make_2 : decode y_M_make.2.1 2 = .ok (.i2l, 1) := by decide +kernel
theorem d_M_make_3 : decode y_M_make.2.1 3 = .ok (.lconst 0, 1) := by decide +kernel
theorem d_M_make_4 : decode y_M_make.2.1 4 = .ok (.aload_n 0, 1) := by decide +kernel
theorem d_M_make_5 : decode y_M_make.2.1 5 = .ok (.getfield 269, 3) := by decide +kernel
theorem d_M_make_8 : decode y_M_make.2.1 8 = .ok (.iconst 1, 1) := by decide +kernel
theorem d_M_make_9 : decode y_M_make.2.1 9 = .ok (.isub, 1) := by decide +kernel
theorem d_M_make_10 : decode y_M_make.2.1 10 = .ok (.i2l, 1) := by decide +kernel
theorem d_M_make_11 : decode y_M_make.2.1 11 = .ok (.invokestatic 222, 3) := by decide +kernel
theorem d_M_make_14 : decode y_M_make.2.1 14 = .ok (.ifCond .eq 7, 3) := by decide +kernel
theorem d_M_make_17 : decode y_M_make.2.1 17 = .ok (.iconst 0, 1) := by decide +kernel
theorem d_M_make_18 : decode y_M_make.2.1 18 = .ok (.goto 4, 3) := by decide +kernel
theorem d_M_make_21 : decode y_M_make.2.1 21 = .ok (.iconst 1, 1) := by decide +kernel
theorem d_M_make_22 : decode y_M_make.2.1 22 = .ok (.putfield 217, 3) := by decide +kernel
theorem d_M_make_25 : decode y_M_make.2.1 25 = .ok (.aload_n 0, 1) := by decide +kernel
theorem d_M_make_26 : decode y_M_make.2.1 26 = .ok (.getfield 217, 3) := by decide +kernel
theorem d_M_make_29 : decode y_M_make.2.1 29 = .ok (.ifCond .le 5, 3) := by decide +kernel
theorem d_M_make_32 : decode y_M_make.2.1 32 = .ok (.iconst 0, 1) := by decide +kernel
theorem d_M_make_33 : decode y_M_make.2.1 33 = .ok (.ireturn, 1) := by decide +kernel
theorem d_M_make_34 : decode y_M_make.2.1 34 = .ok (.aload_n 0, 1) := by decide +kernel
theorem d_M_make_35 : decode y_M_make.2.1 35 = .ok (.getfield 107, 3) := by decide +kernel
theorem d_M_make_38 : decode y_M_make.2.1 38 = .ok (.iload_n 1, 1) := by decide +kernel
theorem d_M_make_39 : decode y_M_make.2.1 39 = .ok (.baload, 1) := by decide +kernel
theorem d_M_make_40 : decode y_M_make.2.1 40 = .ok (.istore_n 3, 1) := by decide +kernel
theorem d_M_make_41 : decode y_M_make.2.1 41 = .ok (.aload_n 0, 1) := by decide +kernel
theorem d_M_make_42 : decode y_M_make.2.1 42 = .ok (.bipush 10, 2) := by decide +kernel
theorem d_M_make_44 : decode y_M_make.2.1 44 = .ok (.iload_n 1, 1) := by decide +kernel
theorem d_M_make_45 : decode y_M_make.2.1 45 = .ok (.iload_n 2, 1) := by decide +kernel
theorem d_M_make_46 : decode y_M_make.2.1 46 = .ok (.ifCond .eq 7, 3) := by decide +kernel
theorem d_M_make_49 : decode y_M_make.2.1 49 = .ok (.iconst 1, 1) := by decide +kernel
theorem d_M_make_50 : decode y_M_make.2.1 50 = .ok (.goto 4, 3) := by decide +kernel
theorem d_M_make_53 : decode y_M_make.2.1 53 = .ok (.iconst 0, 1) := by decide +kernel
theorem d_M_make_54 : decode y_M_make.2.1 54 = .ok (.iconst 0, 1) := by decide +kernel
theorem d_M_make_55 : decode y_M_make.2.1 55 = .ok (.iconst 0, 1) := by decide +kernel
theorem d_M_make_56 : decode y_M_make.2.1 56 = .ok (.iconst 0, 1) := by decide +kernel
theorem d_M_make_57 : decode y_M_make.2.1 57 = .ok (.iconst 0, 1) := by decide +kernel
theorem d_M_make_58 : decode y_M_make.2.1 58 = .ok (.invokevirtual 289, 3) := by decide +kernel
theorem d_M_make_61 : decode y_M_make.2.1 61 = .ok (.iload_n 3, 1) := by decide +kernel
theorem d_M_make_62 : decode y_M_make.2.1 62 = .ok (.ireturn, 1) := by decide +kernel
theorem d_M_gauges_0 : decode y_M_gauges.2.1 0 = .ok (.aload_n 0, 1) := by decide +kernel
theorem d_M_gauges_1 : decode y_M_gauges.2.1 1 = .ok (.iload_n 1, 1) := by decide +kernel
theorem d_M_gauges_2 : decode y_M_gauges.2.1 2 = .ok (.i2l, 1) := by decide +kernel
theorem d_M_gauges_3 : decode y_M_gauges.2.1 3 = .ok (.lconst 0, 1) := by decide +kernel
theorem d_M_gauges_4 : decode y_M_gauges.2.1 4 = .ok (.iconst 1, 1) := by decide +kernel
theorem d_M_gauges_5 : decode y_M_gauges.2.1 5 = .ok (.aload_n 0, 1) := by decide +kernel
theorem d_M_gauges_6 : decode y_M_gauges.2.1 6 = .ok (.getfield 228, 3) := by decide +kernel
theorem d_M_gauges_9 : decode y_M_gauges.2.1 9 = .ok (.ishl, 1) := by decide +kernel
theorem d_M_gauges_10 : decode y_M_gauges.2.1 10 = .ok (.iconst 1, 1) := by decide +kernel
theorem d_M_gauges_11 : decode y_M_gauges.2.1 11 = .ok (.isub, 1) := by decide +kernel
theorem d_M_gauges_12 : decode y_M_gauges.2.1 12 = .ok (.i2l, 1) := by decide +kernel
theorem d_M_gauges_13 : decode y_M_gauges.2.1 13 = .ok (.invokestatic 222, 3) := by decide +kernel
theorem d_M_gauges_16 : decode y_M_gauges.2.1 16 = .ok (.ifCond .eq 31, 3) := by decide +kernel
theorem d_M_gauges_19 : decode y_M_gauges.2.1 19 = .ok (.iload_n 2, 1) := by decide +kernel
theorem d_M_gauges_20 : decode y_M_gauges.2.1 20 = .ok (.i2l, 1) := by decide +kernel
theorem d_M_gauges_21 : decode y_M_gauges.2.1 21 = .ok (.lconst 1, 1) := by decide +kernel
theorem d_M_gauges_22 : decode y_M_gauges.2.1 22 = .ok (.ldc2_w 312, 3) := by decide +kernel
theorem d_M_gauges_25 : decode y_M_gauges.2.1 25 = .ok (.invokestatic 222, 3) := by decide +kernel
theorem d_M_gauges_28 : decode y_M_gauges.2.1 28 = .ok (.ifCond .eq 19, 3) := by decide +kernel
theorem d_M_gauges_31 : decode y_M_gauges.2.1 31 = .ok (.iload_n 3, 1) := by decide +kernel
theorem d_M_gauges_32 : decode y_M_gauges.2.1 32 = .ok (.i2l, 1) := by decide +kernel
theorem d_M_gauges_33 : decode y_M_gauges.2.1 33 = .ok (.lconst 0, 1) := by decide +kernel
theorem d_M_gauges_34 : decode y_M_gauges.2.1 34 = .ok (.ldc2_w 323, 3) := by decide +kernel
theorem d_M_gauges_37 : decode y_M_gauges.2.1 37 = .ok (.invokestatic 222, 3) := by decide +kernel
theorem d_M_gauges_40 : decode y_M_gauges.2.1 40 = .ok (.ifCond .eq 7, 3) := by decide +kernel
theorem d_M_gauges_43 : decode y_M_gauges.2.1 43 = .ok (.iconst 0, 1) := by decide +kernel
theorem d_M_gauges_44 : decode y_M_gauges.2.1 44 = .ok (.goto 4, 3) := by decide +kernel
theorem d_M_gauges_47 : decode y_M_gauges.2.1 47 = .ok (.iconst 1, 1) := by decide +kernel
theorem d_M_gauges_48 : decode y_M_gauges.2.1 48 = .ok (.putfield 217, 3) := by decide +kernel
theorem d_M_gauges_51 : decode y_M_gauges.2.1 51 = .ok (.aload_n 0, 1) := by decide +kernel
theorem d_M_gauges_52 : decode y_M_gauges.2.1 52 = .ok (.getfield 217, 3) := by decide +kernel
theorem d_M_gauges_55 : decode y_M_gauges.2.1 55 = .ok (.ifCond .ne 15, 3) := by decide +kernel
theorem d_M_gauges_58 : decode y_M_gauges.2.1 58 = .ok (.aload_n 0, 1) := by decide +kernel
theorem d_M_gauges_59 : decode y_M_gauges.2.1 59 = .ok (.bipush 11, 2) := by decide +kernel
theorem d_M_gauges_61 : decode y_M_gauges.2.1 61 = .ok (.iload_n 1, 1) := by decide +kernel
theorem d_M_gauges_62 : decode y_M_gauges.2.1 62 = .ok (.iload_n 2, 1) := by decide +kernel
theorem d_M_gauges_63 : decode y_M_gauges.2.1 63 = .ok (.iload_n 3, 1) := by decide +kernel
theorem d_M_gauges_64 : decode y_M_gauges.2.1 64 = .ok (.iconst 0, 1) := by decide +kernel
theorem d_M_gauges_65 : decode y_M_gauges.2.1 65 = .ok (.iconst 0, 1) := by decide +kernel
theorem d_M_gauges_66 : decode y_M_gauges.2.1 66 = .ok (.iconst 0, 1) := by decide +kernel
theorem d_M_gauges_67 : decode y_M_gauges.2.1 67 = .ok (.invokevirtual 289, 3) := by decide +kernel
theorem d_M_gauges_70 : decode y_M_gauges.2.1 70 = .ok (.return_, 1) := by decide +kernel
theorem d_M_gives_0 : decode y_M_gives.2.1 0 = .ok (.iload_n 1, 1) := by decide +kernel
theorem d_M_gives_1 : decode y_M_gives.2.1 1 = .ok (.iconst (-1), 1) := by decide +kernel
theorem d_M_gives_2 : decode y_M_gives.2.1 2 = .ok (.if_icmp .eq 23, 3) := by decide +kernel
theorem d_M_gives_5 : decode y_M_gives.2.1 5 = .ok (.iload_n 2, 1) := by decide +kernel
theorem d_M_gives_6 : decode y_M_gives.2.1 6 = .ok (.aload_n 0, 1) := by decide +kernel
theorem d_M_gives_7 : decode y_M_gives.2.1 7 = .ok (.getfield 50, 3) := by decide +kernel
theorem d_M_gives_10 : decode y_M_gives.2.1 10 = .ok (.iload_n 1, 1) := by decide +kernel
theorem d_M_gives_11 : decode y_M_gives.2.1 11 = .ok (.iaload, 1) := by decide +kernel
theorem d_M_gives_12 : decode y_M_gives.2.1 12 = .ok (.if_icmp .lt 13, 3) := by decide +kernel
theorem d_M_gives_15 : decode y_M_gives.2.1 15 = .ok (.iload_n 2, 1) := by decide +kernel
theorem d_M_gives_16 : decode y_M_gives.2.1 16 = .ok (.aload_n 0, 1) := by decide +kernel
theorem d_M_gives_17 : decode y_M_gives.2.1 17 = .ok (.getfield 53, 3) := by decide +kernel
theorem d_M_gives_20 : decode y_M_gives.2.1 20 = .ok (.iload_n 1, 1) := by decide +kernel
theorem d_M_gives_21 : decode y_M_gives.2.1 21 = .ok (.iaload, 1) := by decide +kernel
theorem d_M_gives_22 : decode y_M_gives.2.1 22 = .ok (.if_icmp .lt 5, 3) := by decide +kernel
theorem d_M_gives_25 : decode y_M_gives.2.1 25 = .ok (.iconst 0, 1) := by decide +kernel
theorem d_M_gives_26 : decode y_M_gives.2.1 26 = .ok (.ireturn, 1) := by decide +kernel
theorem d_M_gives_27 : decode y_M_gives.2.1 27 = .ok (.aload_n 0, 1) := by decide +kernel
theorem d_M_gives_28 : decode y_M_gives.2.1 28 = .ok (.getfield 62, 3) := by decide +kernel
theorem d_M_gives_31 : decode y_M_gives.2.1 31 = .ok (.iload_n 1, 1) := by decide +kernel
theorem d_M_gives_32 : decode y_M_gives.2.1 32 = .ok (.iaload, 1) := by decide +kernel
theorem d_M_gives_33 : decode y_M_gives.2.1 33 = .ok (.aload_n 0, 1) := by decide +kernel
theorem d_M_gives_34 : decode y_M_gives.2.1 34 = .ok (.getfield 56, 3) := by decide +kernel
theorem d_M_gives_37 : decode y_M_gives.2.1 37 = .ok (.iload_n 1, 1) := by decide +kernel
theorem d_M_gives_38 : decode y_M_gives.2.1 38 = .ok (.iaload, 1) := by decide +kernel
theorem d_M_gives_39 : decode y_M_gives.2.1 39 = .ok (.aload_n 0, 1) := by decide +kernel
theorem d_M_gives_40 : decode y_M_gives.2.1 40 = .ok (.getfield 59, 3) := by decide +kernel
theorem d_M_gives_43 : decode y_M_gives.2.1 43 = .ok (.iload_n 1, 1) := by decide +kernel
theorem d_M_gives_44 : decode y_M_gives.2.1 44 = .ok (.iaload, 1) := by decide +kernel
theorem d_M_gives_45 : decode y_M_gives.2.1 45 = .ok (.iload_n 2, 1) := by decide +kernel
theorem d_M_gives_46 : decode y_M_gives.2.1 46 = .ok (.aload_n 0, 1) := by decide +kernel
theorem d_M_gives_47 : decode y_M_gives.2.1 47 = .ok (.getfield 50, 3) := by decide +kernel
theorem d_M_gives_50 : decode y_M_gives.2.1 50 = .ok (.iload_n 1, 1) := by decide +kernel
theorem d_M_gives_51 : decode y_M_gives.2.1 51 = .ok (.iaload, 1) := by decide +kernel
theorem d_M_gives_52 : decode y_M_gives.2.1 52 = .ok (.isub, 1) := by decide +kernel
theorem d_M_gives_53 : decode y_M_gives.2.1 53 = .ok (.imul, 1) := by decide +kernel
theorem d_M_gives_54 : decode y_M_gives.2.1 54 = .ok (.iadd, 1) := by decide +kernel
theorem d_M_gives_55 : decode y_M_gives.2.1 55 = .ok (.invokestatic 325, 3) := by decide +kernel
theorem d_M_gives_58 : decode y_M_gives.2.1 58 = .ok (.ireturn, 1) := by decide +kernel
theorem d_M_isBy_0 : decode y_M_isBy.2.1 0 = .ok (.iconst (-1), 1) := by decide +kernel
theorem d_M_isBy_1 : decode y_M_isBy.2.1 1 = .ok (.istore 4, 2) := by decide +kernel
theorem d_M_isBy_3 : decode y_M_isBy.2.1 3 = .ok (.iconst 0, 1) := by decide +kernel
theorem d_M_isBy_4 : decode y_M_isBy.2.1 4 = .ok (.istore 5, 2) := by decide +kernel
theorem d_M_isBy_6 : decode y_M_isBy.2.1 6 = .ok (.iload 5, 2) := by decide +kernel
theorem d_M_isBy_8 : decode y_M_isBy.2.1 8 = .ok (.aload_n 0, 1) := by decide +kernel
theorem d_M_isBy_9 : decode y_M_isBy.2.1 9 = .ok (.getfield 259, 3) := by decide +kernel
theorem d_M_isBy_12 : decode y_M_isBy.2.1 12 = .ok (.if_icmp .ge 69, 3) := by decide +kernel
theorem d_M_isBy_15 : decode y_M_isBy.2.1 15 = .ok (.aload_n 0, 1) := by decide +kernel
theorem d_M_isBy_16 : decode y_M_isBy.2.1 16 = .ok (.getfield 77, 3) := by decide +kernel
theorem d_M_isBy_19 : decode y_M_isBy.2.1 19 = .ok (.iload 5, 2) := by decide +kernel
theorem d_M_isBy_21 : decode y_M_isBy.2.1 21 = .ok (.iaload, 1) := by decide +kernel
theorem d_M_isBy_22 : decode y_M_isBy.2.1 22 = .ok (.iload_n 1, 1) := by decide +kernel
theorem d_M_isBy_23 : decode y_M_isBy.2.1 23 = .ok (.if_icmp .ne 52, 3) := by decide +kernel
theorem d_M_isBy_26 : decode y_M_isBy.2.1 26 = .ok (.aload_n 0, 1) := by decide +kernel
theorem d_M_isBy_27 : decode y_M_isBy.2.1 27 = .ok (.getfield 80, 3) := by decide +kernel
theorem d_M_isBy_30 : decode y_M_isBy.2.1 30 = .ok (.iload 5, 2) := by decide +kernel
theorem d_M_isBy_32 : decode y_M_isBy.2.1 32 = .ok (.iaload, 1) := by decide +kernel
theorem d_M_isBy_33 : decode y_M_isBy.2.1 33 = .ok (.iload_n 2, 1) := by decide +kernel
theorem d_M_isBy_34 : decode y_M_isBy.2.1 34 = .ok (.if_icmp .ne 41, 3) := by decide +kernel
theorem d_M_isBy_37 : decode y_M_isBy.2.1 37 = .ok (.aload_n 0, 1) := by decide +kernel
theorem d_M_isBy_38 : decode y_M_isBy.2.1 38 = .ok (.getfield 83, 3) := by decide +kernel
theorem d_M_isBy_41 : decode y_M_isBy.2.1 41 = .ok (.iload 5, 2) := by decide +kernel
theorem d_M_isBy_43 : decode y_M_isBy.2.1 43 = .ok (.iaload, 1) := by decide +kernel
theorem d_M_isBy_44 : decode y_M_isBy.2.1 44 = .ok (.iload_n 3, 1) := by decide +kernel
theorem d_M_isBy_45 : decode y_M_isBy.2.1 45 = .ok (.if_icmp .gt 30, 3) := by decide +kernel
theorem d_M_isBy_48 : decode y_M_isBy.2.1 48 = .ok (.iload 4, 2) := by decide +kernel
theorem d_M_isBy_50 : decode y_M_isBy.2.1 50 = .ok (.iconst (-1), 1) := by decide +kernel
theorem d_M_isBy_51 : decode y_M_isBy.2.1 51 = .ok (.if_icmp .eq 20, 3) := by decide +kernel
theorem d_M_isBy_54 : decode y_M_isBy.2.1 54 = .ok (.aload_n 0, 1) := by decide +kernel
theorem d_M_isBy_55 : decode y_M_isBy.2.1 55 = .ok (.getfield 83, 3) := by decide +kernel
theorem d_M_isBy_58 : decode y_M_isBy.2.1 58 = .ok (.iload 5, 2) := by decide +kernel
theorem d_M_isBy_60 : decode y_M_isBy.2.1 60 = .ok (.iaload, 1) := by decide +kernel
theorem d_M_isBy_61 : decode y_M_isBy.2.1 61 = .ok (.aload_n 0, 1) := by decide +kernel
theorem d_M_isBy_62 : decode y_M_isBy.2.1 62 = .ok (.getfield 83, 3) := by decide +kernel
theorem d_M_isBy_65 : decode y_M_isBy.2.1 65 = .ok (.iload 4, 2) := by decide +kernel
theorem d_M_isBy_67 : decode y_M_isBy.2.1 67 = .ok (.iaload, 1) := by decide +kernel
theorem d_M_isBy_68 : decode y_M_isBy.2.1 68 = .ok (.if_icmp .lt 7, 3) := by decide +kernel
theorem d_M_isBy_71 : decode y_M_isBy.2.1 71 = .ok (.iload 5, 2) := by decide +kernel
theorem d_M_isBy_73 : decode y_M_isBy.2.1 73 = .ok (.istore 4, 2) := by decide +kernel
theorem d_M_isBy_75 : decode y_M_isBy.2.1 75 = .ok (.iinc 5 1, 3) := by decide +kernel
theorem d_M_isBy_78 : decode y_M_isBy.2.1 78 = .ok (.goto (-72), 3) := by decide +kernel
theorem d_M_isBy_81 : decode y_M_isBy.2.1 81 = .ok (.iload 4, 2) := by decide +kernel
theorem d_M_isBy_83 : decode y_M_isBy.2.1 83 = .ok (.iconst (-1), 1) := by decide +kernel
theorem d_M_isBy_84 : decode y_M_isBy.2.1 84 = .ok (.if_icmp .ne 7, 3) := by decide +kernel
theorem d_M_isBy_87 : decode y_M_isBy.2.1 87 = .ok (.iconst 0, 1) := by decide +kernel
theorem d_M_isBy_88 : decode y_M_isBy.2.1 88 = .ok (.goto 10, 3) := by decide +kernel
theorem d_M_isBy_91 : decode y_M_isBy.2.1 91 = .ok (.aload_n 0, 1) := by decide +kernel
theorem d_M_isBy_92 : decode y_M_isBy.2.1 92 = .ok (.getfield 86, 3) := by decide +kernel
theorem d_M_isBy_95 : decode y_M_isBy.2.1 95 = .ok (.iload 4, 2) := by decide +kernel
theorem d_M_isBy_97 : decode y_M_isBy.2.1 97 = .ok (.iaload, 1) := by decide +kernel
theorem d_M_isBy_98 : decode y_M_isBy.2.1 98 = .ok (.ireturn, 1) := by decide +kernel
theorem d_M_loses_0 : decode y_M_loses.2.1 0 = .ok (.iconst 1, 1) := by decide +kernel
theorem d_M_loses_1 : decode y_M_loses.2.1 1 = .ok (.aload_n 0, 1) := by decide +kernel
theorem d_M_loses_2 : decode y_M_loses.2.1 2 = .ok (.getfield 32, 3) := by decide +kernel
theorem d_M_loses_5 : decode y_M_loses.2.1 5 = .ok (.aload_n 0, 1) := by decide +kernel
theorem d_M_loses_6 : decode y_M_loses.2.1 6 = .ok (.getfield 65, 3) := by decide +kernel
theorem d_M_loses_9 : decode y_M_loses.2.1 9 = .ok (.iload_n 1, 1) := by decide +kernel
theorem d_M_loses_10 : decode y_M_loses.2.1 10 = .ok (.iaload, 1) := by decide +kernel
theorem d_M_loses_11 : decode y_M_loses.2.1 11 = .ok (.iaload, 1) := by decide +kernel
theorem d_M_loses_12 : decode y_M_loses.2.1 12 = .ok (.ishl, 1) := by decide +kernel
theorem d_M_loses_13 : decode y_M_loses.2.1 13 = .ok (.iconst 1, 1) := by decide +kernel
theorem d_M_loses_14 : decode y_M_loses.2.1 14 = .ok (.aload_n 0, 1) := by decide +kernel
theorem d_M_loses_15 : decode y_M_loses.2.1 15 = .ok (.getfield 35, 3) := by decide +kernel
theorem d_M_loses_18 : decode y_M_loses.2.1 18 = .ok (.aload_n 0, 1) := by decide +kernel
theorem d_M_loses_19 : decode y_M_loses.2.1 19 = .ok (.getfield 65, 3) := by decide +kernel
theorem d_M_loses_22 : decode y_M_loses.2.1 22 = .ok (.iload_n 1, 1) := by decide +kernel
theorem d_M_loses_23 : decode y_M_loses.2.1 23 = .ok (.iaload, 1) := by decide +kernel
theorem d_M_loses_24 : decode y_M_loses.2.1 24 = .ok (.iaload, 1) := by decide +kernel
theorem d_M_loses_25 : decode y_M_loses.2.1 25 = .ok (.ishl, 1) := by decide +kernel
theorem d_M_loses_26 : decode y_M_loses.2.1 26 = .ok (.ior, 1) := by decide +kernel
theorem d_M_loses_27 : decode y_M_loses.2.1 27 = .ok (.aload_n 0, 1) := by decide +kernel
theorem d_M_loses_28 : decode y_M_loses.2.1 28 = .ok (.getfield 74, 3) := by decide +kernel
theorem d_M_loses_31 : decode y_M_loses.2.1 31 = .ok (.iload_n 1, 1) := by decide +kernel
theorem d_M_loses_32 : decode y_M_loses.2.1 32 = .ok (.iaload, 1) := by decide +kernel
theorem d_M_loses_33 : decode y_M_loses.2.1 33 = .ok (.ior, 1) := by decide +kernel
theorem d_M_loses_34 : decode y_M_loses.2.1 34 = .ok (.istore_n 3, 1) := by decide +kernel
theorem d_M_loses_35 : decode y_M_loses.2.1 35 = .ok (.iconst 0, 1) := by decide +kernel
theorem d_M_loses_36 : decode y_M_loses.2.1 36 = .ok (.istore 4, 2) := by decide +kernel
theorem d_M_loses_38 : decode y_M_loses.2.1 38 = .ok (.iload 4, 2) := by decide +kernel
theorem d_M_loses_40 : decode y_M_loses.2.1 40 = .ok (.aload_n 0, 1) := by decide +kernel
theorem d_M_loses_41 : decode y_M_loses.2.1 41 = .ok (.getfield 228, 3) := by decide +kernel
theorem d_M_loses_44 : decode y_M_loses.2.1 44 = .ok (.if_icmp .ge 49, 3) := by decide +kernel
theorem d_M_loses_47 : decode y_M_loses.2.1 47 = .ok (.iload_n 3, 1) := by decide +kernel
theorem d_M_loses_48 : decode y_M_loses.2.1 48 = .ok (.iload 4, 2) := by decide +kernel
theorem d_M_loses_50 : decode y_M_loses.2.1 50 = .ok (.ishr, 1) := by decide +kernel
theorem d_M_loses_51 : decode y_M_loses.2.1 51 = .ok (.iconst 1, 1) := by decide +kernel
theorem d_M_loses_52 : decode y_M_loses.2.1 52 = .ok (.iand, 1) := by decide +kernel
theorem d_M_loses_53 : decode y_M_loses.2.1 53 = .ok (.iconst 1, 1) := by decide +kernel
theorem d_M_loses_54 : decode y_M_loses.2.1 54 = .ok (.if_icmp .ne 33, 3) := by decide +kernel
theorem d_M_loses_57 : decode y_M_loses.2.1 57 = .ok (.aload_n 0, 1) := by decide +kernel
theorem d_M_loses_58 : decode y_M_loses.2.1 58 = .ok (.getfield 129, 3) := by decide +kernel
theorem d_M_loses_61 : decode y_M_loses.2.1 61 = .ok (.bipush 8, 2) := by decide +kernel
theorem d_M_loses_63 : decode y_M_loses.2.1 63 = .ok (.iload_n 2, 1) := by decide +kernel
theorem d_M_loses_64 : decode y_M_loses.2.1 64 = .ok (.iconst 1, 1) := by decide +kernel
theorem d_M_loses_65 : decode y_M_loses.2.1 65 = .ok (.isub, 1) := by decide +kernel
theorem d_M_loses_66 : decode y_M_loses.2.1 66 = .ok (.imul, 1) := by decide +kernel
theorem d_M_loses_67 : decode y_M_loses.2.1 67 = .ok (.iload 4, 2) := by decide +kernel
theorem d_M_loses_69 : decode y_M_loses.2.1 69 = .ok (.iadd, 1) := by decide +kernel
theorem d_M_loses_70 : decode y_M_loses.2.1 70 = .ok (.iaload, 1) := by decide +kernel
theorem d_M_loses_71 : decode y_M_loses.2.1 71 = .ok (.aload_n 0, 1) := by decide +kernel
theorem d_M_loses_72 : decode y_M_loses.2.1 72 = .ok (.getfield 71, 3) := by decide +kernel
theorem d_M_loses_75 : decode y_M_loses.2.1 75 = .ok (.iload_n 1, 1) := by decide +kernel
theorem d_M_loses_76 : decode y_M_loses.2.1 76 = .ok (.iaload, 1) := by decide +kernel
theorem d_M_loses_77 : decode y_M_loses.2.1 77 = .ok (.if_icmp .lt 10, 3) := by decide +kernel
theorem d_M_loses_80 : decode y_M_loses.2.1 80 = .ok (.aload_n 0, 1) := by decide +kernel
theorem d_M_loses_81 : decode y_M_loses.2.1 81 = .ok (.getfield 138, 3) := by decide +kernel
theorem d_M_loses_84 : decode y_M_loses.2.1 84 = .ok (.iload_n 1, 1) := by decide +kernel
theorem d_M_loses_85 : decode y_M_loses.2.1 85 = .ok (.iload_n 2, 1) := by decide +kernel
theorem d_M_loses_86 : decode y_M_loses.2.1 86 = .ok (.iastore, 1) := by decide +kernel
theorem d_M_loses_87 : decode y_M_loses.2.1 87 = .ok (.iinc 4 1, 3) := by decide +kernel
theorem d_M_loses_90 : decode y_M_loses.2.1 90 = .ok (.goto (-52), 3) := by decide +kernel
theorem d_M_loses_93 : decode y_M_loses.2.1 93 = .ok (.return_, 1) := by decide +kernel
theorem d_M_blows_0 : decode y_M_blows.2.1 0 = .ok (.iconst 0, 1) := by decide +kernel
theorem d_M_blows_1 : decode y_M_blows.2.1 1 = .ok (.istore_n 3, 1) := by decide +kernel
theorem d_M_blows_2 : decode y_M_blows.2.1 2 = .ok (.iload_n 3, 1) := by decide +kernel
theorem d_M_blows_3 : decode y_M_blows.2.1 3 = .ok (.aload_n 0, 1) := by decide +kernel
theorem d_M_blows_4 : decode y_M_blows.2.1 4 = .ok (.getfield 250, 3) := by decide +kernel
theorem d_M_blows_7 : decode y_M_blows.2.1 7 = .ok (.if_icmp .ge 101, 3) := by decide +kernel
theorem d_M_blows_10 : decode y_M_blows.2.1 10 = .ok (.aload_n 0, 1) := by decide +kernel
theorem d_M_blows_11 : decode y_M_blows.2.1 11 = .ok (.getfield 44, 3) := by decide +kernel
theorem d_M_blows_14 : decode y_M_blows.2.1 14 = .ok (.iload_n 3, 1) := by decide +kernel
theorem d_M_blows_15 : decode y_M_blows.2.1 15 = .ok (.iaload, 1) := by decide +kernel
theorem d_M_blows_16 : decode y_M_blows.2.1 16 = .ok (.istore 4, 2) := by decide +kernel
theorem d_M_blows_18 : decode y_M_blows.2.1 18 = .ok (.iconst 0, 1) := by decide +kernel
theorem d_M_blows_19 : decode y_M_blows.2.1 19 = .ok (.istore 5, 2) := by decide +kernel
theorem d_M_blows_21 : decode y_M_blows.2.1 21 = .ok (.iload 5, 2) := by decide +kernel
theorem d_M_blows_23 : decode y_M_blows.2.1 23 = .ok (.aload_n 0, 1) := by decide +kernel
theorem d_M_blows_24 : decode y_M_blows.2.1 24 = .ok (.getfield 256, 3) := by decide +kernel
theorem d_M_blows_27 : decode y_M_blows.2.1 27 = .ok (.if_icmp .ge 52, 3) := by decide +kernel
theorem d_M_blows_30 : decode y_M_blows.2.1 30 = .ok (.aload_n 0, 1) := by decide +kernel
theorem d_M_blows_31 : decode y_M_blows.2.1 31 = .ok (.getfield 65, 3) := by decide +kernel
theorem d_M_blows_34 : decode y_M_blows.2.1 34 = .ok (.iload 5, 2) := by decide +kernel
theorem d_M_blows_36 : decode y_M_blows.2.1 36 = .ok (.iaload, 1) := by decide +kernel
theorem d_M_blows_37 : decode y_M_blows.2.1 37 = .ok (.iload_n 3, 1) := by decide +kernel
theorem d_M_blows_38 : decode y_M_blows.2.1 38 = .ok (.if_icmp .ne 35, 3) := by decide +kernel
theorem d_M_blows_41 : decode y_M_blows.2.1 41 = .ok (.aload_n 0, 1) := by decide +kernel
theorem d_M_blows_42 : decode y_M_blows.2.1 42 = .ok (.getfield 138, 3) := by decide +kernel
theorem d_M_blows_45 : decode y_M_blows.2.1 45 = .ok (.iload 5, 2) := by decide +kernel
theorem d_M_blows_47 : decode y_M_blows.2.1 47 = .ok (.iaload, 1) := by decide +kernel
theorem d_M_blows_48 : decode y_M_blows.2.1 48 = .ok (.iconst (-1), 1) := by decide +kernel
theorem d_M_blows_49 : decode y_M_blows.2.1 49 = .ok (.if_icmp .ne 24, 3) := by decide +kernel
theorem d_M_blows_52 : decode y_M_blows.2.1 52 = .ok (.iload 4, 2) := by decide +kernel
theorem d_M_blows_54 : decode y_M_blows.2.1 54 = .ok (.aload_n 0, 1) := by decide +kernel
theorem d_M_blows_55 : decode y_M_blows.2.1 55 = .ok (.getfield 68, 3) := by decide +kernel
theorem d_M_blows_58 : decode y_M_blows.2.1 58 = .ok (.iload 5, 2) := by decide +kernel
theorem d_M_blows_60 : decode y_M_blows.2.1 60 = .ok (.iaload, 1) := by decide +kernel
theorem d_M_blows_61 : decode y_M_blows.2.1 61 = .ok (.aload_n 0, 1) := by decide +kernel
theorem d_M_blows_62 : decode y_M_blows.2.1 62 = .ok (.iload_n 1, 1) := by decide +kernel
theorem d_M_blows_63 : decode y_M_blows.2.1 63 = .ok (.iload 5, 2) := by decide +kernel
theorem d_M_blows_65 : decode y_M_blows.2.1 65 = .ok (.iload_n 2, 1) := by decide +kernel
theorem d_M_blows_66 : decode y_M_blows.2.1 66 = .ok (.invokevirtual 328, 3) := by decide +kernel
theorem d_M_blows_69 : decode y_M_blows.2.1 69 = .ok (.imul, 1) := by decide +kernel
theorem d_M_blows_70 : decode y_M_blows.2.1 70 = .ok (.iadd, 1) := by decide +kernel
theorem d_M_blows_71 : decode y_M_blows.2.1 71 = .ok (.istore 4, 2) := by decide +kernel
theorem d_M_blows_73 : decode y_M_blows.2.1 73 = .ok (.iinc 5 1, 3) := by decide +kernel
theorem d_M_blows_76 : decode y_M_blows.2.1 76 = .ok (.goto (-55), 3) := by decide +kernel
theorem d_M_blows_79 : decode y_M_blows.2.1 79 = .ok (.aload_n 0, 1) := by decide +kernel
theorem d_M_blows_80 : decode y_M_blows.2.1 80 = .ok (.getfield 135, 3) := by decide +kernel
theorem d_M_blows_83 : decode y_M_blows.2.1 83 = .ok (.bipush 12, 2) := by decide +kernel
theorem d_M_blows_85 : decode y_M_blows.2.1 85 = .ok (.iload_n 2, 1) := by decide +kernel
theorem d_M_blows_86 : decode y_M_blows.2.1 86 = .ok (.imul, 1) := by decide +kernel
theorem d_M_blows_87 : decode y_M_blows.2.1 87 = .ok (.iload_n 3, 1) := by decide +kernel
theorem d_M_blows_88 : decode y_M_blows.2.1 88 = .ok (.iadd, 1) := by decide +kernel
theorem d_M_blows_89 : decode y_M_blows.2.1 89 = .ok (.bipush (-12), 2) := by decide +kernel
theorem d_M_blows_91 : decode y_M_blows.2.1 91 = .ok (.bipush 12, 2) := by decide +kernel
theorem d_M_blows_93 : decode y_M_blows.2.1 93 = .ok (.iload 4, 2) := by decide +kernel
theorem d_M_blows_95 : decode y_M_blows.2.1 95 = .ok (.invokestatic 325, 3) := by decide +kernel
theorem d_M_blows_98 : decode y_M_blows.2.1 98 = .ok (.invokestatic 244, 3) := by decide +kernel
theorem d_M_blows_101 : decode y_M_blows.2.1 101 = .ok (.iastore, 1) := by decide +kernel
theorem d_M_blows_102 : decode y_M_blows.2.1 102 = .ok (.iinc 3 1, 3) := by decide +kernel
theorem d_M_blows_105 : decode y_M_blows.2.1 105 = .ok (.goto (-103), 3) := by decide +kernel
theorem d_M_blows_108 : decode y_M_blows.2.1 108 = .ok (.return_, 1) := by decide +kernel
theorem d_M_towards_0 : decode y_M_towards.2.1 0 = .ok (.aload_n 0, 1) := by decide +kernel
theorem d_M_towards_1 : decode y_M_towards.2.1 1 = .ok (.getfield 35, 3) := by decide +kernel
theorem d_M_towards_4 : decode y_M_towards.2.1 4 = .ok (.iload_n 2, 1) := by decide +kernel
theorem d_M_towards_5 : decode y_M_towards.2.1 5 = .ok (.iaload, 1) := by decide +kernel
theorem d_M_towards_6 : decode y_M_towards.2.1 6 = .ok (.iload_n 1, 1) := by decide +kernel
theorem d_M_towards_7 : decode y_M_towards.2.1 7 = .ok (.if_icmp .ne 17, 3) := by decide +kernel
theorem d_M_towards_10 : decode y_M_towards.2.1 10 = .ok (.aload_n 0, 1) := by decide +kernel
theorem d_M_towards_11 : decode y_M_towards.2.1 11 = .ok (.getfield 135, 3) := by decide +kernel
theorem d_M_towards_14 : decode y_M_towards.2.1 14 = .ok (.bipush 12, 2) := by decide +kernel
theorem d_M_towards_16 : decode y_M_towards.2.1 16 = .ok (.iload_n 3, 1) := by decide +kernel
theorem d_M_towards_17 : decode y_M_towards.2.1 17 = .ok (.imul, 1) := by decide +kernel
theorem d_M_towards_18 : decode y_M_towards.2.1 18 = .ok (.iload_n 2, 1) := by decide +kernel
theorem d_M_towards_19 : decode y_M_towards.2.1 19 = .ok (.iadd, 1) := by decide +kernel
theorem d_M_towards_20 : decode y_M_towards.2.1 20 = .ok (.iaload, 1) := by decide +kernel
theorem d_M_towards_21 : decode y_M_towards.2.1 21 = .ok (.goto 15, 3) := by decide +kernel
theorem d_M_towards_24 : decode y_M_towards.2.1 24 = .ok (.aload_n 0, 1) := by decide +kernel
theorem d_M_towards_25 : decode y_M_towards.2.1 25 = .ok (.getfield 135, 3) := by decide +kernel
theorem d_M_towards_28 : decode y_M_towards.2.1 28 = .ok (.bipush 12, 2) := by decide +kernel
theorem d_M_towards_30 : decode y_M_towards.2.1 30 = .ok (.iload_n 3, 1) := by decide +kernel
theorem d_M_towards_31 : decode y_M_towards.2.1 31 = .ok (.imul, 1) := by decide +kernel
theorem d_M_towards_32 : decode y_M_towards.2.1 32 = .ok (.iload_n 2, 1) := by decide +kernel
theorem d_M_towards_33 : decode y_M_towards.2.1 33 = .ok (.iadd, 1) := by decide +kernel
theorem d_M_towards_34 : decode y_M_towards.2.1 34 = .ok (.iaload, 1) := by decide +kernel
theorem d_M_towards_35 : decode y_M_towards.2.1 35 = .ok (.ineg, 1) := by decide +kernel
theorem d_M_towards_36 : decode y_M_towards.2.1 36 = .ok (.ireturn, 1) := by decide +kernel
theorem d_M_isAt_0 : decode y_M_isAt.2.1 0 = .ok (.aload_n 0, 1) := by decide +kernel
theorem d_M_isAt_1 : decode y_M_isAt.2.1 1 = .ok (.getfield 32, 3) := by decide +kernel
theorem d_M_isAt_4 : decode y_M_isAt.2.1 4 = .ok (.iload_n 2, 1) := by decide +kernel
theorem d_M_isAt_5 : decode y_M_isAt.2.1 5 = .ok (.iaload, 1) := by decide +kernel
theorem d_M_isAt_6 : decode y_M_isAt.2.1 6 = .ok (.iload_n 1, 1) := by decide +kernel
theorem d_M_isAt_7 : decode y_M_isAt.2.1 7 = .ok (.if_icmp .eq 13, 3) := by decide +kernel
theorem d_M_isAt_10 : decode y_M_isAt.2.1 10 = .ok (.aload_n 0, 1) := by decide +kernel
theorem d_M_isAt_11 : decode y_M_isAt.2.1 11 = .ok (.getfield 35, 3) := by decide +kernel
theorem d_M_isAt_14 : decode y_M_isAt.2.1 14 = .ok (.iload_n 2, 1) := by decide +kernel
theorem d_M_isAt_15 : decode y_M_isAt.2.1 15 = .ok (.iaload, 1) := by decide +kernel
theorem d_M_isAt_16 : decode y_M_isAt.2.1 16 = .ok (.iload_n 1, 1) := by decide +kernel
theorem d_M_isAt_17 : decode y_M_isAt.2.1 17 = .ok (.if_icmp .ne 7, 3) := by decide +kernel
theorem d_M_isAt_20 : decode y_M_isAt.2.1 20 = .ok (.iconst 1, 1) := by decide +kernel
theorem d_M_isAt_21 : decode y_M_isAt.2.1 21 = .ok (.goto 4, 3) := by decide +kernel
theorem d_M_isAt_24 : decode y_M_isAt.2.1 24 = .ok (.iconst 0, 1) := by decide +kernel
theorem d_M_isAt_25 : decode y_M_isAt.2.1 25 = .ok (.ireturn, 1) := by decide +kernel
theorem d_M_otherEnd_0 : decode y_M_otherEnd.2.1 0 = .ok (.aload_n 0, 1) := by decide +kernel
theorem d_M_otherEnd_1 : decode y_M_otherEnd.2.1 1 = .ok (.getfield 32, 3) := by decide +kernel
theorem d_M_otherEnd_4 : decode y_M_otherEnd.2.1 4 = .ok (.iload_n 2, 1) := by decide +kernel
theorem d_M_otherEnd_5 : decode y_M_otherEnd.2.1 5 = .ok (.iaload, 1) := by decide +kernel
theorem d_M_otherEnd_6 : decode y_M_otherEnd.2.1 6 = .ok (.iload_n 1, 1) := by decide +kernel
theorem d_M_otherEnd_7 : decode y_M_otherEnd.2.1 7 = .ok (.if_icmp .ne 12, 3) := by decide +kernel
theorem d_M_otherEnd_10 : decode y_M_otherEnd.2.1 10 = .ok (.aload_n 0, 1) := by decide +kernel
theorem d_M_otherEnd_11 : decode y_M_otherEnd.2.1 11 = .ok (.getfield 35, 3) := by decide +kernel
theorem d_M_otherEnd_14 : decode y_M_otherEnd.2.1 14 = .ok (.iload_n 2, 1) := by decide +kernel
theorem d_M_otherEnd_15 : decode y_M_otherEnd.2.1 15 = .ok (.iaload, 1) := by decide +kernel
theorem d_M_otherEnd_16 : decode y_M_otherEnd.2.1 16 = .ok (.goto 9, 3) := by decide +kernel
theorem d_M_otherEnd_19 : decode y_M_otherEnd.2.1 19 = .ok (.aload_n 0, 1) := by decide +kernel
theorem d_M_otherEnd_20 : decode y_M_otherEnd.2.1 20 = .ok (.getfield 32, 3) := by decide +kernel
theorem d_M_otherEnd_23 : decode y_M_otherEnd.2.1 23 = .ok (.iload_n 2, 1) := by decide +kernel
theorem d_M_otherEnd_24 : decode y_M_otherEnd.2.1 24 = .ok (.iaload, 1) := by decide +kernel
theorem d_M_otherEnd_25 : decode y_M_otherEnd.2.1 25 = .ok (.ireturn, 1) := by decide +kernel
theorem d_M_rises_0 : decode y_M_rises.2.1 0 = .ok (.iload_n 3, 1) := by decide +kernel
theorem d_M_rises_1 : decode y_M_rises.2.1 1 = .ok (.istore 4, 2) := by decide +kernel
theorem d_M_rises_3 : decode y_M_rises.2.1 3 = .ok (.bipush 8, 2) := by decide +kernel
theorem d_M_rises_5 : decode y_M_rises.2.1 5 = .ok (.iload_n 2, 1) := by decide +kernel
theorem d_M_rises_6 : decode y_M_rises.2.1 6 = .ok (.iconst 1, 1) := by decide +kernel
theorem d_M_rises_7 : decode y_M_rises.2.1 7 = .ok (.iadd, 1) := by decide +kernel
theorem d_M_rises_8 : decode y_M_rises.2.1 8 = .ok (.imul, 1) := by decide +kernel
theorem d_M_rises_9 : decode y_M_rises.2.1 9 = .ok (.istore 5, 2) := by decide +kernel
theorem d_M_rises_11 : decode y_M_rises.2.1 11 = .ok (.iconst 0, 1) := by decide +kernel
theorem d_M_rises_12 : decode y_M_rises.2.1 12 = .ok (.istore 6, 2) := by decide +kernel
theorem d_M_rises_14 : decode y_M_rises.2.1 14 = .ok (.iconst 0, 1) := by decide +kernel
theorem d_M_rises_15 : decode y_M_rises.2.1 15 = .ok (.istore 7, 2) := by decide +kernel
theorem d_M_rises_17 : decode y_M_rises.2.1 17 = .ok (.iload 7, 2) := by decide +kernel
theorem d_M_rises_19 : decode y_M_rises.2.1 19 = .ok (.aload_n 0, 1) := by decide +kernel
theorem d_M_rises_20 : decode y_M_rises.2.1 20 = .ok (.getfield 250, 3) := by decide +kernel
theorem d_M_rises_23 : decode y_M_rises.2.1 23 = .ok (.if_icmp .ge 107, 3) := by decide +kernel
theorem d_M_rises_26 : decode y_M_rises.2.1 26 = .ok (.aload_n 0, 1) := by decide +kernel
theorem d_M_rises_27 : decode y_M_rises.2.1 27 = .ok (.iload_n 1, 1) := by decide +kernel
theorem d_M_rises_28 : decode y_M_rises.2.1 28 = .ok (.iload 7, 2) := by decide +kernel
theorem d_M_rises_30 : decode y_M_rises.2.1 30 = .ok (.invokevirtual 332, 3) := by decide +kernel
theorem d_M_rises_33 : decode y_M_rises.2.1 33 = .ok (.ifCond .ne 6, 3) := by decide +kernel
theorem d_M_rises_36 : decode y_M_rises.2.1 36 = .ok (.goto 88, 3) := by decide +kernel
theorem d_M_rises_39 : decode y_M_rises.2.1 39 = .ok (.iload 6, 2) := by decide +kernel
theorem d_M_rises_41 : decode y_M_rises.2.1 41 = .ok (.ifCond .ne 23, 3) := by decide +kernel
theorem d_M_rises_44 : decode y_M_rises.2.1 44 = .ok (.aload_n 0, 1) := by decide +kernel
theorem d_M_rises_45 : decode y_M_rises.2.1 45 = .ok (.getfield 135, 3) := by decide +kernel
theorem d_M_rises_48 : decode y_M_rises.2.1 48 = .ok (.bipush 12, 2) := by decide +kernel
theorem d_M_rises_50 : decode y_M_rises.2.1 50 = .ok (.iload_n 2, 1) := by decide +kernel
theorem d_M_rises_51 : decode y_M_rises.2.1 51 = .ok (.imul, 1) := by decide +kernel
theorem d_M_rises_52 : decode y_M_rises.2.1 52 = .ok (.iload 7, 2) := by decide +kernel
theorem d_M_rises_54 : decode y_M_rises.2.1 54 = .ok (.iadd, 1) := by decide +kernel
theorem d_M_rises_55 : decode y_M_rises.2.1 55 = .ok (.iaload, 1) := by decide +kernel
theorem d_M_rises_56 : decode y_M_rises.2.1 56 = .ok (.invokestatic 336, 3) := by decide +kernel
theorem d_M_rises_59 : decode y_M_rises.2.1 59 = .ok (.bipush 6, 2) := by decide +kernel
theorem d_M_rises_61 : decode y_M_rises.2.1 61 = .ok (.if_icmp .lt 7, 3) := by decide +kernel
theorem d_M_rises_64 : decode y_M_rises.2.1 64 = .ok (.iconst 1, 1) := by decide +kernel
theorem d_M_rises_65 : decode y_M_rises.2.1 65 = .ok (.goto 4, 3) := by decide +kernel
theorem d_M_rises_68 : decode y_M_rises.2.1 68 = .ok (.iconst 0, 1) := by decide +kernel
theorem d_M_rises_69 : decode y_M_rises.2.1 69 = .ok (.istore 6, 2) := by decide +kernel
theorem d_M_rises_71 : decode y_M_rises.2.1 71 = .ok (.aload_n 0, 1) := by decide +kernel
theorem d_M_rises_72 : decode y_M_rises.2.1 72 = .ok (.iload_n 1, 1) := by decide +kernel
theorem d_M_rises_73 : decode y_M_rises.2.1 73 = .ok (.iload 7, 2) := by decide +kernel
theorem d_M_rises_75 : decode y_M_rises.2.1 75 = .ok (.iload_n 2, 1) := by decide +kernel
theorem d_M_rises_76 : decode y_M_rises.2.1 76 = .ok (.invokevirtual 339, 3) := by decide +kernel
theorem d_M_rises_79 : decode y_M_rises.2.1 79 = .ok (.iconst 4, 1) := by decide +kernel
theorem d_M_rises_80 : decode y_M_rises.2.1 80 = .ok (.if_icmp .lt 6, 3) := by decide +kernel
theorem d_M_rises_83 : decode y_M_rises.2.1 83 = .ok (.goto 41, 3) := by decide +kernel
theorem d_M_rises_86 : decode y_M_rises.2.1 86 = .ok (.iload_n 3, 1) := by decide +kernel
theorem d_M_rises_87 : decode y_M_rises.2.1 87 = .ok (.bipush 8, 2) := by decide +kernel
theorem d_M_rises_89 : decode y_M_rises.2.1 89 = .ok (.idiv, 1) := by decide +kernel
theorem d_M_rises_90 : decode y_M_rises.2.1 90 = .ok (.iload 4, 2) := by decide +kernel
theorem d_M_rises_92 : decode y_M_rises.2.1 92 = .ok (.invokestatic 325, 3) := by decide +kernel
theorem d_M_rises_95 : decode y_M_rises.2.1 95 = .ok (.istore 8, 2) := by decide +kernel
theorem d_M_rises_97 : decode y_M_rises.2.1 97 = .ok (.aload_n 0, 1) := by decide +kernel
theorem d_M_rises_98 : decode y_M_rises.2.1 98 = .ok (.getfield 129, 3) := by decide +kernel
theorem d_M_rises_101 : decode y_M_rises.2.1 101 = .ok (.iload 5, 2) := by decide +kernel
theorem d_M_rises_103 : decode y_M_rises.2.1 103 = .ok (.aload_n 0, 1) := by decide +kernel
theorem d_M_rises_104 : decode y_M_rises.2.1 104 = .ok (.iload_n 1, 1) := by decide +kernel
theorem d_M_rises_105 : decode y_M_rises.2.1 105 = .ok (.iload 7, 2) := by decide +kernel
theorem d_M_rises_107 : decode y_M_rises.2.1 107 = .ok (.invokevirtual 342, 3) := by decide +kernel
theorem d_M_rises_110 : decode y_M_rises.2.1 110 = .ok (.iadd, 1) := by decide +kernel
theorem d_M_rises_111 : decode y_M_rises.2.1 111 = .ok (.dup2, 1) := by decide +kernel
theorem d_M_rises_112 : decode y_M_rises.2.1 112 = .ok (.iaload, 1) := by decide +kernel
theorem d_M_rises_113 : decode y_M_rises.2.1 113 = .ok (.iload 8, 2) := by decide +kernel
theorem d_M_rises_115 : decode y_M_rises.2.1 115 = .ok (.iadd, 1) := by decide +kernel
theorem d_M_rises_116 : decode y_M_rises.2.1 116 = .ok (.iastore, 1) := by decide +kernel
theorem d_M_rises_117 : decode y_M_rises.2.1 117 = .ok (.iload 4, 2) := by decide +kernel
theorem d_M_rises_119 : decode y_M_rises.2.1 119 = .ok (.iload 8, 2) := by decide +kernel
theorem d_M_rises_121 : decode y_M_rises.2.1 121 = .ok (.isub, 1) := by decide +kernel
theorem d_M_rises_122 : decode y_M_rises.2.1 122 = .ok (.istore 4, 2) := by decide +kernel
theorem d_M_rises_124 : decode y_M_rises.2.1 124 = .ok (.iinc 7 1, 3) := by decide +kernel
theorem d_M_rises_127 : decode y_M_rises.2.1 127 = .ok (.goto (-110), 3) := by decide +kernel
theorem d_M_rises_130 : decode y_M_rises.2.1 130 = .ok (.aload_n 0, 1) := by decide +kernel
theorem d_M_rises_131 : decode y_M_rises.2.1 131 = .ok (.getfield 26, 3) := by decide +kernel
theorem d_M_rises_134 : decode y_M_rises.2.1 134 = .ok (.iload_n 1, 1) := by decide +kernel
theorem d_M_rises_135 : decode y_M_rises.2.1 135 = .ok (.iaload, 1) := by decide +kernel
theorem d_M_rises_136 : decode y_M_rises.2.1 136 = .ok (.ifCond .le 34, 3) := by decide +kernel
theorem d_M_rises_139 : decode y_M_rises.2.1 139 = .ok (.iload_n 3, 1) := by decide +kernel
theorem d_M_rises_140 : decode y_M_rises.2.1 140 = .ok (.bipush 8, 2) := by decide +kernel
theorem d_M_rises_142 : decode y_M_rises.2.1 142 = .ok (.idiv, 1) := by decide +kernel
theorem d_M_rises_143 : decode y_M_rises.2.1 143 = .ok (.iload 4, 2) := by decide +kernel
theorem d_M_rises_145 : decode y_M_rises.2.1 145 = .ok (.invokestatic 325, 3) := by decide +kernel
theorem d_M_rises_148 : decode y_M_rises.2.1 148 = .ok (.istore 7, 2) := by decide +kernel
theorem d_M_rises_150 : decode y_M_rises.2.1 150 = .ok (.aload_n 0, 1) := by decide +kernel
theorem d_M_rises_151 : decode y_M_rises.2.1 151 = .ok (.getfield 144, 3) := by decide +kernel
theorem d_M_rises_154 : decode y_M_rises.2.1 154 = .ok (.iload_n 2, 1) := by decide +kernel
theorem d_M_rises_155 : decode y_M_rises.2.1 155 = .ok (.iconst 1, 1) := by decide +kernel
theorem d_M_rises_156 : decode y_M_rises.2.1 156 = .ok (.iadd, 1) := by decide +kernel
theorem d_M_rises_157 : decode y_M_rises.2.1 157 = .ok (.dup2, 1) := by decide +kernel
theorem d_M_rises_158 : decode y_M_rises.2.1 158 = .ok (.iaload, 1) := by decide +kernel
theorem d_M_rises_159 : decode y_M_rises.2.1 159 = .ok (.iload 7, 2) := by decide +kernel
theorem d_M_rises_161 : decode y_M_rises.2.1 161 = .ok (.iadd, 1) := by decide +kernel
theorem d_M_rises_162 : decode y_M_rises.2.1 162 = .ok (.iastore, 1) := by decide +kernel
theorem d_M_rises_163 : decode y_M_rises.2.1 163 = .ok (.iload 4, 2) := by decide +kernel
theorem d_M_rises_165 : decode y_M_rises.2.1 165 = .ok (.iload 7, 2) := by decide +kernel
theorem d_M_rises_167 : decode y_M_rises.2.1 167 = .ok (.isub, 1) := by decide +kernel
theorem d_M_rises_168 : decode y_M_rises.2.1 168 = .ok (.istore 4, 2) := by decide +kernel
theorem d_M_rises_170 : decode y_M_rises.2.1 170 = .ok (.iload 6, 2) := by decide +kernel
theorem d_M_rises_172 : decode y_M_rises.2.1 172 = .ok (.ifCond .eq 8, 3) := by decide +kernel
theorem d_M_rises_175 : decode y_M_rises.2.1 175 = .ok (.iload 4, 2) := by decide +kernel
theorem d_M_rises_177 : decode y_M_rises.2.1 177 = .ok (.goto 7, 3) := by decide +kernel
theorem d_M_rises_180 : decode y_M_rises.2.1 180 = .ok (.iload 4, 2) := by decide +kernel
theorem d_M_rises_182 : decode y_M_rises.2.1 182 = .ok (.iconst 4, 1) := by decide +kernel
theorem d_M_rises_183 : decode y_M_rises.2.1 183 = .ok (.idiv, 1) := by decide +kernel
theorem d_M_rises_184 : decode y_M_rises.2.1 184 = .ok (.istore 7, 2) := by decide +kernel
theorem d_M_rises_186 : decode y_M_rises.2.1 186 = .ok (.aload_n 0, 1) := by decide +kernel
theorem d_M_rises_187 : decode y_M_rises.2.1 187 = .ok (.getfield 129, 3) := by decide +kernel
theorem d_M_rises_190 : decode y_M_rises.2.1 190 = .ok (.iload 5, 2) := by decide +kernel
theorem d_M_rises_192 : decode y_M_rises.2.1 192 = .ok (.iload_n 1, 1) := by decide +kernel
theorem d_M_rises_193 : decode y_M_rises.2.1 193 = .ok (.iadd, 1) := by decide +kernel
theorem d_M_rises_194 : decode y_M_rises.2.1 194 = .ok (.dup2, 1) := by decide +kernel
theorem d_M_rises_195 : decode y_M_rises.2.1 195 = .ok (.iaload, 1) := by decide +kernel
theorem d_M_rises_196 : decode y_M_rises.2.1 196 = .ok (.iload 4, 2) := by decide +kernel
theorem d_M_rises_198 : decode y_M_rises.2.1 198 = .ok (.iload 7, 2) := by decide +kernel
theorem d_M_rises_200 : decode y_M_rises.2.1 200 = .ok (.isub, 1) := by decide +kernel
theorem d_M_rises_201 : decode y_M_rises.2.1 201 = .ok (.iadd, 1) := by decide +kernel
theorem d_M_rises_202 : decode y_M_rises.2.1 202 = .ok (.iastore, 1) := by decide +kernel
theorem d_M_rises_203 : decode y_M_rises.2.1 203 = .ok (.aload_n 0, 1) := by decide +kernel
theorem d_M_rises_204 : decode y_M_rises.2.1 204 = .ok (.getfield 132, 3) := by decide +kernel
theorem d_M_rises_207 : decode y_M_rises.2.1 207 = .ok (.iload 5, 2) := by decide +kernel
theorem d_M_rises_209 : decode y_M_rises.2.1 209 = .ok (.iload_n 1, 1) := by decide +kernel
theorem d_M_rises_210 : decode y_M_rises.2.1 210 = .ok (.iadd, 1) := by decide +kernel
theorem d_M_rises_211 : decode y_M_rises.2.1 211 = .ok (.dup2, 1) := by decide +kernel
theorem d_M_rises_212 : decode y_M_rises.2.1 212 = .ok (.iaload, 1) := by decide +kernel
theorem d_M_rises_213 : decode y_M_rises.2.1 213 = .ok (.iload 7, 2) := by decide +kernel
theorem d_M_rises_215 : decode y_M_rises.2.1 215 = .ok (.iadd, 1) := by decide +kernel
theorem d_M_rises_216 : decode y_M_rises.2.1 216 = .ok (.iastore, 1) := by decide +kernel
theorem d_M_rises_217 : decode y_M_rises.2.1 217 = .ok (.return_, 1) := by decide +kernel
theorem d_M_drifts_0 : decode y_M_drifts.2.1 0 = .ok (.aload_n 0, 1) := by decide +kernel
theorem d_M_drifts_1 : decode y_M_drifts.2.1 1 = .ok (.getfield 132, 3) := by decide +kernel
theorem d_M_drifts_4 : decode y_M_drifts.2.1 4 = .ok (.bipush 8, 2) := by decide +kernel
theorem d_M_drifts_6 : decode y_M_drifts.2.1 6 = .ok (.iload_n 2, 1) := by decide +kernel
theorem d_M_drifts_7 : decode y_M_drifts.2.1 7 = .ok (.imul, 1) := by decide +kernel
theorem d_M_drifts_8 : decode y_M_drifts.2.1 8 = .ok (.iload_n 1, 1) := by decide +kernel
theorem d_M_drifts_9 : decode y_M_drifts.2.1 9 = .ok (.iadd, 1) := by decide +kernel
theorem d_M_drifts_10 : decode y_M_drifts.2.1 10 = .ok (.iaload, 1) := by decide +kernel
theorem d_M_drifts_11 : decode y_M_drifts.2.1 11 = .ok (.istore_n 3, 1) := by decide +kernel
theorem d_M_drifts_12 : decode y_M_drifts.2.1 12 = .ok (.iload_n 3, 1) := by decide +kernel
theorem d_M_drifts_13 : decode y_M_drifts.2.1 13 = .ok (.istore 4, 2) := by decide +kernel
theorem d_M_drifts_15 : decode y_M_drifts.2.1 15 = .ok (.bipush 8, 2) := by decide +kernel
theorem d_M_drifts_17 : decode y_M_drifts.2.1 17 = .ok (.iload_n 2, 1) := by decide +kernel
theorem d_M_drifts_18 : decode y_M_drifts.2.1 18 = .ok (.iconst 1, 1) := by decide +kernel
theorem d_M_drifts_19 : decode y_M_drifts.2.1 19 = .ok (.iadd, 1) := by decide +kernel
theorem d_M_drifts_20 : decode y_M_drifts.2.1 20 = .ok (.imul, 1) := by decide +kernel
theorem d_M_drifts_21 : decode y_M_drifts.2.1 21 = .ok (.istore 5, 2) := by decide +kernel
theorem d_M_drifts_23 : decode y_M_drifts.2.1 23 = .ok (.iconst 0, 1) := by decide +kernel
theorem d_M_drifts_24 : decode y_M_drifts.2.1 24 = .ok (.istore 6, 2) := by decide +kernel
theorem d_M_drifts_26 : decode y_M_drifts.2.1 26 = .ok (.iload 6, 2) := by decide +kernel
theorem d_M_drifts_28 : decode y_M_drifts.2.1 28 = .ok (.aload_n 0, 1) := by decide +kernel
theorem d_M_drifts_29 : decode y_M_drifts.2.1 29 = .ok (.getfield 250, 3) := by decide +kernel
theorem d_M_drifts_32 : decode y_M_drifts.2.1 32 = .ok (.if_icmp .ge 81, 3) := by decide +kernel
theorem d_M_drifts_35 : decode y_M_drifts.2.1 35 = .ok (.aload_n 0, 1) := by decide +kernel
theorem d_M_drifts_36 : decode y_M_drifts.2.1 36 = .ok (.iload_n 1, 1) := by decide +kernel
theorem d_M_drifts_37 : decode y_M_drifts.2.1 37 = .ok (.iload 6, 2) := by decide +kernel
theorem d_M_drifts_39 : decode y_M_drifts.2.1 39 = .ok (.invokevirtual 332, 3) := by decide +kernel
theorem d_M_drifts_42 : decode y_M_drifts.2.1 42 = .ok (.ifCond .eq 65, 3) := by decide +kernel
theorem d_M_drifts_45 : decode y_M_drifts.2.1 45 = .ok (.aload_n 0, 1) := by decide +kernel
theorem d_M_drifts_46 : decode y_M_drifts.2.1 46 = .ok (.iload_n 1, 1) := by decide +kernel
theorem d_M_drifts_47 : decode y_M_drifts.2.1 47 = .ok (.iload 6, 2) := by decide +kernel
theorem d_M_drifts_49 : decode y_M_drifts.2.1 49 = .ok (.iload_n 2, 1) := by decide +kernel
theorem d_M_drifts_50 : decode y_M_drifts.2.1 50 = .ok (.invokevirtual 339, 3) := by decide +kernel
theorem d_M_drifts_53 : decode y_M_drifts.2.1 53 = .ok (.ifCond .lt 6, 3) := by decide +kernel
theorem d_M_drifts_56 : decode y_M_drifts.2.1 56 = .ok (.goto 51, 3) := by decide +kernel
theorem d_M_drifts_59 : decode y_M_drifts.2.1 59 = .ok (.iload_n 3, 1) := by decide +kernel
theorem d_M_drifts_60 : decode y_M_drifts.2.1 60 = .ok (.aload_n 0, 1) := by decide +kernel
theorem d_M_drifts_61 : decode y_M_drifts.2.1 61 = .ok (.iload_n 1, 1) := by decide +kernel
theorem d_M_drifts_62 : decode y_M_drifts.2.1 62 = .ok (.iload 6, 2) := by decide +kernel
theorem d_M_drifts_64 : decode y_M_drifts.2.1 64 = .ok (.iload_n 2, 1) := by decide +kernel
theorem d_M_drifts_65 : decode y_M_drifts.2.1 65 = .ok (.invokevirtual 339, 3) := by decide +kernel
theorem d_M_drifts_68 : decode y_M_drifts.2.1 68 = .ok (.ineg, 1) := by decide +kernel
theorem d_M_drifts_69 : decode y_M_drifts.2.1 69 = .ok (.imul, 1) := by decide +kernel
theorem d_M_drifts_70 : decode y_M_drifts.2.1 70 = .ok (.bipush 16, 2) := by decide +kernel
theorem d_M_drifts_72 : decode y_M_drifts.2.1 72 = .ok (.idiv, 1) := by decide +kernel
theorem d_M_drifts_73 : decode y_M_drifts.2.1 73 = .ok (.iload 4, 2) := by decide +kernel
theorem d_M_drifts_75 : decode y_M_drifts.2.1 75 = .ok (.invokestatic 325, 3) := by decide +kernel
theorem d_M_drifts_78 : decode y_M_drifts.2.1 78 = .ok (.istore 7, 2) := by decide +kernel
theorem d_M_drifts_80 : decode y_M_drifts.2.1 80 = .ok (.aload_n 0, 1) := by decide +kernel
theorem d_M_drifts_81 : decode y_M_drifts.2.1 81 = .ok (.getfield 132, 3) := by decide +kernel
theorem d_M_drifts_84 : decode y_M_drifts.2.1 84 = .ok (.iload 5, 2) := by decide +kernel
theorem d_M_drifts_86 : decode y_M_drifts.2.1 86 = .ok (.aload_n 0, 1) := by decide +kernel
theorem d_M_drifts_87 : decode y_M_drifts.2.1 87 = .ok (.iload_n 1, 1) := by decide +kernel
theorem d_M_drifts_88 : decode y_M_drifts.2.1 88 = .ok (.iload 6, 2) := by decide +kernel
theorem d_M_drifts_90 : decode y_M_drifts.2.1 90 = .ok (.invokevirtual 342, 3) := by decide +kernel
theorem d_M_drifts_93 : decode y_M_drifts.2.1 93 = .ok (.iadd, 1) := by decide +kernel
theorem d_M_drifts_94 : decode y_M_drifts.2.1 94 = .ok (.dup2, 1) := by decide +kernel
theorem d_M_drifts_95 : decode y_M_drifts.2.1 95 = .ok (.iaload, 1) := by decide +kernel
theorem d_M_drifts_96 : decode y_M_drifts.2.1 96 = .ok (.iload 7, 2) := by decide +kernel
theorem d_M_drifts_98 : decode y_M_drifts.2.1 98 = .ok (.iadd, 1) := by decide +kernel
theorem d_M_drifts_99 : decode y_M_drifts.2.1 99 = .ok (.iastore, 1) := by decide +kernel
theorem d_M_drifts_100 : decode y_M_drifts.2.1 100 = .ok (.iload 4, 2) := by decide +kernel
theorem d_M_drifts_102 : decode y_M_drifts.2.1 102 = .ok (.iload 7, 2) := by decide +kernel
theorem d_M_drifts_104 : decode y_M_drifts.2.1 104 = .ok (.isub, 1) := by decide +kernel
theorem d_M_drifts_105 : decode y_M_drifts.2.1 105 = .ok (.istore 4, 2) := by decide +kernel
theorem d_M_drifts_107 : decode y_M_drifts.2.1 107 = .ok (.iinc 6 1, 3) := by decide +kernel
theorem d_M_drifts_110 : decode y_M_drifts.2.1 110 = .ok (.goto (-84), 3) := by decide +kernel
theorem d_M_drifts_113 : decode y_M_drifts.2.1 113 = .ok (.aload_n 0, 1) := by decide +kernel
theorem d_M_drifts_114 : decode y_M_drifts.2.1 114 = .ok (.getfield 26, 3) := by decide +kernel
theorem d_M_drifts_117 : decode y_M_drifts.2.1 117 = .ok (.iload_n 1, 1) := by decide +kernel
theorem d_M_drifts_118 : decode y_M_drifts.2.1 118 = .ok (.iaload, 1) := by decide +kernel
theorem d_M_drifts_119 : decode y_M_drifts.2.1 119 = .ok (.ifCond .le 36, 3) := by decide +kernel
theorem d_M_drifts_122 : decode y_M_drifts.2.1 122 = .ok (.iload_n 3, 1) := by decide +kernel
theorem d_M_drifts_123 : decode y_M_drifts.2.1 123 = .ok (.iconst 2, 1) := by decide +kernel
theorem d_M_drifts_124 : decode y_M_drifts.2.1 124 = .ok (.imul, 1) := by decide +kernel
theorem d_M_drifts_125 : decode y_M_drifts.2.1 125 = .ok (.bipush 16, 2) := by decide +kernel
theorem d_M_drifts_127 : decode y_M_drifts.2.1 127 = .ok (.idiv, 1) := by decide +kernel
theorem d_M_drifts_128 : decode y_M_drifts.2.1 128 = .ok (.iload 4, 2) := by decide +kernel
theorem d_M_drifts_130 : decode y_M_drifts.2.1 130 = .ok (.invokestatic 325, 3) := by decide +kernel
theorem d_M_drifts_133 : decode y_M_drifts.2.1 133 = .ok (.istore 6, 2) := by decide +kernel
theorem d_M_drifts_135 : decode y_M_drifts.2.1 135 = .ok (.aload_n 0, 1) := by decide +kernel
theorem d_M_drifts_136 : decode y_M_drifts.2.1 136 = .ok (.getfield 144, 3) := by decide +kernel
theorem d_M_drifts_139 : decode y_M_drifts.2.1 139 = .ok (.iload_n 2, 1) := by decide +kernel
theorem d_M_drifts_140 : decode y_M_drifts.2.1 140 = .ok (.iconst 1, 1) := by decide +kernel
theorem d_M_drifts_141 : decode y_M_drifts.2.1 141 = .ok (.iadd, 1) := by decide +kernel
theorem d_M_drifts_142 : decode y_M_drifts.2.1 142 = .ok (.dup2, 1) := by decide +kernel
theorem d_M_drifts_143 : decode y_M_drifts.2.1 143 = .ok (.iaload, 1) := by decide +kernel
theorem d_M_drifts_144 : decode y_M_drifts.2.1 144 = .ok (.iload 6, 2) := by decide +kernel
theorem d_M_drifts_146 : decode y_M_drifts.2.1 146 = .ok (.iadd, 1) := by decide +kernel
theorem d_M_drifts_147 : decode y_M_drifts.2.1 147 = .ok (.iastore, 1) := by decide +kernel
theorem d_M_drifts_148 : decode y_M_drifts.2.1 148 = .ok (.iload 4, 2) := by decide +kernel
theorem d_M_drifts_150 : decode y_M_drifts.2.1 150 = .ok (.iload 6, 2) := by decide +kernel
theorem d_M_drifts_152 : decode y_M_drifts.2.1 152 = .ok (.isub, 1) := by decide +kernel
theorem d_M_drifts_153 : decode y_M_drifts.2.1 153 = .ok (.istore 4, 2) := by decide +kernel
theorem d_M_drifts_155 : decode y_M_drifts.2.1 155 = .ok (.aload_n 0, 1) := by decide +kernel
theorem d_M_drifts_156 : decode y_M_drifts.2.1 156 = .ok (.getfield 132, 3) := by decide +kernel
theorem d_M_drifts_159 : decode y_M_drifts.2.1 159 = .ok (.iload 5, 2) := by decide +kernel
theorem d_M_drifts_161 : decode y_M_drifts.2.1 161 = .ok (.iload_n 1, 1) := by decide +kernel
theorem d_M_drifts_162 : decode y_M_drifts.2.1 162 = .ok (.iadd, 1) := by decide +kernel
theorem d_M_drifts_163 : decode y_M_drifts.2.1 163 = .ok (.dup2, 1) := by decide +kernel
theorem d_M_drifts_164 : decode y_M_drifts.2.1 164 = .ok (.iaload, 1) := by decide +kernel
theorem d_M_drifts_165 : decode y_M_drifts.2.1 165 = .ok (.iload 4, 2) := by decide +kernel
theorem d_M_drifts_167 : decode y_M_drifts.2.1 167 = .ok (.iadd, 1) := by decide +kernel
theorem d_M_drifts_168 : decode y_M_drifts.2.1 168 = .ok (.iastore, 1) := by decide +kernel
theorem d_M_drifts_169 : decode y_M_drifts.2.1 169 = .ok (.return_, 1) := by decide +kernel
theorem d_M_burns_0 : decode y_M_burns.2.1 0 = .ok (.iconst 0, 1) := by decide +kernel
theorem d_M_burns_1 : decode y_M_burns.2.1 1 = .ok (.istore 5, 2) := by decide +kernel
theorem d_M_burns_3 : decode y_M_burns.2.1 3 = .ok (.iload 5, 2) := by decide +kernel
theorem d_M_burns_5 : decode y_M_burns.2.1 5 = .ok (.sipush 168, 3) := by decide +kernel
theorem d_M_burns_8 : decode y_M_burns.2.1 8 = .ok (.if_icmp .ge 25, 3) := by decide +kernel
theorem d_M_burns_11 : decode y_M_burns.2.1 11 = .ok (.aload_n 0, 1) := by decide +kernel
theorem d_M_burns_12 : decode y_M_burns.2.1 12 = .ok (.getfield 129, 3) := by decide +kernel
theorem d_M_burns_15 : decode y_M_burns.2.1 15 = .ok (.iload 5, 2) := by decide +kernel
theorem d_M_burns_17 : decode y_M_burns.2.1 17 = .ok (.iconst 0, 1) := by decide +kernel
theorem d_M_burns_18 : decode y_M_burns.2.1 18 = .ok (.iastore, 1) := by decide +kernel
theorem d_M_burns_19 : decode y_M_burns.2.1 19 = .ok (.aload_n 0, 1) := by decide +kernel
theorem d_M_burns_20 : decode y_M_burns.2.1 20 = .ok (.getfield 132, 3) := by decide +kernel
theorem d_M_burns_23 : decode y_M_burns.2.1 23 = .ok (.iload 5, 2) := by decide +kernel
theorem d_M_burns_25 : decode y_M_burns.2.1 25 = .ok (.iconst 0, 1) := by decide +kernel
theorem d_M_burns_26 : decode y_M_burns.2.1 26 = .ok (.iastore, 1) := by decide +kernel
theorem d_M_burns_27 : decode y_M_burns.2.1 27 = .ok (.iinc 5 1, 3) := by decide +kernel
theorem d_M_burns_30 : decode y_M_burns.2.1 30 = .ok (.goto (-27), 3) := by decide +kernel
theorem d_M_burns_33 : decode y_M_burns.2.1 33 = .ok (.iconst 0, 1) := by decide +kernel
theorem d_M_burns_34 : decode y_M_burns.2.1 34 = .ok (.istore 5, 2) := by decide +kernel
theorem d_M_burns_36 : decode y_M_burns.2.1 36 = .ok (.iload 5, 2) := by decide +kernel
theorem d_M_burns_38 : decode y_M_burns.2.1 38 = .ok (.bipush 8, 2) := by decide +kernel
theorem d_M_burns_40 : decode y_M_burns.2.1 40 = .ok (.if_icmp .ge 17, 3) := by decide +kernel
theorem d_M_burns_43 : decode y_M_burns.2.1 43 = .ok (.aload_n 0, 1) := by decide +kernel
theorem d_M_burns_44 : decode y_M_burns.2.1 44 = .ok (.getfield 138, 3) := by decide +kernel
theorem d_M_burns_47 : decode y_M_burns.2.1 47 = .ok (.iload 5, 2) := by decide +kernel
theorem d_M_burns_49 : decode y_M_burns.2.1 49 = .ok (.iconst (-1), 1) := by decide +kernel
theorem d_M_burns_50 : decode y_M_burns.2.1 50 = .ok (.iastore, 1) := by decide +kernel
theorem d_M_burns_51 : decode y_M_burns.2.1 51 = .ok (.iinc 5 1, 3) := by decide +kernel
theorem d_M_burns_54 : decode y_M_burns.2.1 54 = .ok (.goto (-18), 3) := by decide +kernel
theorem d_M_burns_57 : decode y_M_burns.2.1 57 = .ok (.aload_n 0, 1) := by decide +kernel
theorem d_M_burns_58 : decode y_M_burns.2.1 58 = .ok (.getfield 141, 3) := by decide +kernel
theorem d_M_burns_61 : decode y_M_burns.2.1 61 = .ok (.iconst 0, 1) := by decide +kernel
theorem d_M_burns_62 : decode y_M_burns.2.1 62 = .ok (.iconst 0, 1) := by decide +kernel
theorem d_M_burns_63 : decode y_M_burns.2.1 63 = .ok (.iastore, 1) := by decide +kernel
theorem d_M_burns_64 : decode y_M_burns.2.1 64 = .ok (.aload_n 0, 1) := by decide +kernel
theorem d_M_burns_65 : decode y_M_burns.2.1 65 = .ok (.getfield 144, 3) := by decide +kernel
theorem d_M_burns_68 : decode y_M_burns.2.1 68 = .ok (.iconst 0, 1) := by decide +kernel
theorem d_M_burns_69 : decode y_M_burns.2.1 69 = .ok (.iconst 0, 1) := by decide +kernel
theorem d_M_burns_70 : decode y_M_burns.2.1 70 = .ok (.iastore, 1) := by decide +kernel
theorem d_M_burns_71 : decode y_M_burns.2.1 71 = .ok (.aload_n 0, 1) := by decide +kernel
theorem d_M_burns_72 : decode y_M_burns.2.1 72 = .ok (.getfield 147, 3) := by decide +kernel
theorem d_M_burns_75 : decode y_M_burns.2.1 75 = .ok (.iconst 0, 1) := by decide +kernel
theorem d_M_burns_76 : decode y_M_burns.2.1 76 = .ok (.iconst 0, 1) := by decide +kernel
theorem d_M_burns_77 : decode y_M_burns.2.1 77 = .ok (.iastore, 1) := by decide +kernel
theorem d_M_burns_78 : decode y_M_burns.2.1 78 = .ok (.iconst 0, 1) := by decide +kernel
theorem d_M_burns_79 : decode y_M_burns.2.1 79 = .ok (.istore 5, 2) := by decide +kernel
theorem d_M_burns_81 : decode y_M_burns.2.1 81 = .ok (.iload 5, 2) := by decide +kernel
theorem d_M_burns_83 : decode y_M_burns.2.1 83 = .ok (.bipush 20, 2) := by decide +kernel
theorem d_M_burns_85 : decode y_M_burns.2.1 85 = .ok (.if_icmp .gt 299, 3) := by decide +kernel
theorem d_M_burns_88 : decode y_M_burns.2.1 88 = .ok (.iconst 0, 1) := by decide +kernel
theorem d_M_burns_89 : decode y_M_burns.2.1 89 = .ok (.istore 6, 2) := by decide +kernel
theorem d_M_burns_91 : decode y_M_burns.2.1 91 = .ok (.iload 6, 2) := by decide +kernel
theorem d_M_burns_93 : decode y_M_burns.2.1 93 = .ok (.aload_n 0, 1) := by decide +kernel
theorem d_M_burns_94 : decode y_M_burns.2.1 94 = .ok (.getfield 256, 3) := by decide +kernel
theorem d_M_burns_97 : decode y_M_burns.2.1 97 = .ok (.if_icmp .ge 33, 3) := by decide +kernel
theorem d_M_burns_100 : decode y_M_burns.2.1 100 = .ok (.iload 5, 2) := by decide +kernel
theorem d_M_burns_102 : decode y_M_burns.2.1 102 = .ok (.ifCond .le 28, 3) := by decide +kernel
theorem d_M_burns_105 : decode y_M_burns.2.1 105 = .ok (.aload_n 0, 1) := by decide +kernel
theorem d_M_burns_106 : decode y_M_burns.2.1 106 = .ok (.getfield 138, 3) := by decide +kernel
theorem d_M_burns_109 : decode y_M_burns.2.1 109 = .ok (.iload 6, 2) := by decide +kernel
theorem d_M_burns_111 : decode y_M_burns.2.1 111 = .ok (.iaload, 1) := by decide +kernel
theorem d_M_burns_112 : decode y_M_burns.2.1 112 = .ok (.iconst (-1), 1) := by decide +kernel
theorem d_M_burns_113 : decode y_M_burns.2.1 113 = .ok (.if_icmp .ne 11, 3) := by decide +kernel
theorem d_M_burns_116 : decode y_M_burns.2.1 116 = .ok (.aload_n 0, 1) := by decide +kernel
theorem d_M_burns_117 : decode y_M_burns.2.1 117 = .ok (.iload 6, 2) := by decide +kernel
theorem d_M_burns_119 : decode y_M_burns.2.1 119 = .ok (.iload 5, 2) := by decide +kernel
theorem d_M_burns_121 : decode y_M_burns.2.1 121 = .ok (.invokevirtual 345, 3) := by decide +kernel
theorem d_M_burns_124 : decode y_M_burns.2.1 124 = .ok (.iinc 6 1, 3) := by decide +kernel
theorem d_M_burns_127 : decode y_M_burns.2.1 127 = .ok (.goto (-36), 3) := by decide +kernel
theorem d_M_burns_130 : decode y_M_burns.2.1 130 = .ok (.aload_n 0, 1) := by decide +kernel
theorem d_M_burns_131 : decode y_M_burns.2.1 131 = .ok (.iload 5, 2) := by decide +kernel
theorem d_M_burns_133 : decode y_M_burns.2.1 133 = .ok (.iload_n 3, 1) := by decide +kernel
theorem d_M_burns_134 : decode y_M_burns.2.1 134 = .ok (.if_icmp .ge 7, 3) := by decide +kernel
theorem d_M_burns_137 : decode y_M_burns.2.1 137 = .ok (.iload_n 1, 1) := by decide +kernel
theorem d_M_burns_138 : decode y_M_burns.2.1 138 = .ok (.goto 4, 3) := by decide +kernel
theorem d_M_burns_141 : decode y_M_burns.2.1 141 = .ok (.iload_n 2, 1) := by decide +kernel
theorem d_M_burns_142 : decode y_M_burns.2.1 142 = .ok (.iload 5, 2) := by decide +kernel
theorem d_M_burns_144 : decode y_M_burns.2.1 144 = .ok (.invokevirtual 349, 3) := by decide +kernel
theorem d_M_burns_147 : decode y_M_burns.2.1 147 = .ok (.iload 5, 2) := by decide +kernel
theorem d_M_burns_149 : decode y_M_burns.2.1 149 = .ok (.bipush 20, 2) := by decide +kernel
theorem d_M_burns_151 : decode y_M_burns.2.1 151 = .ok (.if_icmp .ne 4, 3) := by decide +kernel
theorem d_M_burns_154 : decode y_M_burns.2.1 154 = .ok (.return_, 1) := by decide +kernel
theorem d_M_burns_155 : decode y_M_burns.2.1 155 = .ok (.aload_n 0, 1) := by decide +kernel
theorem d_M_burns_156 : decode y_M_burns.2.1 156 = .ok (.getfield 141, 3) := by decide +kernel
theorem d_M_burns_159 : decode y_M_burns.2.1 159 = .ok (.iload 5, 2) := by decide +kernel
theorem d_M_burns_161 : decode y_M_burns.2.1 161 = .ok (.iconst 1, 1) := by decide +kernel
theorem d_M_burns_162 : decode y_M_burns.2.1 162 = .ok (.iadd, 1) := by decide +kernel
theorem d_M_burns_163 : decode y_M_burns.2.1 163 = .ok (.aload_n 0, 1) := by decide +kernel
theorem d_M_burns_164 : decode y_M_burns.2.1 164 = .ok (.getfield 141, 3) := by decide +kernel
theorem d_M_burns_167 : decode y_M_burns.2.1 167 = .ok (.iload 5, 2) := by decide +kernel
theorem d_M_burns_169 : decode y_M_burns.2.1 169 = .ok (.iaload, 1) := by decide +kernel
theorem d_M_burns_170 : decode y_M_burns.2.1 170 = .ok (.aload_n 0, 1) := by decide +kernel
theorem d_M_burns_171 : decode y_M_burns.2.1 171 = .ok (.iload 4, 2) := by decide +kernel
theorem d_M_burns_173 : decode y_M_burns.2.1 173 = .ok (.iload 5, 2) := by decide +kernel
theorem d_M_burns_175 : decode y_M_burns.2.1 175 = .ok (.invokevirtual 352, 3) := by decide +kernel
theorem d_M_burns_178 : decode y_M_burns.2.1 178 = .ok (.iadd, 1) := by decide +kernel
theorem d_M_burns_179 : decode y_M_burns.2.1 179 = .ok (.iastore, 1) := by decide +kernel
theorem d_M_burns_180 : decode y_M_burns.2.1 180 = .ok (.aload_n 0, 1) := by decide +kernel
theorem d_M_burns_181 : decode y_M_burns.2.1 181 = .ok (.getfield 144, 3) := by decide +kernel
theorem d_M_burns_184 : decode y_M_burns.2.1 184 = .ok (.iload 5, 2) := by decide +kernel
theorem d_M_burns_186 : decode y_M_burns.2.1 186 = .ok (.iconst 1, 1) := by decide +kernel
theorem d_M_burns_187 : decode y_M_burns.2.1 187 = .ok (.iadd, 1) := by decide +kernel
theorem d_M_burns_188 : decode y_M_burns.2.1 188 = .ok (.aload_n 0, 1) := by decide +kernel
theorem d_M_burns_189 : decode y_M_burns.2.1 189 = .ok (.getfield 144, 3) := by decide +kernel
theorem d_M_burns_192 : decode y_M_burns.2.1 192 = .ok (.iload 5, 2) := by decide +kernel
theorem d_M_burns_194 : decode y_M_burns.2.1 194 = .ok (.iaload, 1) := by decide +kernel
theorem d_M_burns_195 : decode y_M_burns.2.1 195 = .ok (.iastore, 1) := by decide +kernel
theorem d_M_burns_196 : decode y_M_burns.2.1 196 = .ok (.aload_n 0, 1) := by decide +kernel
theorem d_M_burns_197 : decode y_M_burns.2.1 197 = .ok (.getfield 147, 3) := by decide +kernel
theorem d_M_burns_200 : decode y_M_burns.2.1 200 = .ok (.iload 5, 2) := by decide +kernel
theorem d_M_burns_202 : decode y_M_burns.2.1 202 = .ok (.iconst 1, 1) := by decide +kernel
theorem d_M_burns_203 : decode y_M_burns.2.1 203 = .ok (.iadd, 1) := by decide +kernel
theorem d_M_burns_204 : decode y_M_burns.2.1 204 = .ok (.aload_n 0, 1) := by decide +kernel
theorem d_M_burns_205 : decode y_M_burns.2.1 205 = .ok (.getfield 147, 3) := by decide +kernel
theorem d_M_burns_208 : decode y_M_burns.2.1 208 = .ok (.iload 5, 2) := by decide +kernel
theorem d_M_burns_210 : decode y_M_burns.2.1 210 = .ok (.iaload, 1) := by decide +kernel
theorem d_M_burns_211 : decode y_M_burns.2.1 211 = .ok (.iastore, 1) := by decide +kernel
theorem d_M_burns_212 : decode y_M_burns.2.1 212 = .ok (.iconst 0, 1) := by decide +kernel
theorem d_M_burns_213 : decode y_M_burns.2.1 213 = .ok (.istore 6, 2) := by decide +kernel
theorem d_M_burns_215 : decode y_M_burns.2.1 215 = .ok (.iload 6, 2) := by decide +kernel
theorem d_M_burns_217 : decode y_M_burns.2.1 217 = .ok (.aload_n 0, 1) := by decide +kernel
theorem d_M_burns_218 : decode y_M_burns.2.1 218 = .ok (.getfield 228, 3) := by decide +kernel
theorem d_M_burns_221 : decode y_M_burns.2.1 221 = .ok (.if_icmp .ge 69, 3) := by decide +kernel
theorem d_M_burns_224 : decode y_M_burns.2.1 224 = .ok (.aload_n 0, 1) := by decide +kernel
theorem d_M_burns_225 : decode y_M_burns.2.1 225 = .ok (.iload 6, 2) := by decide +kernel
theorem d_M_burns_227 : decode y_M_burns.2.1 227 = .ok (.iload 5, 2) := by decide +kernel
theorem d_M_burns_229 : decode y_M_burns.2.1 229 = .ok (.aload_n 0, 1) := by decide +kernel
theorem d_M_burns_230 : decode y_M_burns.2.1 230 = .ok (.getfield 129, 3) := by decide +kernel
theorem d_M_burns_233 : decode y_M_burns.2.1 233 = .ok (.bipush 8, 2) := by decide +kernel
theorem d_M_burns_235 : decode y_M_burns.2.1 235 = .ok (.iload 5, 2) := by decide +kernel
theorem d_M_burns_237 : decode y_M_burns.2.1 237 = .ok (.imul, 1) := by decide +kernel
theorem d_M_burns_238 : decode y_M_burns.2.1 238 = .ok (.iload 6, 2) := by decide +kernel
theorem d_M_burns_240 : decode y_M_burns.2.1 240 = .ok (.iadd, 1) := by decide +kernel
theorem d_M_burns_241 : decode y_M_burns.2.1 241 = .ok (.iaload, 1) := by decide +kernel
theorem d_M_burns_242 : decode y_M_burns.2.1 242 = .ok (.iload 4, 2) := by decide +kernel
theorem d_M_burns_244 : decode y_M_burns.2.1 244 = .ok (.iconst (-1), 1) := by decide +kernel
theorem d_M_burns_245 : decode y_M_burns.2.1 245 = .ok (.if_icmp .eq 26, 3) := by decide +kernel
theorem d_M_burns_248 : decode y_M_burns.2.1 248 = .ok (.aload_n 0, 1) := by decide +kernel
theorem d_M_burns_249 : decode y_M_burns.2.1 249 = .ok (.getfield 47, 3) := by decide +kernel
theorem d_M_burns_252 : decode y_M_burns.2.1 252 = .ok (.iload 4, 2) := by decide +kernel
theorem d_M_burns_254 : decode y_M_burns.2.1 254 = .ok (.iaload, 1) := by decide +kernel
theorem d_M_burns_255 : decode y_M_burns.2.1 255 = .ok (.iload 6, 2) := by decide +kernel
theorem d_M_burns_257 : decode y_M_burns.2.1 257 = .ok (.if_icmp .ne 14, 3) := by decide +kernel
theorem d_M_burns_260 : decode y_M_burns.2.1 260 = .ok (.aload_n 0, 1) := by decide +kernel
theorem d_M_burns_261 : decode y_M_burns.2.1 261 = .ok (.iload 4, 2) := by decide +kernel
theorem d_M_burns_263 : decode y_M_burns.2.1 263 = .ok (.iload 5, 2) := by decide +kernel
theorem d_M_burns_265 : decode y_M_burns.2.1 265 = .ok (.invokevirtual 352, 3) := by decide +kernel
theorem d_M_burns_268 : decode y_M_burns.2.1 268 = .ok (.goto 4, 3) := by decide +kernel
theorem d_M_burns_271 : decode y_M_burns.2.1 271 = .ok (.iconst 0, 1) := by decide +kernel
theorem d_M_burns_272 : decode y_M_burns.2.1 272 = .ok (.iadd, 1) := by decide +kernel
theorem d_M_burns_273 : decode y_M_burns.2.1 273 = .ok (.invokevirtual 355, 3) := by decide +kernel
theorem d_M_burns_276 : decode y_M_burns.2.1 276 = .ok (.aload_n 0, 1) := by decide +kernel
theorem d_M_burns_277 : decode y_M_burns.2.1 277 = .ok (.iload 6, 2) := by decide +kernel
theorem d_M_burns_279 : decode y_M_burns.2.1 279 = .ok (.iload 5, 2) := by decide +kernel
theorem d_M_burns_281 : decode y_M_burns.2.1 281 = .ok (.invokevirtual 359, 3) := by decide +kernel
theorem d_M_burns_284 : decode y_M_burns.2.1 284 = .ok (.iinc 6 1, 3) := by decide +kernel
theorem d_M_burns_287 : decode y_M_burns.2.1 287 = .ok (.goto (-72), 3) := by decide +kernel
theorem d_M_burns_290 : decode y_M_burns.2.1 290 = .ok (.iconst 0, 1) := by decide +kernel
theorem d_M_burns_291 : decode y_M_burns.2.1 291 = .ok (.istore 6, 2) := by decide +kernel
theorem d_M_burns_293 : decode y_M_burns.2.1 293 = .ok (.iload 6, 2) := by decide +kernel
theorem d_M_burns_295 : decode y_M_burns.2.1 295 = .ok (.aload_n 0, 1) := by decide +kernel
theorem d_M_burns_296 : decode y_M_burns.2.1 296 = .ok (.getfield 228, 3) := by decide +kernel
theorem d_M_burns_299 : decode y_M_burns.2.1 299 = .ok (.if_icmp .ge 79, 3) := by decide +kernel
theorem d_M_burns_302 : decode y_M_burns.2.1 302 = .ok (.aload_n 0, 1) := by decide +kernel
theorem d_M_burns_303 : decode y_M_burns.2.1 303 = .ok (.getfield 29, 3) := by decide +kernel
theorem d_M_burns_306 : decode y_M_burns.2.1 306 = .ok (.iload 6, 2) := by decide +kernel
theorem d_M_burns_308 : decode y_M_burns.2.1 308 = .ok (.iaload, 1) := by decide +kernel
theorem d_M_burns_309 : decode y_M_burns.2.1 309 = .ok (.iload 5, 2) := by decide +kernel
theorem d_M_burns_311 : decode y_M_burns.2.1 311 = .ok (.iconst 1, 1) := by decide +kernel
theorem d_M_burns_312 : decode y_M_burns.2.1 312 = .ok (.iadd, 1) := by decide +kernel
theorem d_M_burns_313 : decode y_M_burns.2.1 313 = .ok (.if_icmp .le 6, 3) := by decide +kernel
theorem d_M_burns_316 : decode y_M_burns.2.1 316 = .ok (.goto 56, 3) := by decide +kernel
theorem d_M_burns_319 : decode y_M_burns.2.1 319 = .ok (.aload_n 0, 1) := by decide +kernel
theorem d_M_burns_320 : decode y_M_burns.2.1 320 = .ok (.getfield 132, 3) := by decide +kernel
theorem d_M_burns_323 : decode y_M_burns.2.1 323 = .ok (.bipush 8, 2) := by decide +kernel
theorem d_M_burns_325 : decode y_M_burns.2.1 325 = .ok (.iload 5, 2) := by decide +kernel
theorem d_M_burns_327 : decode y_M_burns.2.1 327 = .ok (.iconst 1, 1) := by decide +kernel
theorem d_M_burns_328 : decode y_M_burns.2.1 328 = .ok (.iadd, 1) := by decide +kernel
theorem d_M_burns_329 : decode y_M_burns.2.1 329 = .ok (.imul, 1) := by decide +kernel
theorem d_M_burns_330 : decode y_M_burns.2.1 330 = .ok (.iload 6, 2) := by decide +kernel
theorem d_M_burns_332 : decode y_M_burns.2.1 332 = .ok (.iadd, 1) := by decide +kernel
theorem d_M_burns_333 : decode y_M_burns.2.1 333 = .ok (.iaload, 1) := by decide +kernel
theorem d_M_burns_334 : decode y_M_burns.2.1 334 = .ok (.iconst 4, 1) := by decide +kernel
theorem d_M_burns_335 : decode y_M_burns.2.1 335 = .ok (.idiv, 1) := by decide +kernel
theorem d_M_burns_336 : decode y_M_burns.2.1 336 = .ok (.istore 7, 2) := by decide +kernel
theorem d_M_burns_338 : decode y_M_burns.2.1 338 = .ok (.aload_n 0, 1) := by decide +kernel
theorem d_M_burns_339 : decode y_M_burns.2.1 339 = .ok (.getfield 132, 3) := by decide +kernel
theorem d_M_burns_342 : decode y_M_burns.2.1 342 = .ok (.bipush 8, 2) := by decide +kernel
theorem d_M_burns_344 : decode y_M_burns.2.1 344 = .ok (.iload 5, 2) := by decide +kernel
theorem d_M_burns_346 : decode y_M_burns.2.1 346 = .ok (.iconst 1, 1) := by decide +kernel
theorem d_M_burns_347 : decode y_M_burns.2.1 347 = .ok (.iadd, 1) := by decide +kernel
theorem d_M_burns_348 : decode y_M_burns.2.1 348 = .ok (.imul, 1) := by decide +kernel
theorem d_M_burns_349 : decode y_M_burns.2.1 349 = .ok (.iload 6, 2) := by decide +kernel
theorem d_M_burns_351 : decode y_M_burns.2.1 351 = .ok (.iadd, 1) := by decide +kernel
theorem d_M_burns_352 : decode y_M_burns.2.1 352 = .ok (.dup2, 1) := by decide +kernel
theorem d_M_burns_353 : decode y_M_burns.2.1 353 = .ok (.iaload, 1) := by decide +kernel
theorem d_M_burns_354 : decode y_M_burns.2.1 354 = .ok (.iload 7, 2) := by decide +kernel
theorem d_M_burns_356 : decode y_M_burns.2.1 356 = .ok (.isub, 1) := by decide +kernel
theorem d_M_burns_357 : decode y_M_burns.2.1 357 = .ok (.iastore, 1) := by decide +kernel
theorem d_M_burns_358 : decode y_M_burns.2.1 358 = .ok (.aload_n 0, 1) := by decide +kernel
theorem d_M_burns_359 : decode y_M_burns.2.1 359 = .ok (.getfield 147, 3) := by decide +kernel
theorem d_M_burns_362 : decode y_M_burns.2.1 362 = .ok (.iload 5, 2) := by decide +kernel
theorem d_M_burns_364 : decode y_M_burns.2.1 364 = .ok (.iconst 1, 1) := by decide +kernel
theorem d_M_burns_365 : decode y_M_burns.2.1 365 = .ok (.iadd, 1) := by decide +kernel
theorem d_M_burns_366 : decode y_M_burns.2.1 366 = .ok (.dup2, 1) := by decide +kernel
theorem d_M_burns_367 : decode y_M_burns.2.1 367 = .ok (.iaload, 1) := by decide +kernel
theorem d_M_burns_368 : decode y_M_burns.2.1 368 = .ok (.iload 7, 2) := by decide +kernel
theorem d_M_burns_370 : decode y_M_burns.2.1 370 = .ok (.iadd, 1) := by decide +kernel
theorem d_M_burns_371 : decode y_M_burns.2.1 371 = .ok (.iastore, 1) := by decide +kernel
theorem d_M_burns_372 : decode y_M_burns.2.1 372 = .ok (.iinc 6 1, 3) := by decide +kernel
theorem d_M_burns_375 : decode y_M_burns.2.1 375 = .ok (.goto (-82), 3) := by decide +kernel
theorem d_M_burns_378 : decode y_M_burns.2.1 378 = .ok (.iinc 5 1, 3) := by decide +kernel
theorem d_M_burns_381 : decode y_M_burns.2.1 381 = .ok (.goto (-300), 3) := by decide +kernel
theorem d_M_burns_384 : decode y_M_burns.2.1 384 = .ok (.return_, 1) := by decide +kernel
theorem d_M_isShut_0 : decode y_M_isShut.2.1 0 = .ok (.aload_n 0, 1) := by decide +kernel
theorem d_M_isShut_1 : decode y_M_isShut.2.1 1 = .ok (.getfield 132, 3) := by decide +kernel
theorem d_M_isShut_4 : decode y_M_isShut.2.1 4 = .ok (.bipush 8, 2) := by decide +kernel
theorem d_M_isShut_6 : decode y_M_isShut.2.1 6 = .ok (.iload_n 2, 1) := by decide +kernel
theorem d_M_isShut_7 : decode y_M_isShut.2.1 7 = .ok (.imul, 1) := by decide +kernel
theorem d_M_isShut_8 : decode y_M_isShut.2.1 8 = .ok (.iload_n 1, 1) := by decide +kernel
theorem d_M_isShut_9 : decode y_M_isShut.2.1 9 = .ok (.iadd, 1) := by decide +kernel
theorem d_M_isShut_10 : decode y_M_isShut.2.1 10 = .ok (.iaload, 1) := by decide +kernel
theorem d_M_isShut_11 : decode y_M_isShut.2.1 11 = .ok (.aload_n 0, 1) := by decide +kernel
theorem d_M_isShut_12 : decode y_M_isShut.2.1 12 = .ok (.getfield 7, 3) := by decide +kernel
theorem d_M_isShut_15 : decode y_M_isShut.2.1 15 = .ok (.if_icmp .le 7, 3) := by decide +kernel
theorem d_M_isShut_18 : decode y_M_isShut.2.1 18 = .ok (.iconst 1, 1) := by decide +kernel
theorem d_M_isShut_19 : decode y_M_isShut.2.1 19 = .ok (.goto 4, 3) := by decide +kernel
theorem d_M_isShut_22 : decode y_M_isShut.2.1 22 = .ok (.iconst 0, 1) := by decide +kernel
theorem d_M_isShut_23 : decode y_M_isShut.2.1 23 = .ok (.ireturn, 1) := by decide +kernel
theorem d_M_isFire_0 : decode y_M_isFire.2.1 0 = .ok (.iload_n 1, 1) := by decide +kernel
theorem d_M_isFire_1 : decode y_M_isFire.2.1 1 = .ok (.i2l, 1) := by decide +kernel
theorem d_M_isFire_2 : decode y_M_isFire.2.1 2 = .ok (.ldc2_w 317, 3) := by decide +kernel
theorem d_M_isFire_5 : decode y_M_isFire.2.1 5 = .ok (.aload_n 0, 1) := by decide +kernel
theorem d_M_isFire_6 : decode y_M_isFire.2.1 6 = .ok (.getfield 253, 3) := by decide +kernel
theorem d_M_isFire_9 : decode y_M_isFire.2.1 9 = .ok (.iconst 1, 1) := by decide +kernel
theorem d_M_isFire_10 : decode y_M_isFire.2.1 10 = .ok (.isub, 1) := by decide +kernel
theorem d_M_isFire_11 : decode y_M_isFire.2.1 11 = .ok (.i2l, 1) := by decide +kernel
theorem d_M_isFire_12 : decode y_M_isFire.2.1 12 = .ok (.invokestatic 222, 3) := by decide +kernel
theorem d_M_isFire_15 : decode y_M_isFire.2.1 15 = .ok (.ireturn, 1) := by decide +kernel
theorem d_M_isCourse_0 : decode y_M_isCourse.2.1 0 = .ok (.iload_n 0, 1) := by decide +kernel
theorem d_M_isCourse_1 : decode y_M_isCourse.2.1 1 = .ok (.invokestatic 314, 3) := by decide +kernel
theorem d_M_isCourse_4 : decode y_M_isCourse.2.1 4 = .ok (.ifCond .eq 26, 3) := by decide +kernel
theorem d_M_isCourse_7 : decode y_M_isCourse.2.1 7 = .ok (.iload_n 1, 1) := by decide +kernel
theorem d_M_isCourse_8 : decode y_M_isCourse.2.1 8 = .ok (.invokestatic 314, 3) := by decide +kernel
theorem d_M_isCourse_11 : decode y_M_isCourse.2.1 11 = .ok (.ifCond .eq 19, 3) := by decide +kernel
theorem d_M_isCourse_14 : decode y_M_isCourse.2.1 14 = .ok (.iload_n 2, 1) := by decide +kernel
theorem d_M_isCourse_15 : decode y_M_isCourse.2.1 15 = .ok (.i2l, 1) := by decide +kernel
theorem d_M_isCourse_16 : decode y_M_isCourse.2.1 16 = .ok (.lconst 0, 1) := by decide +kernel
theorem d_M_isCourse_17 : decode y_M_isCourse.2.1 17 = .ok (.ldc2_w 303, 3) := by decide +kernel
theorem d_M_isCourse_20 : decode y_M_isCourse.2.1 20 = .ok (.invokestatic 222, 3) := by decide +kernel
theorem d_M_isCourse_23 : decode y_M_isCourse.2.1 23 = .ok (.ifCond .eq 7, 3) := by decide +kernel
theorem d_M_isCourse_26 : decode y_M_isCourse.2.1 26 = .ok (.iconst 1, 1) := by decide +kernel
theorem d_M_isCourse_27 : decode y_M_isCourse.2.1 27 = .ok (.goto 4, 3) := by decide +kernel
theorem d_M_isCourse_30 : decode y_M_isCourse.2.1 30 = .ok (.iconst 0, 1) := by decide +kernel
theorem d_M_isCourse_31 : decode y_M_isCourse.2.1 31 = .ok (.ireturn, 1) := by decide +kernel
theorem d_M_air_0 : decode y_M_air.2.1 0 = .ok (.aload_n 0, 1) := by decide +kernel
theorem d_M_air_1 : decode y_M_air.2.1 1 = .ok (.iconst 0, 1) := by decide +kernel
theorem d_M_air_2 : decode y_M_air.2.1 2 = .ok (.putfield 217, 3) := by decide +kernel
theorem d_M_air_5 : decode y_M_air.2.1 5 = .ok (.aload_n 0, 1) := by decide +kernel
theorem d_M_air_6 : decode y_M_air.2.1 6 = .ok (.iload 4, 2) := by decide +kernel
theorem d_M_air_8 : decode y_M_air.2.1 8 = .ok (.invokevirtual 362, 3) := by decide +kernel
theorem d_M_air_11 : decode y_M_air.2.1 11 = .ok (.ifCond .eq 20, 3) := by decide +kernel
theorem d_M_air_14 : decode y_M_air.2.1 14 = .ok (.iload 5, 2) := by decide +kernel
theorem d_M_air_16 : decode y_M_air.2.1 16 = .ok (.i2l, 1) := by decide +kernel
theorem d_M_air_17 : decode y_M_air.2.1 17 = .ok (.lconst 0, 1) := by decide +kernel
theorem d_M_air_18 : decode y_M_air.2.1 18 = .ok (.aload_n 0, 1) := by decide +kernel
theorem d_M_air_19 : decode y_M_air.2.1 19 = .ok (.getfield 250, 3) := by decide +kernel
theorem d_M_air_22 : decode y_M_air.2.1 22 = .ok (.iconst 1, 1) := by decide +kernel
theorem d_M_air_23 : decode y_M_air.2.1 23 = .ok (.isub, 1) := by decide +kernel
theorem d_M_air_24 : decode y_M_air.2.1 24 = .ok (.i2l, 1) := by decide +kernel
theorem d_M_air_25 : decode y_M_air.2.1 25 = .ok (.invokestatic 222, 3) := by decide +kernel
theorem d_M_air_28 : decode y_M_air.2.1 28 = .ok (.ifCond .ne 9, 3) := by decide +kernel
theorem d_M_air_31 : decode y_M_air.2.1 31 = .ok (.aload_n 0, 1) := by decide +kernel
theorem d_M_air_32 : decode y_M_air.2.1 32 = .ok (.iconst 1, 1) := by decide +kernel
theorem d_M_air_33 : decode y_M_air.2.1 33 = .ok (.invokevirtual 285, 3) := by decide +kernel
theorem d_M_air_36 : decode y_M_air.2.1 36 = .ok (.ireturn, 1) := by decide +kernel
theorem d_M_air_37 : decode y_M_air.2.1 37 = .ok (.iload_n 1, 1) := by decide +kernel
theorem d_M_air_38 : decode y_M_air.2.1 38 = .ok (.iload_n 2, 1) := by decide +kernel
theorem d_M_air_39 : decode y_M_air.2.1 39 = .ok (.iload_n 3, 1) := by decide +kernel
theorem d_M_air_40 : decode y_M_air.2.1 40 = .ok (.invokestatic 365, 3) := by decide +kernel
theorem d_M_air_43 : decode y_M_air.2.1 43 = .ok (.ifCond .eq 11, 3) := by decide +kernel
theorem d_M_air_46 : decode y_M_air.2.1 46 = .ok (.iload 6, 2) := by decide +kernel
theorem d_M_air_48 : decode y_M_air.2.1 48 = .ok (.invokestatic 305, 3) := by decide +kernel
theorem d_M_air_51 : decode y_M_air.2.1 51 = .ok (.ifCond .ne 9, 3) := by decide +kernel
theorem d_M_air_54 : decode y_M_air.2.1 54 = .ok (.aload_n 0, 1) := by decide +kernel
theorem d_M_air_55 : decode y_M_air.2.1 55 = .ok (.iconst 2, 1) := by decide +kernel
theorem d_M_air_56 : decode y_M_air.2.1 56 = .ok (.invokevirtual 285, 3) := by decide +kernel
theorem d_M_air_59 : decode y_M_air.2.1 59 = .ok (.ireturn, 1) := by decide +kernel
theorem d_M_air_60 : decode y_M_air.2.1 60 = .ok (.aload_n 0, 1) := by decide +kernel
theorem d_M_air_61 : decode y_M_air.2.1 61 = .ok (.iload_n 1, 1) := by decide +kernel
theorem d_M_air_62 : decode y_M_air.2.1 62 = .ok (.iload_n 2, 1) := by decide +kernel
theorem d_M_air_63 : decode y_M_air.2.1 63 = .ok (.iload_n 3, 1) := by decide +kernel
theorem d_M_air_64 : decode y_M_air.2.1 64 = .ok (.iload 4, 2) := by decide +kernel
theorem d_M_air_66 : decode y_M_air.2.1 66 = .ok (.invokevirtual 369, 3) := by decide +kernel
theorem d_M_air_69 : decode y_M_air.2.1 69 = .ok (.aload_n 0, 1) := by decide +kernel
theorem d_M_air_70 : decode y_M_air.2.1 70 = .ok (.getfield 135, 3) := by decide +kernel
theorem d_M_air_73 : decode y_M_air.2.1 73 = .ok (.bipush 12, 2) := by decide +kernel
theorem d_M_air_75 : decode y_M_air.2.1 75 = .ok (.iload 6, 2) := by decide +kernel
theorem d_M_air_77 : decode y_M_air.2.1 77 = .ok (.imul, 1) := by decide +kernel
theorem d_M_air_78 : decode y_M_air.2.1 78 = .ok (.iload 5, 2) := by decide +kernel
theorem d_M_air_80 : decode y_M_air.2.1 80 = .ok (.iadd, 1) := by decide +kernel
theorem d_M_air_81 : decode y_M_air.2.1 81 = .ok (.iaload, 1) := by decide +kernel
theorem d_M_air_82 : decode y_M_air.2.1 82 = .ok (.ireturn, 1) := by decide +kernel
theorem d_M_smoke_0 : decode y_M_smoke.2.1 0 = .ok (.aload_n 0, 1) := by decide +kernel
theorem d_M_smoke_1 : decode y_M_smoke.2.1 1 = .ok (.iconst 0, 1) := by decide +kernel
theorem d_M_smoke_2 : decode y_M_smoke.2.1 2 = .ok (.putfield 217, 3) := by decide +kernel
theorem d_M_smoke_5 : decode y_M_smoke.2.1 5 = .ok (.aload_n 0, 1) := by decide +kernel
theorem d_M_smoke_6 : decode y_M_smoke.2.1 6 = .ok (.iload 4, 2) := by decide +kernel
theorem d_M_smoke_8 : decode y_M_smoke.2.1 8 = .ok (.invokevirtual 362, 3) := by decide +kernel
theorem d_M_smoke_11 : decode y_M_smoke.2.1 11 = .ok (.ifCond .eq 12, 3) := by decide +kernel
theorem d_M_smoke_14 : decode y_M_smoke.2.1 14 = .ok (.aload_n 0, 1) := by decide +kernel
theorem d_M_smoke_15 : decode y_M_smoke.2.1 15 = .ok (.iload 5, 2) := by decide +kernel
theorem d_M_smoke_17 : decode y_M_smoke.2.1 17 = .ok (.invokevirtual 293, 3) := by decide +kernel
theorem d_M_smoke_20 : decode y_M_smoke.2.1 20 = .ok (.ifCond .ne 10, 3) := by decide +kernel
theorem d_M_smoke_23 : decode y_M_smoke.2.1 23 = .ok (.aload_n 0, 1) := by decide +kernel
theorem d_M_smoke_24 : decode y_M_smoke.2.1 24 = .ok (.iconst 1, 1) := by decide +kernel
theorem d_M_smoke_25 : decode y_M_smoke.2.1 25 = .ok (.invokevirtual 285, 3) := by decide +kernel
theorem d_M_smoke_28 : decode y_M_smoke.2.1 28 = .ok (.i2l, 1) := by decide +kernel
theorem d_M_smoke_29 : decode y_M_smoke.2.1 29 = .ok (.lreturn, 1) := by decide +kernel
theorem d_M_smoke_30 : decode y_M_smoke.2.1 30 = .ok (.iload_n 1, 1) := by decide +kernel
theorem d_M_smoke_31 : decode y_M_smoke.2.1 31 = .ok (.iload_n 2, 1) := by decide +kernel
theorem d_M_smoke_32 : decode y_M_smoke.2.1 32 = .ok (.iload_n 3, 1) := by decide +kernel
theorem d_M_smoke_33 : decode y_M_smoke.2.1 33 = .ok (.invokestatic 365, 3) := by decide +kernel
theorem d_M_smoke_36 : decode y_M_smoke.2.1 36 = .ok (.ifCond .eq 11, 3) := by decide +kernel
theorem d_M_smoke_39 : decode y_M_smoke.2.1 39 = .ok (.iload 6, 2) := by decide +kernel
theorem d_M_smoke_41 : decode y_M_smoke.2.1 41 = .ok (.invokestatic 305, 3) := by decide +kernel
theorem d_M_smoke_44 : decode y_M_smoke.2.1 44 = .ok (.ifCond .ne 10, 3) := by decide +kernel
theorem d_M_smoke_47 : decode y_M_smoke.2.1 47 = .ok (.aload_n 0, 1) := by decide +kernel
theorem d_M_smoke_48 : decode y_M_smoke.2.1 48 = .ok (.iconst 2, 1) := by decide +kernel
theorem d_M_smoke_49 : decode y_M_smoke.2.1 49 = .ok (.invokevirtual 285, 3) := by decide +kernel
theorem d_M_smoke_52 : decode y_M_smoke.2.1 52 = .ok (.i2l, 1) := by decide +kernel
theorem d_M_smoke_53 : decode y_M_smoke.2.1 53 = .ok (.lreturn, 1) := by decide +kernel
theorem d_M_smoke_54 : decode y_M_smoke.2.1 54 = .ok (.aload_n 0, 1) := by decide +kernel
theorem d_M_smoke_55 : decode y_M_smoke.2.1 55 = .ok (.iload_n 1, 1) := by decide +kernel
theorem d_M_smoke_56 : decode y_M_smoke.2.1 56 = .ok (.iload_n 2, 1) := by decide +kernel
theorem d_M_smoke_57 : decode y_M_smoke.2.1 57 = .ok (.iload_n 3, 1) := by decide +kernel
theorem d_M_smoke_58 : decode y_M_smoke.2.1 58 = .ok (.iload 4, 2) := by decide +kernel
theorem d_M_smoke_60 : decode y_M_smoke.2.1 60 = .ok (.invokevirtual 369, 3) := by decide +kernel
theorem d_M_smoke_63 : decode y_M_smoke.2.1 63 = .ok (.iload 7, 2) := by decide +kernel
theorem d_M_smoke_65 : decode y_M_smoke.2.1 65 = .ok (.ifCond .eq 20, 3) := by decide +kernel
theorem d_M_smoke_68 : decode y_M_smoke.2.1 68 = .ok (.aload_n 0, 1) := by decide +kernel
theorem d_M_smoke_69 : decode y_M_smoke.2.1 69 = .ok (.getfield 129, 3) := by decide +kernel
theorem d_M_smoke_72 : decode y_M_smoke.2.1 72 = .ok (.bipush 8, 2) := by decide +kernel
theorem d_M_smoke_74 : decode y_M_smoke.2.1 74 = .ok (.iload 6, 2) := by decide +kernel
theorem d_M_smoke_76 : decode y_M_smoke.2.1 76 = .ok (.imul, 1) := by decide +kernel
theorem d_M_smoke_77 : decode y_M_smoke.2.1 77 = .ok (.iload 5, 2) := by decide +kernel
theorem d_M_smoke_79 : decode y_M_smoke.2.1 79 = .ok (.iadd, 1) := by decide +kernel
theorem d_M_smoke_80 : decode y_M_smoke.2.1 80 = .ok (.iaload, 1) := by decide +kernel
theorem d_M_smoke_81 : decode y_M_smoke.2.1 81 = .ok (.i2l, 1) := by decide +kernel
theorem d_M_smoke_82 : decode y_M_smoke.2.1 82 = .ok (.goto 17, 3) := by decide +kernel
theorem d_M_smoke_85 : decode y_M_smoke.2.1 85 = .ok (.aload_n 0, 1) := by decide +kernel
theorem d_M_smoke_86 : decode y_M_smoke.2.1 86 = .ok (.getfield 132, 3) := by decide +kernel
theorem d_M_smoke_89 : decode y_M_smoke.2.1 89 = .ok (.bipush 8, 2) := by decide +kernel
theorem d_M_smoke_91 : decode y_M_smoke.2.1 91 = .ok (.iload 6, 2) := by decide +kernel
theorem d_M_smoke_93 : decode y_M_smoke.2.1 93 = .ok (.imul, 1) := by decide +kernel
theorem d_M_smoke_94 : decode y_M_smoke.2.1 94 = .ok (.iload 5, 2) := by decide +kernel
theorem d_M_smoke_96 : decode y_M_smoke.2.1 96 = .ok (.iadd, 1) := by decide +kernel
theorem d_M_smoke_97 : decode y_M_smoke.2.1 97 = .ok (.iaload, 1) := by decide +kernel
theorem d_M_smoke_98 : decode y_M_smoke.2.1 98 = .ok (.i2l, 1) := by decide +kernel
theorem d_M_smoke_99 : decode y_M_smoke.2.1 99 = .ok (.lreturn, 1) := by decide +kernel
theorem d_M_given_0 : decode y_M_given.2.1 0 = .ok (.aload_n 0, 1) := by decide +kernel
theorem d_M_given_1 : decode y_M_given.2.1 1 = .ok (.iconst 0, 1) := by decide +kernel
theorem d_M_given_2 : decode y_M_given.2.1 2 = .ok (.putfield 217, 3) := by decide +kernel
theorem d_M_given_5 : decode y_M_given.2.1 5 = .ok (.aload_n 0, 1) := by decide +kernel
theorem d_M_given_6 : decode y_M_given.2.1 6 = .ok (.iload 4, 2) := by decide +kernel
theorem d_M_given_8 : decode y_M_given.2.1 8 = .ok (.invokevirtual 362, 3) := by decide +kernel
theorem d_M_given_11 : decode y_M_given.2.1 11 = .ok (.ifCond .ne 10, 3) := by decide +kernel
theorem d_M_given_14 : decode y_M_given.2.1 14 = .ok (.aload_n 0, 1) := by decide +kernel
theorem d_M_given_15 : decode y_M_given.2.1 15 = .ok (.iconst 1, 1) := by decide +kernel
theorem d_M_given_16 : decode y_M_given.2.1 16 = .ok (.invokevirtual 285, 3) := by decide +kernel
theorem d_M_given_19 : decode y_M_given.2.1 19 = .ok (.i2l, 1) := by decide +kernel
theorem d_M_given_20 : decode y_M_given.2.1 20 = .ok (.lreturn, 1) := by decide +kernel
theorem d_M_given_21 : decode y_M_given.2.1 21 = .ok (.iload_n 1, 1) := by decide +kernel
theorem d_M_given_22 : decode y_M_given.2.1 22 = .ok (.iload_n 2, 1) := by decide +kernel
theorem d_M_given_23 : decode y_M_given.2.1 23 = .ok (.iload_n 3, 1) := by decide +kernel
theorem d_M_given_24 : decode y_M_given.2.1 24 = .ok (.invokestatic 365, 3) := by decide +kernel
theorem d_M_given_27 : decode y_M_given.2.1 27 = .ok (.ifCond .eq 24, 3) := by decide +kernel
theorem d_M_given_30 : decode y_M_given.2.1 30 = .ok (.iload 5, 2) := by decide +kernel
theorem d_M_given_32 : decode y_M_given.2.1 32 = .ok (.invokestatic 305, 3) := by decide +kernel
theorem d_M_given_35 : decode y_M_given.2.1 35 = .ok (.ifCond .eq 16, 3) := by decide +kernel
theorem d_M_given_38 : decode y_M_given.2.1 38 = .ok (.iload 6, 2) := by decide +kernel
theorem d_M_given_40 : decode y_M_given.2.1 40 = .ok (.i2l, 1) := by decide +kernel
theorem d_M_given_41 : decode y_M_given.2.1 41 = .ok (.lconst 0, 1) := by decide +kernel
theorem d_M_given_42 : decode y_M_given.2.1 42 = .ok (.ldc2_w 226, 3) := by decide +kernel
theorem d_M_given_45 : decode y_M_given.2.1 45 = .ok (.invokestatic 222, 3) := by decide +kernel
theorem d_M_given_48 : decode y_M_given.2.1 48 = .ok (.ifCond .ne 10, 3) := by decide +kernel
theorem d_M_given_51 : decode y_M_given.2.1 51 = .ok (.aload_n 0, 1) := by decide +kernel
theorem d_M_given_52 : decode y_M_given.2.1 52 = .ok (.iconst 2, 1) := by decide +kernel
theorem d_M_given_53 : decode y_M_given.2.1 53 = .ok (.invokevirtual 285, 3) := by decide +kernel
theorem d_M_given_56 : decode y_M_given.2.1 56 = .ok (.i2l, 1) := by decide +kernel
theorem d_M_given_57 : decode y_M_given.2.1 57 = .ok (.lreturn, 1) := by decide +kernel
theorem d_M_given_58 : decode y_M_given.2.1 58 = .ok (.aload_n 0, 1) := by decide +kernel
theorem d_M_given_59 : decode y_M_given.2.1 59 = .ok (.iload_n 1, 1) := by decide +kernel
theorem d_M_given_60 : decode y_M_given.2.1 60 = .ok (.iload_n 2, 1) := by decide +kernel
theorem d_M_given_61 : decode y_M_given.2.1 61 = .ok (.iload_n 3, 1) := by decide +kernel
theorem d_M_given_62 : decode y_M_given.2.1 62 = .ok (.iload 4, 2) := by decide +kernel
theorem d_M_given_64 : decode y_M_given.2.1 64 = .ok (.invokevirtual 369, 3) := by decide +kernel
theorem d_M_given_67 : decode y_M_given.2.1 67 = .ok (.iload 6, 2) := by decide +kernel
theorem d_M_given_69 : decode y_M_given.2.1 69 = .ok (.iconst 3, 1) := by decide +kernel
theorem d_M_given_70 : decode y_M_given.2.1 70 = .ok (.if_icmp .ge 45, 3) := by decide +kernel
theorem d_M_given_73 : decode y_M_given.2.1 73 = .ok (.iload 6, 2) := by decide +kernel
theorem d_M_given_75 : decode y_M_given.2.1 75 = .ok (.ifCond .ne 14, 3) := by decide +kernel
theorem d_M_given_78 : decode y_M_given.2.1 78 = .ok (.aload_n 0, 1) := by decide +kernel
theorem d_M_given_79 : decode y_M_given.2.1 79 = .ok (.getfield 141, 3) := by decide +kernel
theorem d_M_given_82 : decode y_M_given.2.1 82 = .ok (.iload 5, 2) := by decide +kernel
theorem d_M_given_84 : decode y_M_given.2.1 84 = .ok (.iaload, 1) := by decide +kernel
theorem d_M_given_85 : decode y_M_given.2.1 85 = .ok (.i2l, 1) := by decide +kernel
theorem d_M_given_86 : decode y_M_given.2.1 86 = .ok (.goto 28, 3) := by decide +kernel
theorem d_M_given_89 : decode y_M_given.2.1 89 = .ok (.iload 6, 2) := by decide +kernel
theorem d_M_given_91 : decode y_M_given.2.1 91 = .ok (.iconst 1, 1) := by decide +kernel
theorem d_M_given_92 : decode y_M_given.2.1 92 = .ok (.if_icmp .ne 14, 3) := by decide +kernel
theorem d_M_given_95 : decode y_M_given.2.1 95 = .ok (.aload_n 0, 1) := by decide +kernel
theorem d_M_given_96 : decode y_M_given.2.1 96 = .ok (.getfield 144, 3) := by decide +kernel
theorem d_M_given_99 : decode y_M_given.2.1 99 = .ok (.iload 5, 2) := by decide +kernel
theorem d_M_given_101 : decode y_M_given.2.1 101 = .ok (.iaload, 1) := by decide +kernel
theorem d_M_given_102 : decode y_M_given.2.1 102 = .ok (.i2l, 1) := by decide +kernel
theorem d_M_given_103 : decode y_M_given.2.1 103 = .ok (.goto 11, 3) := by decide +kernel
theorem d_M_given_106 : decode y_M_given.2.1 106 = .ok (.aload_n 0, 1) := by decide +kernel
theorem d_M_given_107 : decode y_M_given.2.1 107 = .ok (.getfield 147, 3) := by decide +kernel
theorem d_M_given_110 : decode y_M_given.2.1 110 = .ok (.iload 5, 2) := by decide +kernel
theorem d_M_given_112 : decode y_M_given.2.1 112 = .ok (.iaload, 1) := by decide +kernel
theorem d_M_given_113 : decode y_M_given.2.1 113 = .ok (.i2l, 1) := by decide +kernel
theorem d_M_given_114 : decode y_M_given.2.1 114 = .ok (.lreturn, 1) := by decide +kernel
theorem d_M_given_115 : decode y_M_given.2.1 115 = .ok (.lconst 0, 1) := by decide +kernel
theorem d_M_given_116 : decode y_M_given.2.1 116 = .ok (.lstore 7, 2) := by decide +kernel
theorem d_M_given_118 : decode y_M_given.2.1 118 = .ok (.iconst 0, 1) := by decide +kernel
theorem d_M_given_119 : decode y_M_given.2.1 119 = .ok (.istore 9, 2) := by decide +kernel
theorem d_M_given_121 : decode y_M_given.2.1 121 = .ok (.iload 9, 2) := by decide +kernel
theorem d_M_given_123 : decode y_M_given.2.1 123 = .ok (.aload_n 0, 1) := by decide +kernel
theorem d_M_given_124 : decode y_M_given.2.1 124 = .ok (.getfield 228, 3) := by decide +kernel
theorem d_M_given_127 : decode y_M_given.2.1 127 = .ok (.if_icmp .ge 42, 3) := by decide +kernel
theorem d_M_given_130 : decode y_M_given.2.1 130 = .ok (.lload 7, 2) := by decide +kernel
theorem d_M_given_132 : decode y_M_given.2.1 132 = .ok (.aload_n 0, 1) := by decide +kernel
theorem d_M_given_133 : decode y_M_given.2.1 133 = .ok (.getfield 129, 3) := by decide +kernel
theorem d_M_given_136 : decode y_M_given.2.1 136 = .ok (.bipush 8, 2) := by decide +kernel
theorem d_M_given_138 : decode y_M_given.2.1 138 = .ok (.iload 5, 2) := by decide +kernel
theorem d_M_given_140 : decode y_M_given.2.1 140 = .ok (.imul, 1) := by decide +kernel
theorem d_M_given_141 : decode y_M_given.2.1 141 = .ok (.iload 9, 2) := by decide +kernel
theorem d_M_given_143 : decode y_M_given.2.1 143 = .ok (.iadd, 1) := by decide +kernel
theorem d_M_given_144 : decode y_M_given.2.1 144 = .ok (.iaload, 1) := by decide +kernel
theorem d_M_given_145 : decode y_M_given.2.1 145 = .ok (.aload_n 0, 1) := by decide +kernel
theorem d_M_given_146 : decode y_M_given.2.1 146 = .ok (.getfield 132, 3) := by decide +kernel
theorem d_M_given_149 : decode y_M_given.2.1 149 = .ok (.bipush 8, 2) := by decide +kernel
theorem d_M_given_151 : decode y_M_given.2.1 151 = .ok (.iload 5, 2) := by decide +kernel
theorem d_M_given_153 : decode y_M_given.2.1 153 = .ok (.imul, 1) := by decide +kernel
theorem d_M_given_154 : decode y_M_given.2.1 154 = .ok (.iload 9, 2) := by decide +kernel
theorem d_M_given_156 : decode y_M_given.2.1 156 = .ok (.iadd, 1) := by decide +kernel
theorem d_M_given_157 : decode y_M_given.2.1 157 = .ok (.iaload, 1) := by decide +kernel
theorem d_M_given_158 : decode y_M_given.2.1 158 = .ok (.iadd, 1) := by decide +kernel
theorem d_M_given_159 : decode y_M_given.2.1 159 = .ok (.i2l, 1) := by decide +kernel
theorem d_M_given_160 : decode y_M_given.2.1 160 = .ok (.ladd, 1) := by decide +kernel
theorem d_M_given_161 : decode y_M_given.2.1 161 = .ok (.lstore 7, 2) := by decide +kernel
theorem d_M_given_163 : decode y_M_given.2.1 163 = .ok (.iinc 9 1, 3) := by decide +kernel
theorem d_M_given_166 : decode y_M_given.2.1 166 = .ok (.goto (-45), 3) := by decide +kernel
theorem d_M_given_169 : decode y_M_given.2.1 169 = .ok (.lload 7, 2) := by decide +kernel
theorem d_M_given_171 : decode y_M_given.2.1 171 = .ok (.lreturn, 1) := by decide +kernel
theorem d_M_lost_0 : decode y_M_lost.2.1 0 = .ok (.aload_n 0, 1) := by decide +kernel
theorem d_M_lost_1 : decode y_M_lost.2.1 1 = .ok (.iconst 0, 1) := by decide +kernel
theorem d_M_lost_2 : decode y_M_lost.2.1 2 = .ok (.putfield 217, 3) := by decide +kernel
theorem d_M_lost_5 : decode y_M_lost.2.1 5 = .ok (.aload_n 0, 1) := by decide +kernel
theorem d_M_lost_6 : decode y_M_lost.2.1 6 = .ok (.iload 4, 2) := by decide +kernel
theorem d_M_lost_8 : decode y_M_lost.2.1 8 = .ok (.invokevirtual 362, 3) := by decide +kernel
theorem d_M_lost_11 : decode y_M_lost.2.1 11 = .ok (.ifCond .eq 20, 3) := by decide +kernel
theorem d_M_lost_14 : decode y_M_lost.2.1 14 = .ok (.iload 5, 2) := by decide +kernel
theorem d_M_lost_16 : decode y_M_lost.2.1 16 = .ok (.i2l, 1) := by decide +kernel
theorem d_M_lost_17 : decode y_M_lost.2.1 17 = .ok (.lconst 0, 1) := by decide +kernel
theorem d_M_lost_18 : decode y_M_lost.2.1 18 = .ok (.aload_n 0, 1) := by decide +kernel
theorem d_M_lost_19 : decode y_M_lost.2.1 19 = .ok (.getfield 256, 3) := by decide +kernel
theorem d_M_lost_22 : decode y_M_lost.2.1 22 = .ok (.iconst 1, 1) := by decide +kernel
theorem d_M_lost_23 : decode y_M_lost.2.1 23 = .ok (.isub, 1) := by decide +kernel
theorem d_M_lost_24 : decode y_M_lost.2.1 24 = .ok (.i2l, 1) := by decide +kernel
theorem d_M_lost_25 : decode y_M_lost.2.1 25 = .ok (.invokestatic 222, 3) := by decide +kernel
theorem d_M_lost_28 : decode y_M_lost.2.1 28 = .ok (.ifCond .ne 9, 3) := by decide +kernel
theorem d_M_lost_31 : decode y_M_lost.2.1 31 = .ok (.aload_n 0, 1) := by decide +kernel
theorem d_M_lost_32 : decode y_M_lost.2.1 32 = .ok (.iconst 1, 1) := by decide +kernel
theorem d_M_lost_33 : decode y_M_lost.2.1 33 = .ok (.invokevirtual 285, 3) := by decide +kernel
theorem d_M_lost_36 : decode y_M_lost.2.1 36 = .ok (.ireturn, 1) := by decide +kernel
theorem d_M_lost_37 : decode y_M_lost.2.1 37 = .ok (.iload_n 1, 1) := by decide +kernel
theorem d_M_lost_38 : decode y_M_lost.2.1 38 = .ok (.iload_n 2, 1) := by decide +kernel
theorem d_M_lost_39 : decode y_M_lost.2.1 39 = .ok (.iload_n 3, 1) := by decide +kernel
theorem d_M_lost_40 : decode y_M_lost.2.1 40 = .ok (.invokestatic 365, 3) := by decide +kernel
theorem d_M_lost_43 : decode y_M_lost.2.1 43 = .ok (.ifCond .ne 9, 3) := by decide +kernel
theorem d_M_lost_46 : decode y_M_lost.2.1 46 = .ok (.aload_n 0, 1) := by decide +kernel
theorem d_M_lost_47 : decode y_M_lost.2.1 47 = .ok (.iconst 2, 1) := by decide +kernel
theorem d_M_lost_48 : decode y_M_lost.2.1 48 = .ok (.invokevirtual 285, 3) := by decide +kernel
theorem d_M_lost_51 : decode y_M_lost.2.1 51 = .ok (.ireturn, 1) := by decide +kernel
theorem d_M_lost_52 : decode y_M_lost.2.1 52 = .ok (.aload_n 0, 1) := by decide +kernel
theorem d_M_lost_53 : decode y_M_lost.2.1 53 = .ok (.iload_n 1, 1) := by decide +kernel
theorem d_M_lost_54 : decode y_M_lost.2.1 54 = .ok (.iload_n 2, 1) := by decide +kernel
theorem d_M_lost_55 : decode y_M_lost.2.1 55 = .ok (.iload_n 3, 1) := by decide +kernel
theorem d_M_lost_56 : decode y_M_lost.2.1 56 = .ok (.iload 4, 2) := by decide +kernel
theorem d_M_lost_58 : decode y_M_lost.2.1 58 = .ok (.invokevirtual 369, 3) := by decide +kernel
theorem d_M_lost_61 : decode y_M_lost.2.1 61 = .ok (.aload_n 0, 1) := by decide +kernel
theorem d_M_lost_62 : decode y_M_lost.2.1 62 = .ok (.getfield 138, 3) := by decide +kernel
theorem d_M_lost_65 : decode y_M_lost.2.1 65 = .ok (.iload 5, 2) := by decide +kernel
theorem d_M_lost_67 : decode y_M_lost.2.1 67 = .ok (.iaload, 1) := by decide +kernel
theorem d_M_lost_68 : decode y_M_lost.2.1 68 = .ok (.ireturn, 1) := by decide +kernel
theorem d_M_shut_0 : decode y_M_shut.2.1 0 = .ok (.aload_n 0, 1) := by decide +kernel
theorem d_M_shut_1 : decode y_M_shut.2.1 1 = .ok (.aload_n 0, 1) := by decide +kernel
theorem d_M_shut_2 : decode y_M_shut.2.1 2 = .ok (.iload 4, 2) := by decide +kernel
theorem d_M_shut_4 : decode y_M_shut.2.1 4 = .ok (.invokevirtual 362, 3) := by decide +kernel
theorem d_M_shut_7 : decode y_M_shut.2.1 7 = .ok (.ifCond .eq 12, 3) := by decide +kernel
theorem d_M_shut_10 : decode y_M_shut.2.1 10 = .ok (.aload_n 0, 1) := by decide +kernel
theorem d_M_shut_11 : decode y_M_shut.2.1 11 = .ok (.iload 5, 2) := by decide +kernel
theorem d_M_shut_13 : decode y_M_shut.2.1 13 = .ok (.invokevirtual 293, 3) := by decide +kernel
theorem d_M_shut_16 : decode y_M_shut.2.1 16 = .ok (.ifCond .ne 7, 3) := by decide +kernel
theorem d_M_shut_19 : decode y_M_shut.2.1 19 = .ok (.iconst 1, 1) := by decide +kernel
theorem d_M_shut_20 : decode y_M_shut.2.1 20 = .ok (.goto 25, 3) := by decide +kernel
theorem d_M_shut_23 : decode y_M_shut.2.1 23 = .ok (.iload_n 1, 1) := by decide +kernel
theorem d_M_shut_24 : decode y_M_shut.2.1 24 = .ok (.iload_n 2, 1) := by decide +kernel
theorem d_M_shut_25 : decode y_M_shut.2.1 25 = .ok (.iload_n 3, 1) := by decide +kernel
theorem d_M_shut_26 : decode y_M_shut.2.1 26 = .ok (.invokestatic 365, 3) := by decide +kernel
theorem d_M_shut_29 : decode y_M_shut.2.1 29 = .ok (.ifCond .eq 11, 3) := by decide +kernel
theorem d_M_shut_32 : decode y_M_shut.2.1 32 = .ok (.iload 6, 2) := by decide +kernel
theorem d_M_shut_34 : decode y_M_shut.2.1 34 = .ok (.invokestatic 305, 3) := by decide +kernel
theorem d_M_shut_37 : decode y_M_shut.2.1 37 = .ok (.ifCond .ne 7, 3) := by decide +kernel
theorem d_M_shut_40 : decode y_M_shut.2.1 40 = .ok (.iconst 2, 1) := by decide +kernel
theorem d_M_shut_41 : decode y_M_shut.2.1 41 = .ok (.goto 4, 3) := by decide +kernel
theorem d_M_shut_44 : decode y_M_shut.2.1 44 = .ok (.iconst 0, 1) := by decide +kernel
theorem d_M_shut_45 : decode y_M_shut.2.1 45 = .ok (.putfield 217, 3) := by decide +kernel
theorem d_M_shut_48 : decode y_M_shut.2.1 48 = .ok (.aload_n 0, 1) := by decide +kernel
theorem d_M_shut_49 : decode y_M_shut.2.1 49 = .ok (.getfield 217, 3) := by decide +kernel
theorem d_M_shut_52 : decode y_M_shut.2.1 52 = .ok (.ifCond .le 5, 3) := by decide +kernel
theorem d_M_shut_55 : decode y_M_shut.2.1 55 = .ok (.iconst 0, 1) := by decide +kernel
theorem d_M_shut_56 : decode y_M_shut.2.1 56 = .ok (.ireturn, 1) := by decide +kernel
theorem d_M_shut_57 : decode y_M_shut.2.1 57 = .ok (.aload_n 0, 1) := by decide +kernel
theorem d_M_shut_58 : decode y_M_shut.2.1 58 = .ok (.iload_n 1, 1) := by decide +kernel
theorem d_M_shut_59 : decode y_M_shut.2.1 59 = .ok (.iload_n 2, 1) := by decide +kernel
theorem d_M_shut_60 : decode y_M_shut.2.1 60 = .ok (.iload_n 3, 1) := by decide +kernel
theorem d_M_shut_61 : decode y_M_shut.2.1 61 = .ok (.iload 4, 2) := by decide +kernel
theorem d_M_shut_63 : decode y_M_shut.2.1 63 = .ok (.invokevirtual 369, 3) := by decide +kernel
theorem d_M_shut_66 : decode y_M_shut.2.1 66 = .ok (.aload_n 0, 1) := by decide +kernel
theorem d_M_shut_67 : decode y_M_shut.2.1 67 = .ok (.iload 5, 2) := by decide +kernel
theorem d_M_shut_69 : decode y_M_shut.2.1 69 = .ok (.iload 6, 2) := by decide +kernel
theorem d_M_shut_71 : decode y_M_shut.2.1 71 = .ok (.invokevirtual 372, 3) := by decide +kernel
theorem d_M_shut_74 : decode y_M_shut.2.1 74 = .ok (.ireturn, 1) := by decide +kernel
theorem d_M_arc_0 : decode y_M_arc.2.1 0 = .ok (.aload_n 0, 1) := by decide +kernel
theorem d_M_arc_1 : decode y_M_arc.2.1 1 = .ok (.getfield 168, 3) := by decide +kernel
theorem d_M_arc_4 : decode y_M_arc.2.1 4 = .ok (.aload_n 0, 1) := by decide +kernel
theorem d_M_arc_5 : decode y_M_arc.2.1 5 = .ok (.getfield 375, 3) := by decide +kernel
theorem d_M_arc_8 : decode y_M_arc.2.1 8 = .ok (.iload_n 2, 1) := by decide +kernel
theorem d_M_arc_9 : decode y_M_arc.2.1 9 = .ok (.iastore, 1) := by decide +kernel
theorem d_M_arc_10 : decode y_M_arc.2.1 10 = .ok (.aload_n 0, 1) := by decide +kernel
theorem d_M_arc_11 : decode y_M_arc.2.1 11 = .ok (.getfield 171, 3) := by decide +kernel
theorem d_M_arc_14 : decode y_M_arc.2.1 14 = .ok (.aload_n 0, 1) := by decide +kernel
theorem d_M_arc_15 : decode y_M_arc.2.1 15 = .ok (.getfield 375, 3) := by decide +kernel
theorem d_M_arc_18 : decode y_M_arc.2.1 18 = .ok (.iload_n 3, 1) := by decide +kernel
theorem d_M_arc_19 : decode y_M_arc.2.1 19 = .ok (.iastore, 1) := by decide +kernel
theorem d_M_arc_20 : decode y_M_arc.2.1 20 = .ok (.aload_n 0, 1) := by decide +kernel
theorem d_M_arc_21 : decode y_M_arc.2.1 21 = .ok (.getfield 165, 3) := by decide +kernel
theorem d_M_arc_24 : decode y_M_arc.2.1 24 = .ok (.aload_n 0, 1) := by decide +kernel
theorem d_M_arc_25 : decode y_M_arc.2.1 25 = .ok (.getfield 375, 3) := by decide +kernel
theorem d_M_arc_28 : decode y_M_arc.2.1 28 = .ok (.aload_n 0, 1) := by decide +kernel
theorem d_M_arc_29 : decode y_M_arc.2.1 29 = .ok (.getfield 150, 3) := by decide +kernel
theorem d_M_arc_32 : decode y_M_arc.2.1 32 = .ok (.iload_n 1, 1) := by decide +kernel
theorem d_M_arc_33 : decode y_M_arc.2.1 33 = .ok (.iaload, 1) := by decide +kernel
theorem d_M_arc_34 : decode y_M_arc.2.1 34 = .ok (.iastore, 1) := by decide +kernel
theorem d_M_arc_35 : decode y_M_arc.2.1 35 = .ok (.aload_n 0, 1) := by decide +kernel
theorem d_M_arc_36 : decode y_M_arc.2.1 36 = .ok (.getfield 150, 3) := by decide +kernel
theorem d_M_arc_39 : decode y_M_arc.2.1 39 = .ok (.iload_n 1, 1) := by decide +kernel
theorem d_M_arc_40 : decode y_M_arc.2.1 40 = .ok (.aload_n 0, 1) := by decide +kernel
theorem d_M_arc_41 : decode y_M_arc.2.1 41 = .ok (.getfield 375, 3) := by decide +kernel
theorem d_M_arc_44 : decode y_M_arc.2.1 44 = .ok (.iastore, 1) := by decide +kernel
theorem d_M_arc_45 : decode y_M_arc.2.1 45 = .ok (.aload_n 0, 1) := by decide +kernel
theorem d_M_arc_46 : decode y_M_arc.2.1 46 = .ok (.dup, 1) := by decide +kernel
theorem d_M_arc_47 : decode y_M_arc.2.1 47 = .ok (.getfield 375, 3) := by decide +kernel
theorem d_M_arc_50 : decode y_M_arc.2.1 50 = .ok (.iconst 1, 1) := by decide +kernel
theorem d_M_arc_51 : decode y_M_arc.2.1 51 = .ok (.iadd, 1) := by decide +kernel
theorem d_M_arc_52 : decode y_M_arc.2.1 52 = .ok (.putfield 375, 3) := by decide +kernel
theorem d_M_arc_55 : decode y_M_arc.2.1 55 = .ok (.aload_n 0, 1) := by decide +kernel
theorem d_M_arc_56 : decode y_M_arc.2.1 56 = .ok (.getfield 168, 3) := by decide +kernel
theorem d_M_arc_59 : decode y_M_arc.2.1 59 = .ok (.aload_n 0, 1) := by decide +kernel
theorem d_M_arc_60 : decode y_M_arc.2.1 60 = .ok (.getfield 375, 3) := by decide +kernel
theorem d_M_arc_63 : decode y_M_arc.2.1 63 = .ok (.iload_n 1, 1) := by decide +kernel
theorem d_M_arc_64 : decode y_M_arc.2.1 64 = .ok (.iastore, 1) := by decide +kernel
theorem d_M_arc_65 : decode y_M_arc.2.1 65 = .ok (.aload_n 0, 1) := by decide +kernel
theorem d_M_arc_66 : decode y_M_arc.2.1 66 = .ok (.getfield 171, 3) := by decide +kernel
theorem d_M_arc_69 : decode y_M_arc.2.1 69 = .ok (.aload_n 0, 1) := by decide +kernel
theorem d_M_arc_70 : decode y_M_arc.2.1 70 = .ok (.getfield 375, 3) := by decide +kernel
theorem d_M_arc_73 : decode y_M_arc.2.1 73 = .ok (.iconst 0, 1) := by decide +kernel
theorem d_M_arc_74 : decode y_M_arc.2.1 74 = .ok (.iastore, 1) := by decide +kernel
theorem d_M_arc_75 : decode y_M_arc.2.1 75 = .ok (.aload_n 0, 1) := by decide +kernel
theorem d_M_arc_76 : decode y_M_arc.2.1 76 = .ok (.getfield 165, 3) := by decide +kernel
theorem d_M_arc_79 : decode y_M_arc.2.1 79 = .ok (.aload_n 0, 1) := by decide +kernel
theorem d_M_arc_80 : decode y_M_arc.2.1 80 = .ok (.getfield 375, 3) := by decide +kernel
theorem d_M_arc_83 : decode y_M_arc.2.1 83 = .ok (.aload_n 0, 1) := by decide +kernel
theorem d_M_arc_84 : decode y_M_arc.2.1 84 = .ok (.getfield 150, 3) := by decide +kernel
theorem d_M_arc_87 : decode y_M_arc.2.1 87 = .ok (.iload_n 2, 1) := by decide +kernel
theorem d_M_arc_88 : decode y_M_arc.2.1 88 = .ok (.iaload, 1) := by decide +kernel
theorem d_M_arc_89 : decode y_M_arc.2.1 89 = .ok (.iastore, 1) := by decide +kernel
theorem d_M_arc_90 : decode y_M_arc.2.1 90 = .ok (.aload_n 0, 1) := by decide +kernel
theorem d_M_arc_91 : decode y_M_arc.2.1 91 = .ok (.getfield 150, 3) := by decide +kernel
theorem d_M_arc_94 : decode y_M_arc.2.1 94 = .ok (.iload_n 2, 1) := by decide +kernel
theorem d_M_arc_95 : decode y_M_arc.2.1 95 = .ok (.aload_n 0, 1) := by decide +kernel
theorem d_M_arc_96 : decode y_M_arc.2.1 96 = .ok (.getfield 375, 3) := by decide +kernel
theorem d_M_arc_99 : decode y_M_arc.2.1 99 = .ok (.iastore, 1) := by decide +kernel
theorem d_M_arc_100 : decode y_M_arc.2.1 100 = .ok (.aload_n 0, 1) := by decide +kernel
theorem d_M_arc_101 : decode y_M_arc.2.1 101 = .ok (.dup, 1) := by decide +kernel
theorem d_M_arc_102 : decode y_M_arc.2.1 102 = .ok (.getfield 375, 3) := by decide +kernel
theorem d_M_arc_105 : decode y_M_arc.2.1 105 = .ok (.iconst 1, 1) := by decide +kernel
theorem d_M_arc_106 : decode y_M_arc.2.1 106 = .ok (.iadd, 1) := by decide +kernel
theorem d_M_arc_107 : decode y_M_arc.2.1 107 = .ok (.putfield 375, 3) := by decide +kernel
theorem d_M_arc_110 : decode y_M_arc.2.1 110 = .ok (.return_, 1) := by decide +kernel
theorem d_M_begin_0 : decode y_M_begin.2.1 0 = .ok (.bipush 16, 2) := by decide +kernel
theorem d_M_begin_2 : decode y_M_begin.2.1 2 = .ok (.iload_n 1, 1) := by decide +kernel
theorem d_M_begin_3 : decode y_M_begin.2.1 3 = .ok (.imul, 1) := by decide +kernel
theorem d_M_begin_4 : decode y_M_begin.2.1 4 = .ok (.iload_n 0, 1) := by decide +kernel
theorem d_M_begin_5 : decode y_M_begin.2.1 5 = .ok (.iadd, 1) := by decide +kernel
theorem d_M_begin_6 : decode y_M_begin.2.1 6 = .ok (.ireturn, 1) := by decide +kernel
theorem d_M_being_0 : decode y_M_being.2.1 0 = .ok (.bipush 16, 2) := by decide +kernel
theorem d_M_being_2 : decode y_M_being.2.1 2 = .ok (.iload_n 1, 1) := by decide +kernel
theorem d_M_being_3 : decode y_M_being.2.1 3 = .ok (.imul, 1) := by decide +kernel
theorem d_M_being_4 : decode y_M_being.2.1 4 = .ok (.bipush 8, 2) := by decide +kernel
theorem d_M_being_6 : decode y_M_being.2.1 6 = .ok (.iadd, 1) := by decide +kernel
theorem d_M_being_7 : decode y_M_being.2.1 7 = .ok (.iload_n 0, 1) := by decide +kernel
theorem d_M_being_8 : decode y_M_being.2.1 8 = .ok (.iadd, 1) := by decide +kernel
theorem d_M_being_9 : decode y_M_being.2.1 9 = .ok (.ireturn, 1) := by decide +kernel
theorem d_M_made_0 : decode y_M_made.2.1 0 = .ok (.iconst 0, 1) := by decide +kernel
theorem d_M_made_1 : decode y_M_made.2.1 1 = .ok (.istore_n 1, 1) := by decide +kernel
theorem d_M_made_2 : decode y_M_made.2.1 2 = .ok (.iconst 0, 1) := by decide +kernel
theorem d_M_made_3 : decode y_M_made.2.1 3 = .ok (.istore_n 2, 1) := by decide +kernel
theorem d_M_made_4 : decode y_M_made.2.1 4 = .ok (.iload_n 2, 1) := by decide +kernel
theorem d_M_made_5 : decode y_M_made.2.1 5 = .ok (.aload_n 0, 1) := by decide +kernel
theorem d_M_made_6 : decode y_M_made.2.1 6 = .ok (.getfield 269, 3) := by decide +kernel
theorem d_M_made_9 : decode y_M_made.2.1 9 = .ok (.if_icmp .ge 28, 3) := by decide +kernel
theorem d_M_made_12 : decode y_M_made.2.1 12 = .ok (.iload_n 1, 1) := by decide +kernel
theorem d_M_made_13 : decode y_M_made.2.1 13 = .ok (.aload_n 0, 1) := by decide +kernel
theorem d_M_made_14 : decode y_M_made.2.1 14 = .ok (.getfield 107, 3) := by decide +kernel
theorem d_M_made_17 : decode y_M_made.2.1 17 = .ok (.iload_n 2, 1) := by decide +kernel
theorem d_M_made_18 : decode y_M_made.2.1 18 = .ok (.baload, 1) := by decide +kernel
theorem d_M_made_19 : decode y_M_made.2.1 19 = .ok (.ifCond .eq 9, 3) := by decide +kernel
theorem d_M_made_22 : decode y_M_made.2.1 22 = .ok (.iconst 1, 1) := by decide +kernel
theorem d_M_made_23 : decode y_M_made.2.1 23 = .ok (.iload_n 2, 1) := by decide +kernel
theorem d_M_made_24 : decode y_M_made.2.1 24 = .ok (.ishl, 1) := by decide +kernel
theorem d_M_made_25 : decode y_M_made.2.1 25 = .ok (.goto 4, 3) := by decide +kernel
theorem d_M_made_28 : decode y_M_made.2.1 28 = .ok (.iconst 0, 1) := by decide +kernel
theorem d_M_made_29 : decode y_M_made.2.1 29 = .ok (.ior, 1) := by decide +kernel
theorem d_M_made_30 : decode y_M_made.2.1 30 = .ok (.istore_n 1, 1) := by decide +kernel
theorem d_M_made_31 : decode y_M_made.2.1 31 = .ok (.iinc 2 1, 3) := by decide +kernel
theorem d_M_made_34 : decode y_M_made.2.1 34 = .ok (.goto (-30), 3) := by decide +kernel
theorem d_M_made_37 : decode y_M_made.2.1 37 = .ok (.iload_n 1, 1) := by decide +kernel
theorem d_M_made_38 : decode y_M_made.2.1 38 = .ok (.ireturn, 1) := by decide +kernel
theorem d_M_wideOut_0 : decode y_M_wideOut.2.1 0 = .ok (.aload_n 0, 1) := by decide +kernel
theorem d_M_wideOut_1 : decode y_M_wideOut.2.1 1 = .ok (.getfield 26, 3) := by decide +kernel
theorem d_M_wideOut_4 : decode y_M_wideOut.2.1 4 = .ok (.iload_n 1, 1) := by decide +kernel
theorem d_M_wideOut_5 : decode y_M_wideOut.2.1 5 = .ok (.iaload, 1) := by decide +kernel
theorem d_M_wideOut_6 : decode y_M_wideOut.2.1 6 = .ok (.istore_n 3, 1) := by decide +kernel
theorem d_M_wideOut_7 : decode y_M_wideOut.2.1 7 = .ok (.iconst 0, 1) := by decide +kernel
theorem d_M_wideOut_8 : decode y_M_wideOut.2.1 8 = .ok (.istore 4, 2) := by decide +kernel
theorem d_M_wideOut_10 : decode y_M_wideOut.2.1 10 = .ok (.iload 4, 2) := by decide +kernel
theorem d_M_wideOut_12 : decode y_M_wideOut.2.1 12 = .ok (.aload_n 0, 1) := by decide +kernel
theorem d_M_wideOut_13 : decode y_M_wideOut.2.1 13 = .ok (.getfield 269, 3) := by decide +kernel
theorem d_M_wideOut_16 : decode y_M_wideOut.2.1 16 = .ok (.if_icmp .ge 44, 3) := by decide +kernel
theorem d_M_wideOut_19 : decode y_M_wideOut.2.1 19 = .ok (.iload_n 3, 1) := by decide +kernel
theorem d_M_wideOut_20 : decode y_M_wideOut.2.1 20 = .ok (.iload_n 2, 1) := by decide +kernel
theorem d_M_wideOut_21 : decode y_M_wideOut.2.1 21 = .ok (.iload 4, 2) := by decide +kernel
theorem d_M_wideOut_23 : decode y_M_wideOut.2.1 23 = .ok (.ishr, 1) := by decide +kernel
theorem d_M_wideOut_24 : decode y_M_wideOut.2.1 24 = .ok (.iconst 1, 1) := by decide +kernel
theorem d_M_wideOut_25 : decode y_M_wideOut.2.1 25 = .ok (.iand, 1) := by decide +kernel
theorem d_M_wideOut_26 : decode y_M_wideOut.2.1 26 = .ok (.iconst 1, 1) := by decide +kernel
theorem d_M_wideOut_27 : decode y_M_wideOut.2.1 27 = .ok (.if_icmp .ne 24, 3) := by decide +kernel
theorem d_M_wideOut_30 : decode y_M_wideOut.2.1 30 = .ok (.aload_n 0, 1) := by decide +kernel
theorem d_M_wideOut_31 : decode y_M_wideOut.2.1 31 = .ok (.getfield 98, 3) := by decide +kernel
theorem d_M_wideOut_34 : decode y_M_wideOut.2.1 34 = .ok (.iload 4, 2) := by decide +kernel
theorem d_M_wideOut_36 : decode y_M_wideOut.2.1 36 = .ok (.iaload, 1) := by decide +kernel
theorem d_M_wideOut_37 : decode y_M_wideOut.2.1 37 = .ok (.iload_n 1, 1) := by decide +kernel
theorem d_M_wideOut_38 : decode y_M_wideOut.2.1 38 = .ok (.if_icmp .ne 13, 3) := by decide +kernel
theorem d_M_wideOut_41 : decode y_M_wideOut.2.1 41 = .ok (.aload_n 0, 1) := by decide +kernel
theorem d_M_wideOut_42 : decode y_M_wideOut.2.1 42 = .ok (.getfield 101, 3) := by decide +kernel
theorem d_M_wideOut_45 : decode y_M_wideOut.2.1 45 = .ok (.iload 4, 2) := by decide +kernel
theorem d_M_wideOut_47 : decode y_M_wideOut.2.1 47 = .ok (.iaload, 1) := by decide +kernel
theorem d_M_wideOut_48 : decode y_M_wideOut.2.1 48 = .ok (.goto 4, 3) := by decide +kernel
theorem d_M_wideOut_51 : decode y_M_wideOut.2.1 51 = .ok (.iconst 0, 1) := by decide +kernel
theorem d_M_wideOut_52 : decode y_M_wideOut.2.1 52 = .ok (.iadd, 1) := by decide +kernel
theorem d_M_wideOut_53 : decode y_M_wideOut.2.1 53 = .ok (.istore_n 3, 1) := by decide +kernel
theorem d_M_wideOut_54 : decode y_M_wideOut.2.1 54 = .ok (.iinc 4 1, 3) := by decide +kernel
theorem d_M_wideOut_57 : decode y_M_wideOut.2.1 57 = .ok (.goto (-47), 3) := by decide +kernel
theorem d_M_wideOut_60 : decode y_M_wideOut.2.1 60 = .ok (.iload_n 3, 1) := by decide +kernel
theorem d_M_wideOut_61 : decode y_M_wideOut.2.1 61 = .ok (.ireturn, 1) := by decide +kernel
theorem d_M_lays_0 : decode y_M_lays.2.1 0 = .ok (.iconst 0, 1) := by decide +kernel
theorem d_M_lays_1 : decode y_M_lays.2.1 1 = .ok (.istore 4, 2) := by decide +kernel
theorem d_M_lays_3 : decode y_M_lays.2.1 3 = .ok (.iload 4, 2) := by decide +kernel
theorem d_M_lays_5 : decode y_M_lays.2.1 5 = .ok (.sipush 338, 3) := by decide +kernel
theorem d_M_lays_8 : decode y_M_lays.2.1 8 = .ok (.if_icmp .ge 17, 3) := by decide +kernel
theorem d_M_lays_11 : decode y_M_lays.2.1 11 = .ok (.aload_n 0, 1) := by decide +kernel
theorem d_M_lays_12 : decode y_M_lays.2.1 12 = .ok (.getfield 150, 3) := by decide +kernel
theorem d_M_lays_15 : decode y_M_lays.2.1 15 = .ok (.iload 4, 2) := by decide +kernel
theorem d_M_lays_17 : decode y_M_lays.2.1 17 = .ok (.iconst (-1), 1) := by decide +kernel
theorem d_M_lays_18 : decode y_M_lays.2.1 18 = .ok (.iastore, 1) := by decide +kernel
theorem d_M_lays_19 : decode y_M_lays.2.1 19 = .ok (.iinc 4 1, 3) := by decide +kernel
theorem d_M_lays_22 : decode y_M_lays.2.1 22 = .ok (.goto (-19), 3) := by decide +kernel
theorem d_M_lays_25 : decode y_M_lays.2.1 25 = .ok (.aload_n 0, 1) := by decide +kernel
theorem d_M_lays_26 : decode y_M_lays.2.1 26 = .ok (.iconst 0, 1) := by decide +kernel
theorem d_M_lays_27 : decode y_M_lays.2.1 27 = .ok (.putfield 375, 3) := by decide +kernel
theorem d_M_lays_30 : decode y_M_lays.2.1 30 = .ok (.iconst 0, 1) := by decide +kernel
theorem d_M_lays_31 : decode y_M_lays.2.1 31 = .ok (.istore 4, 2) := by decide +kernel
theorem d_M_lays_33 : decode y_M_lays.2.1 33 = .ok (.iload 4, 2) := by decide +kernel
theorem d_M_lays_35 : decode y_M_lays.2.1 35 = .ok (.aload_n 0, 1) := by decide +kernel
theorem d_M_lays_36 : decode y_M_lays.2.1 36 = .ok (.getfield 262, 3) := by decide +kernel
theorem d_M_lays_39 : decode y_M_lays.2.1 39 = .ok (.if_icmp .ge 51, 3) := by decide +kernel
theorem d_M_lays_42 : decode y_M_lays.2.1 42 = .ok (.aload_n 0, 1) := by decide +kernel
theorem d_M_lays_43 : decode y_M_lays.2.1 43 = .ok (.getfield 95, 3) := by decide +kernel
theorem d_M_lays_46 : decode y_M_lays.2.1 46 = .ok (.iload 4, 2) := by decide +kernel
theorem d_M_lays_48 : decode y_M_lays.2.1 48 = .ok (.iaload, 1) := by decide +kernel
theorem d_M_lays_49 : decode y_M_lays.2.1 49 = .ok (.iload_n 1, 1) := by decide +kernel
theorem d_M_lays_50 : decode y_M_lays.2.1 50 = .ok (.if_icmp .gt 34, 3) := by decide +kernel
theorem d_M_lays_53 : decode y_M_lays.2.1 53 = .ok (.aload_n 0, 1) := by decide +kernel
theorem d_M_lays_54 : decode y_M_lays.2.1 54 = .ok (.sipush 336, 3) := by decide +kernel
theorem d_M_lays_57 : decode y_M_lays.2.1 57 = .ok (.aload_n 0, 1) := by decide +kernel
theorem d_M_lays_58 : decode y_M_lays.2.1 58 = .ok (.getfield 89, 3) := by decide +kernel
theorem d_M_lays_61 : decode y_M_lays.2.1 61 = .ok (.iload 4, 2) := by decide +kernel
theorem d_M_lays_63 : decode y_M_lays.2.1 63 = .ok (.iaload, 1) := by decide +kernel
theorem d_M_lays_64 : decode y_M_lays.2.1 64 = .ok (.aload_n 0, 1) := by decide +kernel
theorem d_M_lays_65 : decode y_M_lays.2.1 65 = .ok (.getfield 95, 3) := by decide +kernel
theorem d_M_lays_68 : decode y_M_lays.2.1 68 = .ok (.iload 4, 2) := by decide +kernel
theorem d_M_lays_70 : decode y_M_lays.2.1 70 = .ok (.iaload, 1) := by decide +kernel
theorem d_M_lays_71 : decode y_M_lays.2.1 71 = .ok (.invokestatic 378, 3) := by decide +kernel
theorem d_M_lays_74 : decode y_M_lays.2.1 74 = .ok (.aload_n 0, 1) := by decide +kernel
theorem d_M_lays_75 : decode y_M_lays.2.1 75 = .ok (.getfield 92, 3) := by decide +kernel
theorem d_M_lays_78 : decode y_M_lays.2.1 78 = .ok (.iload 4, 2) := by decide +kernel
theorem d_M_lays_80 : decode y_M_lays.2.1 80 = .ok (.iaload, 1) := by decide +kernel
theorem d_M_lays_81 : decode y_M_lays.2.1 81 = .ok (.invokevirtual 381, 3) := by decide +kernel
theorem d_M_lays_84 : decode y_M_lays.2.1 84 = .ok (.iinc 4 1, 3) := by decide +kernel
theorem d_M_lays_87 : decode y_M_lays.2.1 87 = .ok (.goto (-54), 3) := by decide +kernel
theorem d_M_lays_90 : decode y_M_lays.2.1 90 = .ok (.iconst 0, 1) := by decide +kernel
theorem d_M_lays_91 : decode y_M_lays.2.1 91 = .ok (.istore 4, 2) := by decide +kernel
theorem d_M_lays_93 : decode y_M_lays.2.1 93 = .ok (.iload 4, 2) := by decide +kernel
theorem d_M_lays_95 : decode y_M_lays.2.1 95 = .ok (.iload_n 1, 1) := by decide +kernel
theorem d_M_lays_96 : decode y_M_lays.2.1 96 = .ok (.if_icmp .gt 236, 3) := by decide +kernel
theorem d_M_lays_99 : decode y_M_lays.2.1 99 = .ok (.iconst 0, 1) := by decide +kernel
theorem d_M_lays_100 : decode y_M_lays.2.1 100 = .ok (.istore 5, 2) := by decide +kernel
theorem d_M_lays_102 : decode y_M_lays.2.1 102 = .ok (.iload 5, 2) := by decide +kernel
theorem d_M_lays_104 : decode y_M_lays.2.1 104 = .ok (.aload_n 0, 1) := by decide +kernel
theorem d_M_lays_105 : decode y_M_lays.2.1 105 = .ok (.getfield 228, 3) := by decide +kernel
theorem d_M_lays_108 : decode y_M_lays.2.1 108 = .ok (.if_icmp .ge 107, 3) := by decide +kernel
theorem d_M_lays_111 : decode y_M_lays.2.1 111 = .ok (.aload_n 0, 1) := by decide +kernel
theorem d_M_lays_112 : decode y_M_lays.2.1 112 = .ok (.iload 5, 2) := by decide +kernel
theorem d_M_lays_114 : decode y_M_lays.2.1 114 = .ok (.iload 4, 2) := by decide +kernel
theorem d_M_lays_116 : decode y_M_lays.2.1 116 = .ok (.invokevirtual 372, 3) := by decide +kernel
theorem d_M_lays_119 : decode y_M_lays.2.1 119 = .ok (.ifCond .ne 28, 3) := by decide +kernel
theorem d_M_lays_122 : decode y_M_lays.2.1 122 = .ok (.aload_n 0, 1) := by decide +kernel
theorem d_M_lays_123 : decode y_M_lays.2.1 123 = .ok (.iload 5, 2) := by decide +kernel
theorem d_M_lays_125 : decode y_M_lays.2.1 125 = .ok (.iload 4, 2) := by decide +kernel
theorem d_M_lays_127 : decode y_M_lays.2.1 127 = .ok (.invokestatic 378, 3) := by decide +kernel
theorem d_M_lays_130 : decode y_M_lays.2.1 130 = .ok (.iload 5, 2) := by decide +kernel
theorem d_M_lays_132 : decode y_M_lays.2.1 132 = .ok (.iload 4, 2) := by decide +kernel
theorem d_M_lays_134 : decode y_M_lays.2.1 134 = .ok (.invokestatic 384, 3) := by decide +kernel
theorem d_M_lays_137 : decode y_M_lays.2.1 137 = .ok (.aload_n 0, 1) := by decide +kernel
theorem d_M_lays_138 : decode y_M_lays.2.1 138 = .ok (.getfield 22, 3) := by decide +kernel
theorem d_M_lays_141 : decode y_M_lays.2.1 141 = .ok (.iload 5, 2) := by decide +kernel
theorem d_M_lays_143 : decode y_M_lays.2.1 143 = .ok (.iaload, 1) := by decide +kernel
theorem d_M_lays_144 : decode y_M_lays.2.1 144 = .ok (.invokevirtual 381, 3) := by decide +kernel
theorem d_M_lays_147 : decode y_M_lays.2.1 147 = .ok (.iload 4, 2) := by decide +kernel
theorem d_M_lays_149 : decode y_M_lays.2.1 149 = .ok (.iload_n 1, 1) := by decide +kernel
theorem d_M_lays_150 : decode y_M_lays.2.1 150 = .ok (.if_icmp .ne 6, 3) := by decide +kernel
theorem d_M_lays_153 : decode y_M_lays.2.1 153 = .ok (.goto 56, 3) := by decide +kernel
theorem d_M_lays_156 : decode y_M_lays.2.1 156 = .ok (.aload_n 0, 1) := by decide +kernel
theorem d_M_lays_157 : decode y_M_lays.2.1 157 = .ok (.iload 5, 2) := by decide +kernel
theorem d_M_lays_159 : decode y_M_lays.2.1 159 = .ok (.iload 4, 2) := by decide +kernel
theorem d_M_lays_161 : decode y_M_lays.2.1 161 = .ok (.invokestatic 384, 3) := by decide +kernel
theorem d_M_lays_164 : decode y_M_lays.2.1 164 = .ok (.iload 5, 2) := by decide +kernel
theorem d_M_lays_166 : decode y_M_lays.2.1 166 = .ok (.iload 4, 2) := by decide +kernel
theorem d_M_lays_168 : decode y_M_lays.2.1 168 = .ok (.iconst 1, 1) := by decide +kernel
theorem d_M_lays_169 : decode y_M_lays.2.1 169 = .ok (.iadd, 1) := by decide +kernel
theorem d_M_lays_170 : decode y_M_lays.2.1 170 = .ok (.invokestatic 378, 3) := by decide +kernel
theorem d_M_lays_173 : decode y_M_lays.2.1 173 = .ok (.ldc_w 387, 3) := by decide +kernel
theorem d_M_lays_176 : decode y_M_lays.2.1 176 = .ok (.invokevirtual 381, 3) := by decide +kernel
theorem d_M_lays_179 : decode y_M_lays.2.1 179 = .ok (.aload_n 0, 1) := by decide +kernel
theorem d_M_lays_180 : decode y_M_lays.2.1 180 = .ok (.iload 5, 2) := by decide +kernel
theorem d_M_lays_182 : decode y_M_lays.2.1 182 = .ok (.iload_n 3, 1) := by decide +kernel
theorem d_M_lays_183 : decode y_M_lays.2.1 183 = .ok (.invokevirtual 388, 3) := by decide +kernel
theorem d_M_lays_186 : decode y_M_lays.2.1 186 = .ok (.istore 6, 2) := by decide +kernel
theorem d_M_lays_188 : decode y_M_lays.2.1 188 = .ok (.iload 6, 2) := by decide +kernel
theorem d_M_lays_190 : decode y_M_lays.2.1 190 = .ok (.ifCond .le 19, 3) := by decide +kernel
theorem d_M_lays_193 : decode y_M_lays.2.1 193 = .ok (.aload_n 0, 1) := by decide +kernel
theorem d_M_lays_194 : decode y_M_lays.2.1 194 = .ok (.iload 5, 2) := by decide +kernel
theorem d_M_lays_196 : decode y_M_lays.2.1 196 = .ok (.iload 4, 2) := by decide +kernel
theorem d_M_lays_198 : decode y_M_lays.2.1 198 = .ok (.invokestatic 384, 3) := by decide +kernel
theorem d_M_lays_201 : decode y_M_lays.2.1 201 = .ok (.sipush 337, 3) := by decide +kernel
theorem d_M_lays_204 : decode y_M_lays.2.1 204 = .ok (.iload 6, 2) := by decide +kernel
theorem d_M_lays_206 : decode y_M_lays.2.1 206 = .ok (.invokevirtual 381, 3) := by decide +kernel
theorem d_M_lays_209 : decode y_M_lays.2.1 209 = .ok (.iinc 5 1, 3) := by decide +kernel
theorem d_M_lays_212 : decode y_M_lays.2.1 212 = .ok (.goto (-110), 3) := by decide +kernel
theorem d_M_lays_215 : decode y_M_lays.2.1 215 = .ok (.iconst 0, 1) := by decide +kernel
theorem d_M_lays_216 : decode y_M_lays.2.1 216 = .ok (.istore 5, 2) := by decide +kernel
theorem d_M_lays_218 : decode y_M_lays.2.1 218 = .ok (.iload 5, 2) := by decide +kernel
theorem d_M_lays_220 : decode y_M_lays.2.1 220 = .ok (.aload_n 0, 1) := by decide +kernel
theorem d_M_lays_221 : decode y_M_lays.2.1 221 = .ok (.getfield 250, 3) := by decide +kernel
theorem d_M_lays_224 : decode y_M_lays.2.1 224 = .ok (.if_icmp .ge 102, 3) := by decide +kernel
theorem d_M_lays_227 : decode y_M_lays.2.1 227 = .ok (.iload 4, 2) := by decide +kernel
theorem d_M_lays_229 : decode y_M_lays.2.1 229 = .ok (.aload_n 0, 1) := by decide +kernel
theorem d_M_lays_230 : decode y_M_lays.2.1 230 = .ok (.getfield 38, 3) := by decide +kernel
theorem d_M_lays_233 : decode y_M_lays.2.1 233 = .ok (.iload 5, 2) := by decide +kernel
theorem d_M_lays_235 : decode y_M_lays.2.1 235 = .ok (.iaload, 1) := by decide +kernel
theorem d_M_lays_236 : decode y_M_lays.2.1 236 = .ok (.iload_n 2, 1) := by decide +kernel
theorem d_M_lays_237 : decode y_M_lays.2.1 237 = .ok (.imul, 1) := by decide +kernel
theorem d_M_lays_238 : decode y_M_lays.2.1 238 = .ok (.iadd, 1) := by decide +kernel
theorem d_M_lays_239 : decode y_M_lays.2.1 239 = .ok (.istore 6, 2) := by decide +kernel
theorem d_M_lays_241 : decode y_M_lays.2.1 241 = .ok (.iload 6, 2) := by decide +kernel
theorem d_M_lays_243 : decode y_M_lays.2.1 243 = .ok (.iload_n 1, 1) := by decide +kernel
theorem d_M_lays_244 : decode y_M_lays.2.1 244 = .ok (.if_icmp .le 6, 3) := by decide +kernel
theorem d_M_lays_247 : decode y_M_lays.2.1 247 = .ok (.goto 73, 3) := by decide +kernel
theorem d_M_lays_250 : decode y_M_lays.2.1 250 = .ok (.aload_n 0, 1) := by decide +kernel
theorem d_M_lays_251 : decode y_M_lays.2.1 251 = .ok (.aload_n 0, 1) := by decide +kernel
theorem d_M_lays_252 : decode y_M_lays.2.1 252 = .ok (.getfield 32, 3) := by decide +kernel
theorem d_M_lays_255 : decode y_M_lays.2.1 255 = .ok (.iload 5, 2) := by decide +kernel
theorem d_M_lays_257 : decode y_M_lays.2.1 257 = .ok (.iaload, 1) := by decide +kernel
theorem d_M_lays_258 : decode y_M_lays.2.1 258 = .ok (.iload 4, 2) := by decide +kernel
theorem d_M_lays_260 : decode y_M_lays.2.1 260 = .ok (.invokestatic 384, 3) := by decide +kernel
theorem d_M_lays_263 : decode y_M_lays.2.1 263 = .ok (.aload_n 0, 1) := by decide +kernel
theorem d_M_lays_264 : decode y_M_lays.2.1 264 = .ok (.getfield 35, 3) := by decide +kernel
theorem d_M_lays_267 : decode y_M_lays.2.1 267 = .ok (.iload 5, 2) := by decide +kernel
theorem d_M_lays_269 : decode y_M_lays.2.1 269 = .ok (.iaload, 1) := by decide +kernel
theorem d_M_lays_270 : decode y_M_lays.2.1 270 = .ok (.iload 6, 2) := by decide +kernel
theorem d_M_lays_272 : decode y_M_lays.2.1 272 = .ok (.invokestatic 378, 3) := by decide +kernel
theorem d_M_lays_275 : decode y_M_lays.2.1 275 = .ok (.aload_n 0, 1) := by decide +kernel
theorem d_M_lays_276 : decode y_M_lays.2.1 276 = .ok (.getfield 41, 3) := by decide +kernel
theorem d_M_lays_279 : decode y_M_lays.2.1 279 = .ok (.iload 5, 2) := by decide +kernel
theorem d_M_lays_281 : decode y_M_lays.2.1 281 = .ok (.iaload, 1) := by decide +kernel
theorem d_M_lays_282 : decode y_M_lays.2.1 282 = .ok (.invokevirtual 381, 3) := by decide +kernel
theorem d_M_lays_285 : decode y_M_lays.2.1 285 = .ok (.aload_n 0, 1) := by decide +kernel
theorem d_M_lays_286 : decode y_M_lays.2.1 286 = .ok (.aload_n 0, 1) := by decide +kernel
theorem d_M_lays_287 : decode y_M_lays.2.1 287 = .ok (.getfield 35, 3) := by decide +kernel
theorem d_M_lays_290 : decode y_M_lays.2.1 290 = .ok (.iload 5, 2) := by decide +kernel
theorem d_M_lays_292 : decode y_M_lays.2.1 292 = .ok (.iaload, 1) := by decide +kernel
theorem d_M_lays_293 : decode y_M_lays.2.1 293 = .ok (.iload 4, 2) := by decide +kernel
theorem d_M_lays_295 : decode y_M_lays.2.1 295 = .ok (.invokestatic 384, 3) := by decide +kernel
theorem d_M_lays_298 : decode y_M_lays.2.1 298 = .ok (.aload_n 0, 1) := by decide +kernel
theorem d_M_lays_299 : decode y_M_lays.2.1 299 = .ok (.getfield 32, 3) := by decide +kernel
theorem d_M_lays_302 : decode y_M_lays.2.1 302 = .ok (.iload 5, 2) := by decide +kernel
theorem d_M_lays_304 : decode y_M_lays.2.1 304 = .ok (.iaload, 1) := by decide +kernel
theorem d_M_lays_305 : decode y_M_lays.2.1 305 = .ok (.iload 6, 2) := by decide +kernel
theorem d_M_lays_307 : decode y_M_lays.2.1 307 = .ok (.invokestatic 378, 3) := by decide +kernel
theorem d_M_lays_310 : decode y_M_lays.2.1 310 = .ok (.aload_n 0, 1) := by decide +kernel
theorem d_M_lays_311 : decode y_M_lays.2.1 311 = .ok (.getfield 41, 3) := by decide +kernel
theorem d_M_lays_314 : decode y_M_lays.2.1 314 = .ok (.iload 5, 2) := by decide +kernel
theorem d_M_lays_316 : decode y_M_lays.2.1 316 = .ok (.iaload, 1) := by decide +kernel
theorem d_M_lays_317 : decode y_M_lays.2.1 317 = .ok (.invokevirtual 381, 3) := by decide +kernel
theorem d_M_lays_320 : decode y_M_lays.2.1 320 = .ok (.iinc 5 1, 3) := by decide +kernel
theorem d_M_lays_323 : decode y_M_lays.2.1 323 = .ok (.goto (-105), 3) := by decide +kernel
theorem d_M_lays_326 : decode y_M_lays.2.1 326 = .ok (.iinc 4 1, 3) := by decide +kernel
theorem d_M_lays_329 : decode y_M_lays.2.1 329 = .ok (.goto (-236), 3) := by decide +kernel
theorem d_M_lays_332 : decode y_M_lays.2.1 332 = .ok (.return_, 1) := by decide +kernel
theorem d_M_layers_0 : decode y_M_layers.2.1 0 = .ok (.iconst 0, 1) := by decide +kernel
theorem d_M_layers_1 : decode y_M_layers.2.1 1 = .ok (.istore_n 1, 1) := by decide +kernel
theorem d_M_layers_2 : decode y_M_layers.2.1 2 = .ok (.iload_n 1, 1) := by decide +kernel
theorem d_M_layers_3 : decode y_M_layers.2.1 3 = .ok (.sipush 338, 3) := by decide +kernel
theorem d_M_layers_6 : decode y_M_layers.2.1 6 = .ok (.if_icmp .ge 16, 3) := by decide +kernel
theorem d_M_layers_9 : decode y_M_layers.2.1 9 = .ok (.aload_n 0, 1) := by decide +kernel
theorem d_M_layers_10 : decode y_M_layers.2.1 10 = .ok (.getfield 156, 3) := by decide +kernel
theorem d_M_layers_13 : decode y_M_layers.2.1 13 = .ok (.iload_n 1, 1) := by decide +kernel
theorem d_M_layers_14 : decode y_M_layers.2.1 14 = .ok (.iconst (-1), 1) := by decide +kernel
theorem d_M_layers_15 : decode y_M_layers.2.1 15 = .ok (.iastore, 1) := by decide +kernel
theorem d_M_layers_16 : decode y_M_layers.2.1 16 = .ok (.iinc 1 1, 3) := by decide +kernel
theorem d_M_layers_19 : decode y_M_layers.2.1 19 = .ok (.goto (-17), 3) := by decide +kernel
theorem d_M_layers_22 : decode y_M_layers.2.1 22 = .ok (.aload_n 0, 1) := by decide +kernel
theorem d_M_layers_23 : decode y_M_layers.2.1 23 = .ok (.getfield 156, 3) := by decide +kernel
theorem d_M_layers_26 : decode y_M_layers.2.1 26 = .ok (.sipush 337, 3) := by decide +kernel
theorem d_M_layers_29 : decode y_M_layers.2.1 29 = .ok (.iconst 0, 1) := by decide +kernel
theorem d_M_layers_30 : decode y_M_layers.2.1 30 = .ok (.iastore, 1) := by decide +kernel
theorem d_M_layers_31 : decode y_M_layers.2.1 31 = .ok (.aload_n 0, 1) := by decide +kernel
theorem d_M_layers_32 : decode y_M_layers.2.1 32 = .ok (.getfield 159, 3) := by decide +kernel
theorem d_M_layers_35 : decode y_M_layers.2.1 35 = .ok (.iconst 0, 1) := by decide +kernel
theorem d_M_layers_36 : decode y_M_layers.2.1 36 = .ok (.sipush 337, 3) := by decide +kernel
theorem d_M_layers_39 : decode y_M_layers.2.1 39 = .ok (.iastore, 1) := by decide +kernel
theorem d_M_layers_40 : decode y_M_layers.2.1 40 = .ok (.iconst 1, 1) := by decide +kernel
theorem d_M_layers_41 : decode y_M_layers.2.1 41 = .ok (.istore_n 1, 1) := by decide +kernel
theorem d_M_layers_42 : decode y_M_layers.2.1 42 = .ok (.iconst 0, 1) := by decide +kernel
theorem d_M_layers_43 : decode y_M_layers.2.1 43 = .ok (.istore_n 2, 1) := by decide +kernel
theorem d_M_layers_44 : decode y_M_layers.2.1 44 = .ok (.iload_n 2, 1) := by decide +kernel
theorem d_M_layers_45 : decode y_M_layers.2.1 45 = .ok (.iload_n 1, 1) := by decide +kernel
theorem d_M_layers_46 : decode y_M_layers.2.1 46 = .ok (.if_icmp .ge 109, 3) := by decide +kernel
theorem d_M_layers_49 : decode y_M_layers.2.1 49 = .ok (.aload_n 0, 1) := by decide +kernel
theorem d_M_layers_50 : decode y_M_layers.2.1 50 = .ok (.getfield 159, 3) := by decide +kernel
theorem d_M_layers_53 : decode y_M_layers.2.1 53 = .ok (.iload_n 2, 1) := by decide +kernel
theorem d_M_layers_54 : decode y_M_layers.2.1 54 = .ok (.iaload, 1) := by decide +kernel
theorem d_M_layers_55 : decode y_M_layers.2.1 55 = .ok (.istore_n 3, 1) := by decide +kernel
theorem d_M_layers_56 : decode y_M_layers.2.1 56 = .ok (.aload_n 0, 1) := by decide +kernel
theorem d_M_layers_57 : decode y_M_layers.2.1 57 = .ok (.getfield 150, 3) := by decide +kernel
theorem d_M_layers_60 : decode y_M_layers.2.1 60 = .ok (.iload_n 3, 1) := by decide +kernel
theorem d_M_layers_61 : decode y_M_layers.2.1 61 = .ok (.iaload, 1) := by decide +kernel
theorem d_M_layers_62 : decode y_M_layers.2.1 62 = .ok (.istore 4, 2) := by decide +kernel
theorem d_M_layers_64 : decode y_M_layers.2.1 64 = .ok (.iload 4, 2) := by decide +kernel
theorem d_M_layers_66 : decode y_M_layers.2.1 66 = .ok (.iconst (-1), 1) := by decide +kernel
theorem d_M_layers_67 : decode y_M_layers.2.1 67 = .ok (.if_icmp .eq 82, 3) := by decide +kernel
theorem d_M_layers_70 : decode y_M_layers.2.1 70 = .ok (.aload_n 0, 1) := by decide +kernel
theorem d_M_layers_71 : decode y_M_layers.2.1 71 = .ok (.getfield 171, 3) := by decide +kernel
theorem d_M_layers_74 : decode y_M_layers.2.1 74 = .ok (.iload 4, 2) := by decide +kernel
theorem d_M_layers_76 : decode y_M_layers.2.1 76 = .ok (.iconst 1, 1) := by decide +kernel
theorem d_M_layers_77 : decode y_M_layers.2.1 77 = .ok (.ixor, 1) := by decide +kernel
theorem d_M_layers_78 : decode y_M_layers.2.1 78 = .ok (.iaload, 1) := by decide +kernel
theorem d_M_layers_79 : decode y_M_layers.2.1 79 = .ok (.ifCond .eq 58, 3) := by decide +kernel
theorem d_M_layers_82 : decode y_M_layers.2.1 82 = .ok (.aload_n 0, 1) := by decide +kernel
theorem d_M_layers_83 : decode y_M_layers.2.1 83 = .ok (.getfield 156, 3) := by decide +kernel
theorem d_M_layers_86 : decode y_M_layers.2.1 86 = .ok (.aload_n 0, 1) := by decide +kernel
theorem d_M_layers_87 : decode y_M_layers.2.1 87 = .ok (.getfield 168, 3) := by decide +kernel
theorem d_M_layers_90 : decode y_M_layers.2.1 90 = .ok (.iload 4, 2) := by decide +kernel
theorem d_M_layers_92 : decode y_M_layers.2.1 92 = .ok (.iaload, 1) := by decide +kernel
theorem d_M_layers_93 : decode y_M_layers.2.1 93 = .ok (.iaload, 1) := by decide +kernel
theorem d_M_layers_94 : decode y_M_layers.2.1 94 = .ok (.iconst (-1), 1) := by decide +kernel
theorem d_M_layers_95 : decode y_M_layers.2.1 95 = .ok (.if_icmp .eq 6, 3) := by decide +kernel
theorem d_M_layers_98 : decode y_M_layers.2.1 98 = .ok (.goto 39, 3) := by decide +kernel
theorem d_M_layers_101 : decode y_M_layers.2.1 101 = .ok (.aload_n 0, 1) := by decide +kernel
theorem d_M_layers_102 : decode y_M_layers.2.1 102 = .ok (.getfield 156, 3) := by decide +kernel
theorem d_M_layers_105 : decode y_M_layers.2.1 105 = .ok (.aload_n 0, 1) := by decide +kernel
theorem d_M_layers_106 : decode y_M_layers.2.1 106 = .ok (.getfield 168, 3) := by decide +kernel
theorem d_M_layers_109 : decode y_M_layers.2.1 109 = .ok (.iload 4, 2) := by decide +kernel
theorem d_M_layers_111 : decode y_M_layers.2.1 111 = .ok (.iaload, 1) := by decide +kernel
theorem d_M_layers_112 : decode y_M_layers.2.1 112 = .ok (.aload_n 0, 1) := by decide +kernel
theorem d_M_layers_113 : decode y_M_layers.2.1 113 = .ok (.getfield 156, 3) := by decide +kernel
theorem d_M_layers_116 : decode y_M_layers.2.1 116 = .ok (.iload_n 3, 1) := by decide +kernel
theorem d_M_layers_117 : decode y_M_layers.2.1 117 = .ok (.iaload, 1) := by decide +kernel
theorem d_M_layers_118 : decode y_M_layers.2.1 118 = .ok (.iconst 1, 1) := by decide +kernel
theorem d_M_layers_119 : decode y_M_layers.2.1 119 = .ok (.iadd, 1) := by decide +kernel
theorem d_M_layers_120 : decode y_M_layers.2.1 120 = .ok (.iastore, 1) := by decide +kernel
theorem d_M_layers_121 : decode y_M_layers.2.1 121 = .ok (.aload_n 0, 1) := by decide +kernel
theorem d_M_layers_122 : decode y_M_layers.2.1 122 = .ok (.getfield 159, 3) := by decide +kernel
theorem d_M_layers_125 : decode y_M_layers.2.1 125 = .ok (.iload_n 1, 1) := by decide +kernel
theorem d_M_layers_126 : decode y_M_layers.2.1 126 = .ok (.aload_n 0, 1) := by decide +kernel
theorem d_M_layers_127 : decode y_M_layers.2.1 127 = .ok (.getfield 168, 3) := by decide +kernel
theorem d_M_layers_130 : decode y_M_layers.2.1 130 = .ok (.iload 4, 2) := by decide +kernel
theorem d_M_layers_132 : decode y_M_layers.2.1 132 = .ok (.iaload, 1) := by decide +kernel
theorem d_M_layers_133 : decode y_M_layers.2.1 133 = .ok (.iastore, 1) := by decide +kernel
theorem d_M_layers_134 : decode y_M_layers.2.1 134 = .ok (.iinc 1 1, 3) := by decide +kernel
theorem d_M_layers_137 : decode y_M_layers.2.1 137 = .ok (.aload_n 0, 1) := by decide +kernel
theorem d_M_layers_138 : decode y_M_layers.2.1 138 = .ok (.getfield 165, 3) := by decide +kernel
theorem d_M_layers_141 : decode y_M_layers.2.1 141 = .ok (.iload 4, 2) := by decide +kernel
theorem d_M_layers_143 : decode y_M_layers.2.1 143 = .ok (.iaload, 1) := by decide +kernel
theorem d_M_layers_144 : decode y_M_layers.2.1 144 = .ok (.istore 4, 2) := by decide +kernel
theorem d_M_layers_146 : decode y_M_layers.2.1 146 = .ok (.goto (-82), 3) := by decide +kernel
theorem d_M_layers_149 : decode y_M_layers.2.1 149 = .ok (.iinc 2 1, 3) := by decide +kernel
theorem d_M_layers_152 : decode y_M_layers.2.1 152 = .ok (.goto (-108), 3) := by decide +kernel
theorem d_M_layers_155 : decode y_M_layers.2.1 155 = .ok (.aload_n 0, 1) := by decide +kernel
theorem d_M_layers_156 : decode y_M_layers.2.1 156 = .ok (.getfield 156, 3) := by decide +kernel
theorem d_M_layers_159 : decode y_M_layers.2.1 159 = .ok (.sipush 336, 3) := by decide +kernel
theorem d_M_layers_162 : decode y_M_layers.2.1 162 = .ok (.iaload, 1) := by decide +kernel
theorem d_M_layers_163 : decode y_M_layers.2.1 163 = .ok (.iconst (-1), 1) := by decide +kernel
theorem d_M_layers_164 : decode y_M_layers.2.1 164 = .ok (.if_icmp .eq 7, 3) := by decide +kernel
theorem d_M_layers_167 : decode y_M_layers.2.1 167 = .ok (.iconst 1, 1) := by decide +kernel
theorem d_M_layers_168 : decode y_M_layers.2.1 168 = .ok (.goto 4, 3) := by decide +kernel
theorem d_M_layers_171 : decode y_M_layers.2.1 171 = .ok (.iconst 0, 1) := by decide +kernel
theorem d_M_layers_172 : decode y_M_layers.2.1 172 = .ok (.ireturn, 1) := by decide +kernel
theorem d_M_passes_0 : decode y_M_passes.2.1 0 = .ok (.ldc_w 387, 3) := by decide +kernel
theorem d_M_passes_3 : decode y_M_passes.2.1 3 = .ok (.istore_n 2, 1) := by decide +kernel
theorem d_M_passes_4 : decode y_M_passes.2.1 4 = .ok (.iconst 0, 1) := by decide +kernel
theorem d_M_passes_5 : decode y_M_passes.2.1 5 = .ok (.istore_n 3, 1) := by decide +kernel
theorem d_M_passes_6 : decode y_M_passes.2.1 6 = .ok (.iload_n 3, 1) := by decide +kernel
theorem d_M_passes_7 : decode y_M_passes.2.1 7 = .ok (.iload_n 1, 1) := by decide +kernel
theorem d_M_passes_8 : decode y_M_passes.2.1 8 = .ok (.if_icmp .ge 25, 3) := by decide +kernel
theorem d_M_passes_11 : decode y_M_passes.2.1 11 = .ok (.iload_n 2, 1) := by decide +kernel
theorem d_M_passes_12 : decode y_M_passes.2.1 12 = .ok (.aload_n 0, 1) := by decide +kernel
theorem d_M_passes_13 : decode y_M_passes.2.1 13 = .ok (.getfield 171, 3) := by decide +kernel
theorem d_M_passes_16 : decode y_M_passes.2.1 16 = .ok (.aload_n 0, 1) := by decide +kernel
theorem d_M_passes_17 : decode y_M_passes.2.1 17 = .ok (.getfield 162, 3) := by decide +kernel
theorem d_M_passes_20 : decode y_M_passes.2.1 20 = .ok (.iload_n 3, 1) := by decide +kernel
theorem d_M_passes_21 : decode y_M_passes.2.1 21 = .ok (.iaload, 1) := by decide +kernel
theorem d_M_passes_22 : decode y_M_passes.2.1 22 = .ok (.iaload, 1) := by decide +kernel
theorem d_M_passes_23 : decode y_M_passes.2.1 23 = .ok (.invokestatic 325, 3) := by decide +kernel
theorem d_M_passes_26 : decode y_M_passes.2.1 26 = .ok (.istore_n 2, 1) := by decide +kernel
theorem d_M_passes_27 : decode y_M_passes.2.1 27 = .ok (.iinc 3 1, 3) := by decide +kernel
theorem d_M_passes_30 : decode y_M_passes.2.1 30 = .ok (.goto (-24), 3) := by decide +kernel
theorem d_M_passes_33 : decode y_M_passes.2.1 33 = .ok (.iconst 0, 1) := by decide +kernel
theorem d_M_passes_34 : decode y_M_passes.2.1 34 = .ok (.istore_n 3, 1) := by decide +kernel
theorem d_M_passes_35 : decode y_M_passes.2.1 35 = .ok (.iload_n 3, 1) := by decide +kernel
theorem d_M_passes_36 : decode y_M_passes.2.1 36 = .ok (.iload_n 1, 1) := by decide +kernel
theorem d_M_passes_37 : decode y_M_passes.2.1 37 = .ok (.if_icmp .ge 41, 3) := by decide +kernel
theorem d_M_passes_40 : decode y_M_passes.2.1 40 = .ok (.aload_n 0, 1) := by decide +kernel
theorem d_M_passes_41 : decode y_M_passes.2.1 41 = .ok (.getfield 171, 3) := by decide +kernel
theorem d_M_passes_44 : decode y_M_passes.2.1 44 = .ok (.aload_n 0, 1) := by decide +kernel
theorem d_M_passes_45 : decode y_M_passes.2.1 45 = .ok (.getfield 162, 3) := by decide +kernel
theorem d_M_passes_48 : decode y_M_passes.2.1 48 = .ok (.iload_n 3, 1) := by decide +kernel
theorem d_M_passes_49 : decode y_M_passes.2.1 49 = .ok (.iaload, 1) := by decide +kernel
theorem d_M_passes_50 : decode y_M_passes.2.1 50 = .ok (.dup2, 1) := by decide +kernel
theorem d_M_passes_51 : decode y_M_passes.2.1 51 = .ok (.iaload, 1) := by decide +kernel
theorem d_M_passes_52 : decode y_M_passes.2.1 52 = .ok (.iload_n 2, 1) := by decide +kernel
theorem d_M_passes_53 : decode y_M_passes.2.1 53 = .ok (.isub, 1) := by decide +kernel
theorem d_M_passes_54 : decode y_M_passes.2.1 54 = .ok (.iastore, 1) := by decide +kernel
theorem d_M_passes_55 : decode y_M_passes.2.1 55 = .ok (.aload_n 0, 1) := by decide +kernel
theorem d_M_passes_56 : decode y_M_passes.2.1 56 = .ok (.getfield 171, 3) := by decide +kernel
theorem d_M_passes_59 : decode y_M_passes.2.1 59 = .ok (.aload_n 0, 1) := by decide +kernel
theorem d_M_passes_60 : decode y_M_passes.2.1 60 = .ok (.getfield 162, 3) := by decide +kernel
theorem d_M_passes_63 : decode y_M_passes.2.1 63 = .ok (.iload_n 3, 1) := by decide +kernel
theorem d_M_passes_64 : decode y_M_passes.2.1 64 = .ok (.iaload, 1) := by decide +kernel
theorem d_M_passes_65 : decode y_M_passes.2.1 65 = .ok (.iconst 1, 1) := by decide +kernel
theorem d_M_passes_66 : decode y_M_passes.2.1 66 = .ok (.ixor, 1) := by decide +kernel
theorem d_M_passes_67 : decode y_M_passes.2.1 67 = .ok (.dup2, 1) := by decide +kernel
theorem d_M_passes_68 : decode y_M_passes.2.1 68 = .ok (.iaload, 1) := by decide +kernel
theorem d_M_passes_69 : decode y_M_passes.2.1 69 = .ok (.iload_n 2, 1) := by decide +kernel
theorem d_M_passes_70 : decode y_M_passes.2.1 70 = .ok (.iadd, 1) := by decide +kernel
theorem d_M_passes_71 : decode y_M_passes.2.1 71 = .ok (.iastore, 1) := by decide +kernel
theorem d_M_passes_72 : decode y_M_passes.2.1 72 = .ok (.iinc 3 1, 3) := by decide +kernel
theorem d_M_passes_75 : decode y_M_passes.2.1 75 = .ok (.goto (-40), 3) := by decide +kernel
theorem d_M_passes_78 : decode y_M_passes.2.1 78 = .ok (.iload_n 2, 1) := by decide +kernel
theorem d_M_passes_79 : decode y_M_passes.2.1 79 = .ok (.ireturn, 1) := by decide +kernel
theorem d_M_pushes_0 : decode y_M_pushes.2.1 0 = .ok (.iconst 0, 1) := by decide +kernel
theorem d_M_pushes_1 : decode y_M_pushes.2.1 1 = .ok (.istore_n 1, 1) := by decide +kernel
theorem d_M_pushes_2 : decode y_M_pushes.2.1 2 = .ok (.sipush 336, 3) := by decide +kernel
theorem d_M_pushes_5 : decode y_M_pushes.2.1 5 = .ok (.istore_n 2, 1) := by decide +kernel
theorem d_M_pushes_6 : decode y_M_pushes.2.1 6 = .ok (.iconst 0, 1) := by decide +kernel
theorem d_M_pushes_7 : decode y_M_pushes.2.1 7 = .ok (.istore_n 3, 1) := by decide +kernel
theorem d_M_pushes_8 : decode y_M_pushes.2.1 8 = .ok (.iconst 0, 1) := by decide +kernel
theorem d_M_pushes_9 : decode y_M_pushes.2.1 9 = .ok (.istore 4, 2) := by decide +kernel
theorem d_M_pushes_11 : decode y_M_pushes.2.1 11 = .ok (.iload 4, 2) := by decide +kernel
theorem d_M_pushes_13 : decode y_M_pushes.2.1 13 = .ok (.sipush 338, 3) := by decide +kernel
theorem d_M_pushes_16 : decode y_M_pushes.2.1 16 = .ok (.if_icmp .ge 23, 3) := by decide +kernel
theorem d_M_pushes_19 : decode y_M_pushes.2.1 19 = .ok (.aload_n 0, 1) := by decide +kernel
theorem d_M_pushes_20 : decode y_M_pushes.2.1 20 = .ok (.getfield 153, 3) := by decide +kernel
theorem d_M_pushes_23 : decode y_M_pushes.2.1 23 = .ok (.iload 4, 2) := by decide +kernel
theorem d_M_pushes_25 : decode y_M_pushes.2.1 25 = .ok (.aload_n 0, 1) := by decide +kernel
theorem d_M_pushes_26 : decode y_M_pushes.2.1 26 = .ok (.getfield 150, 3) := by decide +kernel
theorem d_M_pushes_29 : decode y_M_pushes.2.1 29 = .ok (.iload 4, 2) := by decide +kernel
theorem d_M_pushes_31 : decode y_M_pushes.2.1 31 = .ok (.iaload, 1) := by decide +kernel
theorem d_M_pushes_32 : decode y_M_pushes.2.1 32 = .ok (.iastore, 1) := by decide +kernel
theorem d_M_pushes_33 : decode y_M_pushes.2.1 33 = .ok (.iinc 4 1, 3) := by decide +kernel
theorem d_M_pushes_36 : decode y_M_pushes.2.1 36 = .ok (.goto (-25), 3) := by decide +kernel
theorem d_M_pushes_39 : decode y_M_pushes.2.1 39 = .ok (.iload_n 2, 1) := by decide +kernel
theorem d_M_pushes_40 : decode y_M_pushes.2.1 40 = .ok (.sipush 337, 3) := by decide +kernel
theorem d_M_pushes_43 : decode y_M_pushes.2.1 43 = .ok (.if_icmp .ne 17, 3) := by decide +kernel
theorem d_M_pushes_46 : decode y_M_pushes.2.1 46 = .ok (.iload_n 1, 1) := by decide +kernel
theorem d_M_pushes_47 : decode y_M_pushes.2.1 47 = .ok (.aload_n 0, 1) := by decide +kernel
theorem d_M_pushes_48 : decode y_M_pushes.2.1 48 = .ok (.iload_n 3, 1) := by decide +kernel
theorem d_M_pushes_49 : decode y_M_pushes.2.1 49 = .ok (.invokevirtual 391, 3) := by decide +kernel
theorem d_M_pushes_52 : decode y_M_pushes.2.1 52 = .ok (.iadd, 1) := by decide +kernel
theorem d_M_pushes_53 : decode y_M_pushes.2.1 53 = .ok (.istore_n 1, 1) := by decide +kernel
theorem d_M_pushes_54 : decode y_M_pushes.2.1 54 = .ok (.sipush 336, 3) := by decide +kernel
theorem d_M_pushes_57 : decode y_M_pushes.2.1 57 = .ok (.istore_n 2, 1) := by decide +kernel
theorem d_M_pushes_58 : decode y_M_pushes.2.1 58 = .ok (.iconst 0, 1) := by decide +kernel
theorem d_M_pushes_59 : decode y_M_pushes.2.1 59 = .ok (.istore_n 3, 1) := by decide +kernel
theorem d_M_pushes_60 : decode y_M_pushes.2.1 60 = .ok (.aload_n 0, 1) := by decide +kernel
theorem d_M_pushes_61 : decode y_M_pushes.2.1 61 = .ok (.getfield 153, 3) := by decide +kernel
theorem d_M_pushes_64 : decode y_M_pushes.2.1 64 = .ok (.iload_n 2, 1) := by decide +kernel
theorem d_M_pushes_65 : decode y_M_pushes.2.1 65 = .ok (.iaload, 1) := by decide +kernel
theorem d_M_pushes_66 : decode y_M_pushes.2.1 66 = .ok (.istore 4, 2) := by decide +kernel
theorem d_M_pushes_68 : decode y_M_pushes.2.1 68 = .ok (.iload 4, 2) := by decide +kernel
theorem d_M_pushes_70 : decode y_M_pushes.2.1 70 = .ok (.iconst (-1), 1) := by decide +kernel
theorem d_M_pushes_71 : decode y_M_pushes.2.1 71 = .ok (.if_icmp .eq 48, 3) := by decide +kernel
theorem d_M_pushes_74 : decode y_M_pushes.2.1 74 = .ok (.aload_n 0, 1) := by decide +kernel
theorem d_M_pushes_75 : decode y_M_pushes.2.1 75 = .ok (.getfield 171, 3) := by decide +kernel
theorem d_M_pushes_78 : decode y_M_pushes.2.1 78 = .ok (.iload 4, 2) := by decide +kernel
theorem d_M_pushes_80 : decode y_M_pushes.2.1 80 = .ok (.iaload, 1) := by decide +kernel
theorem d_M_pushes_81 : decode y_M_pushes.2.1 81 = .ok (.ifCond .eq 26, 3) := by decide +kernel
theorem d_M_pushes_84 : decode y_M_pushes.2.1 84 = .ok (.aload_n 0, 1) := by decide +kernel
theorem d_M_pushes_85 : decode y_M_pushes.2.1 85 = .ok (.getfield 156, 3) := by decide +kernel
theorem d_M_pushes_88 : decode y_M_pushes.2.1 88 = .ok (.aload_n 0, 1) := by decide +kernel
theorem d_M_pushes_89 : decode y_M_pushes.2.1 89 = .ok (.getfield 168, 3) := by decide +kernel
theorem d_M_pushes_92 : decode y_M_pushes.2.1 92 = .ok (.iload 4, 2) := by decide +kernel
theorem d_M_pushes_94 : decode y_M_pushes.2.1 94 = .ok (.iaload, 1) := by decide +kernel
theorem d_M_pushes_95 : decode y_M_pushes.2.1 95 = .ok (.iaload, 1) := by decide +kernel
theorem d_M_pushes_96 : decode y_M_pushes.2.1 96 = .ok (.aload_n 0, 1) := by decide +kernel
theorem d_M_pushes_97 : decode y_M_pushes.2.1 97 = .ok (.getfield 156, 3) := by decide +kernel
theorem d_M_pushes_100 : decode y_M_pushes.2.1 100 = .ok (.iload_n 2, 1) := by decide +kernel
theorem d_M_pushes_101 : decode y_M_pushes.2.1 101 = .ok (.iaload, 1) := by decide +kernel
theorem d_M_pushes_102 : decode y_M_pushes.2.1 102 = .ok (.iconst 1, 1) := by decide +kernel
theorem d_M_pushes_103 : decode y_M_pushes.2.1 103 = .ok (.isub, 1) := by decide +kernel
theorem d_M_pushes_104 : decode y_M_pushes.2.1 104 = .ok (.if_icmp .eq 15, 3) := by decide +kernel
theorem d_M_pushes_107 : decode y_M_pushes.2.1 107 = .ok (.aload_n 0, 1) := by decide +kernel
theorem d_M_pushes_108 : decode y_M_pushes.2.1 108 = .ok (.getfield 165, 3) := by decide +kernel
theorem d_M_pushes_111 : decode y_M_pushes.2.1 111 = .ok (.iload 4, 2) := by decide +kernel
theorem d_M_pushes_113 : decode y_M_pushes.2.1 113 = .ok (.iaload, 1) := by decide +kernel
theorem d_M_pushes_114 : decode y_M_pushes.2.1 114 = .ok (.istore 4, 2) := by decide +kernel
theorem d_M_pushes_116 : decode y_M_pushes.2.1 116 = .ok (.goto (-48), 3) := by decide +kernel
theorem d_M_pushes_119 : decode y_M_pushes.2.1 119 = .ok (.aload_n 0, 1) := by decide +kernel
theorem d_M_pushes_120 : decode y_M_pushes.2.1 120 = .ok (.getfield 153, 3) := by decide +kernel
theorem d_M_pushes_123 : decode y_M_pushes.2.1 123 = .ok (.iload_n 2, 1) := by decide +kernel
theorem d_M_pushes_124 : decode y_M_pushes.2.1 124 = .ok (.iload 4, 2) := by decide +kernel
theorem d_M_pushes_126 : decode y_M_pushes.2.1 126 = .ok (.iastore, 1) := by decide +kernel
theorem d_M_pushes_127 : decode y_M_pushes.2.1 127 = .ok (.iload 4, 2) := by decide +kernel
theorem d_M_pushes_129 : decode y_M_pushes.2.1 129 = .ok (.iconst (-1), 1) := by decide +kernel
theorem d_M_pushes_130 : decode y_M_pushes.2.1 130 = .ok (.if_icmp .eq 25, 3) := by decide +kernel
theorem d_M_pushes_133 : decode y_M_pushes.2.1 133 = .ok (.aload_n 0, 1) := by decide +kernel
theorem d_M_pushes_134 : decode y_M_pushes.2.1 134 = .ok (.getfield 162, 3) := by decide +kernel
theorem d_M_pushes_137 : decode y_M_pushes.2.1 137 = .ok (.iload_n 3, 1) := by decide +kernel
theorem d_M_pushes_138 : decode y_M_pushes.2.1 138 = .ok (.iload 4, 2) := by decide +kernel
theorem d_M_pushes_140 : decode y_M_pushes.2.1 140 = .ok (.iastore, 1) := by decide +kernel
theorem d_M_pushes_141 : decode y_M_pushes.2.1 141 = .ok (.iinc 3 1, 3) := by decide +kernel
theorem d_M_pushes_144 : decode y_M_pushes.2.1 144 = .ok (.aload_n 0, 1) := by decide +kernel
theorem d_M_pushes_145 : decode y_M_pushes.2.1 145 = .ok (.getfield 168, 3) := by decide +kernel
theorem d_M_pushes_148 : decode y_M_pushes.2.1 148 = .ok (.iload 4, 2) := by decide +kernel
theorem d_M_pushes_150 : decode y_M_pushes.2.1 150 = .ok (.iaload, 1) := by decide +kernel
theorem d_M_pushes_151 : decode y_M_pushes.2.1 151 = .ok (.istore_n 2, 1) := by decide +kernel
theorem d_M_pushes_152 : decode y_M_pushes.2.1 152 = .ok (.goto 43, 3) := by decide +kernel
theorem d_M_pushes_155 : decode y_M_pushes.2.1 155 = .ok (.iload_n 3, 1) := by decide +kernel
theorem d_M_pushes_156 : decode y_M_pushes.2.1 156 = .ok (.ifCond .ne 5, 3) := by decide +kernel
theorem d_M_pushes_159 : decode y_M_pushes.2.1 159 = .ok (.iload_n 1, 1) := by decide +kernel
theorem d_M_pushes_160 : decode y_M_pushes.2.1 160 = .ok (.ireturn, 1) := by decide +kernel
theorem d_M_pushes_161 : decode y_M_pushes.2.1 161 = .ok (.iinc 3 (-1), 3) := by decide +kernel
theorem d_M_pushes_164 : decode y_M_pushes.2.1 164 = .ok (.aload_n 0, 1) := by decide +kernel
theorem d_M_pushes_165 : decode y_M_pushes.2.1 165 = .ok (.getfield 168, 3) := by decide +kernel
theorem d_M_pushes_168 : decode y_M_pushes.2.1 168 = .ok (.aload_n 0, 1) := by decide +kernel
theorem d_M_pushes_169 : decode y_M_pushes.2.1 169 = .ok (.getfield 162, 3) := by decide +kernel
theorem d_M_pushes_172 : decode y_M_pushes.2.1 172 = .ok (.iload_n 3, 1) := by decide +kernel
theorem d_M_pushes_173 : decode y_M_pushes.2.1 173 = .ok (.iaload, 1) := by decide +kernel
theorem d_M_pushes_174 : decode y_M_pushes.2.1 174 = .ok (.iconst 1, 1) := by decide +kernel
theorem d_M_pushes_175 : decode y_M_pushes.2.1 175 = .ok (.ixor, 1) := by decide +kernel
theorem d_M_pushes_176 : decode y_M_pushes.2.1 176 = .ok (.iaload, 1) := by decide +kernel
theorem d_M_pushes_177 : decode y_M_pushes.2.1 177 = .ok (.istore_n 2, 1) := by decide +kernel
theorem d_M_pushes_178 : decode y_M_pushes.2.1 178 = .ok (.aload_n 0, 1) := by decide +kernel
theorem d_M_pushes_179 : decode y_M_pushes.2.1 179 = .ok (.getfield 153, 3) := by decide +kernel
theorem d_M_pushes_182 : decode y_M_pushes.2.1 182 = .ok (.iload_n 2, 1) := by decide +kernel
theorem d_M_pushes_183 : decode y_M_pushes.2.1 183 = .ok (.aload_n 0, 1) := by decide +kernel
theorem d_M_pushes_184 : decode y_M_pushes.2.1 184 = .ok (.getfield 165, 3) := by decide +kernel
theorem d_M_pushes_187 : decode y_M_pushes.2.1 187 = .ok (.aload_n 0, 1) := by decide +kernel
theorem d_M_pushes_188 : decode y_M_pushes.2.1 188 = .ok (.getfield 153, 3) := by decide +kernel
theorem d_M_pushes_191 : decode y_M_pushes.2.1 191 = .ok (.iload_n 2, 1) := by decide +kernel
theorem d_M_pushes_192 : decode y_M_pushes.2.1 192 = .ok (.iaload, 1) := by decide +kernel
theorem d_M_pushes_193 : decode y_M_pushes.2.1 193 = .ok (.iaload, 1) := by decide +kernel
theorem d_M_pushes_194 : decode y_M_pushes.2.1 194 = .ok (.iastore, 1) := by decide +kernel
theorem d_M_pushes_195 : decode y_M_pushes.2.1 195 = .ok (.goto (-156), 3) := by decide +kernel
theorem d_M_most_0 : decode y_M_most.2.1 0 = .ok (.aload_n 0, 1) := by decide +kernel
theorem d_M_most_1 : decode y_M_most.2.1 1 = .ok (.iload_n 1, 1) := by decide +kernel
theorem d_M_most_2 : decode y_M_most.2.1 2 = .ok (.iload_n 2, 1) := by decide +kernel
theorem d_M_most_3 : decode y_M_most.2.1 3 = .ok (.iload_n 3, 1) := by decide +kernel
theorem d_M_most_4 : decode y_M_most.2.1 4 = .ok (.invokevirtual 394, 3) := by decide +kernel
theorem d_M_most_7 : decode y_M_most.2.1 7 = .ok (.iconst 0, 1) := by decide +kernel
theorem d_M_most_8 : decode y_M_most.2.1 8 = .ok (.istore 4, 2) := by decide +kernel
theorem d_M_most_10 : decode y_M_most.2.1 10 = .ok (.aload_n 0, 1) := by decide +kernel
theorem d_M_most_11 : decode y_M_most.2.1 11 = .ok (.invokevirtual 397, 3) := by decide +kernel
theorem d_M_most_14 : decode y_M_most.2.1 14 = .ok (.ifCond .eq 15, 3) := by decide +kernel
theorem d_M_most_17 : decode y_M_most.2.1 17 = .ok (.iload 4, 2) := by decide +kernel
theorem d_M_most_19 : decode y_M_most.2.1 19 = .ok (.aload_n 0, 1) := by decide +kernel
theorem d_M_most_20 : decode y_M_most.2.1 20 = .ok (.invokevirtual 401, 3) := by decide +kernel
theorem d_M_most_23 : decode y_M_most.2.1 23 = .ok (.iadd, 1) := by decide +kernel
theorem d_M_most_24 : decode y_M_most.2.1 24 = .ok (.istore 4, 2) := by decide +kernel
theorem d_M_most_26 : decode y_M_most.2.1 26 = .ok (.goto (-16), 3) := by decide +kernel
theorem d_M_most_29 : decode y_M_most.2.1 29 = .ok (.iload 4, 2) := by decide +kernel
theorem d_M_most_31 : decode y_M_most.2.1 31 = .ok (.ireturn, 1) := by decide +kernel
theorem d_M_outBy_0 : decode y_M_outBy.2.1 0 = .ok (.aload_n 0, 1) := by decide +kernel
theorem d_M_outBy_1 : decode y_M_outBy.2.1 1 = .ok (.iload_n 1, 1) := by decide +kernel
theorem d_M_outBy_2 : decode y_M_outBy.2.1 2 = .ok (.iload_n 2, 1) := by decide +kernel
theorem d_M_outBy_3 : decode y_M_outBy.2.1 3 = .ok (.iload_n 3, 1) := by decide +kernel
theorem d_M_outBy_4 : decode y_M_outBy.2.1 4 = .ok (.iload 4, 2) := by decide +kernel
theorem d_M_outBy_6 : decode y_M_outBy.2.1 6 = .ok (.invokevirtual 369, 3) := by decide +kernel
theorem d_M_outBy_9 : decode y_M_outBy.2.1 9 = .ok (.aload_n 0, 1) := by decide +kernel
theorem d_M_outBy_10 : decode y_M_outBy.2.1 10 = .ok (.iload 5, 2) := by decide +kernel
theorem d_M_outBy_12 : decode y_M_outBy.2.1 12 = .ok (.aload_n 0, 1) := by decide +kernel
theorem d_M_outBy_13 : decode y_M_outBy.2.1 13 = .ok (.getfield 13, 3) := by decide +kernel
theorem d_M_outBy_16 : decode y_M_outBy.2.1 16 = .ok (.aload_n 0, 1) := by decide +kernel
theorem d_M_outBy_17 : decode y_M_outBy.2.1 17 = .ok (.invokevirtual 405, 3) := by decide +kernel
theorem d_M_outBy_20 : decode y_M_outBy.2.1 20 = .ok (.invokevirtual 408, 3) := by decide +kernel
theorem d_M_outBy_23 : decode y_M_outBy.2.1 23 = .ok (.ireturn, 1) := by decide +kernel
theorem d_M_people_0 : decode y_M_people.2.1 0 = .ok (.iconst 0, 1) := by decide +kernel
theorem d_M_people_1 : decode y_M_people.2.1 1 = .ok (.istore_n 1, 1) := by decide +kernel
theorem d_M_people_2 : decode y_M_people.2.1 2 = .ok (.iconst 0, 1) := by decide +kernel
theorem d_M_people_3 : decode y_M_people.2.1 3 = .ok (.istore_n 2, 1) := by decide +kernel
theorem d_M_people_4 : decode y_M_people.2.1 4 = .ok (.iload_n 2, 1) := by decide +kernel
theorem d_M_people_5 : decode y_M_people.2.1 5 = .ok (.aload_n 0, 1) := by decide +kernel
theorem d_M_people_6 : decode y_M_people.2.1 6 = .ok (.getfield 262, 3) := by decide +kernel
theorem d_M_people_9 : decode y_M_people.2.1 9 = .ok (.if_icmp .ge 18, 3) := by decide +kernel
theorem d_M_people_12 : decode y_M_people.2.1 12 = .ok (.iload_n 1, 1) := by decide +kernel
theorem d_M_people_13 : decode y_M_people.2.1 13 = .ok (.aload_n 0, 1) := by decide +kernel
theorem d_M_people_14 : decode y_M_people.2.1 14 = .ok (.getfield 92, 3) := by decide +kernel
theorem d_M_people_17 : decode y_M_people.2.1 17 = .ok (.iload_n 2, 1) := by decide +kernel
theorem d_M_people_18 : decode y_M_people.2.1 18 = .ok (.iaload, 1) := by decide +kernel
theorem d_M_people_19 : decode y_M_people.2.1 19 = .ok (.iadd, 1) := by decide +kernel
theorem d_M_people_20 : decode y_M_people.2.1 20 = .ok (.istore_n 1, 1) := by decide +kernel
theorem d_M_people_21 : decode y_M_people.2.1 21 = .ok (.iinc 2 1, 3) := by decide +kernel
theorem d_M_people_24 : decode y_M_people.2.1 24 = .ok (.goto (-20), 3) := by decide +kernel
theorem d_M_people_27 : decode y_M_people.2.1 27 = .ok (.iload_n 1, 1) := by decide +kernel
theorem d_M_people_28 : decode y_M_people.2.1 28 = .ok (.ireturn, 1) := by decide +kernel
theorem d_M_out_0 : decode y_M_out.2.1 0 = .ok (.aload_n 0, 1) := by decide +kernel
theorem d_M_out_1 : decode y_M_out.2.1 1 = .ok (.iconst 0, 1) := by decide +kernel
theorem d_M_out_2 : decode y_M_out.2.1 2 = .ok (.putfield 217, 3) := by decide +kernel
theorem d_M_out_5 : decode y_M_out.2.1 5 = .ok (.aload_n 0, 1) := by decide +kernel
theorem d_M_out_6 : decode y_M_out.2.1 6 = .ok (.iload 4, 2) := by decide +kernel
theorem d_M_out_8 : decode y_M_out.2.1 8 = .ok (.invokevirtual 362, 3) := by decide +kernel
theorem d_M_out_11 : decode y_M_out.2.1 11 = .ok (.ifCond .ne 9, 3) := by decide +kernel
theorem d_M_out_14 : decode y_M_out.2.1 14 = .ok (.aload_n 0, 1) := by decide +kernel
theorem d_M_out_15 : decode y_M_out.2.1 15 = .ok (.iconst 1, 1) := by decide +kernel
theorem d_M_out_16 : decode y_M_out.2.1 16 = .ok (.invokevirtual 285, 3) := by decide +kernel
theorem d_M_out_19 : decode y_M_out.2.1 19 = .ok (.ireturn, 1) := by decide +kernel
theorem d_M_out_20 : decode y_M_out.2.1 20 = .ok (.iload_n 1, 1) := by decide +kernel
theorem d_M_out_21 : decode y_M_out.2.1 21 = .ok (.iload_n 2, 1) := by decide +kernel
theorem d_M_out_22 : decode y_M_out.2.1 22 = .ok (.iload_n 3, 1) := by decide +kernel
theorem d_M_out_23 : decode y_M_out.2.1 23 = .ok (.invokestatic 365, 3) := by decide +kernel
theorem d_M_out_26 : decode y_M_out.2.1 26 = .ok (.ifCond .eq 11, 3) := by decide +kernel
theorem d_M_out_29 : decode y_M_out.2.1 29 = .ok (.iload 5, 2) := by decide +kernel
theorem d_M_out_31 : decode y_M_out.2.1 31 = .ok (.invokestatic 305, 3) := by decide +kernel
theorem d_M_out_34 : decode y_M_out.2.1 34 = .ok (.ifCond .ne 9, 3) := by decide +kernel
theorem d_M_out_37 : decode y_M_out.2.1 37 = .ok (.aload_n 0, 1) := by decide +kernel
theorem d_M_out_38 : decode y_M_out.2.1 38 = .ok (.iconst 2, 1) := by decide +kernel
theorem d_M_out_39 : decode y_M_out.2.1 39 = .ok (.invokevirtual 285, 3) := by decide +kernel
theorem d_M_out_42 : decode y_M_out.2.1 42 = .ok (.ireturn, 1) := by decide +kernel
theorem d_M_out_43 : decode y_M_out.2.1 43 = .ok (.aload_n 0, 1) := by decide +kernel
theorem d_M_out_44 : decode y_M_out.2.1 44 = .ok (.iload_n 1, 1) := by decide +kernel
theorem d_M_out_45 : decode y_M_out.2.1 45 = .ok (.iload_n 2, 1) := by decide +kernel
theorem d_M_out_46 : decode y_M_out.2.1 46 = .ok (.iload_n 3, 1) := by decide +kernel
theorem d_M_out_47 : decode y_M_out.2.1 47 = .ok (.iload 4, 2) := by decide +kernel
theorem d_M_out_49 : decode y_M_out.2.1 49 = .ok (.iload 5, 2) := by decide +kernel
theorem d_M_out_51 : decode y_M_out.2.1 51 = .ok (.invokevirtual 411, 3) := by decide +kernel
theorem d_M_out_54 : decode y_M_out.2.1 54 = .ok (.ireturn, 1) := by decide +kernel
theorem d_M_all_0 : decode y_M_all.2.1 0 = .ok (.aload_n 0, 1) := by decide +kernel
theorem d_M_all_1 : decode y_M_all.2.1 1 = .ok (.iconst 0, 1) := by decide +kernel
theorem d_M_all_2 : decode y_M_all.2.1 2 = .ok (.putfield 217, 3) := by decide +kernel
theorem d_M_all_5 : decode y_M_all.2.1 5 = .ok (.aload_n 0, 1) := by decide +kernel
theorem d_M_all_6 : decode y_M_all.2.1 6 = .ok (.iload 4, 2) := by decide +kernel
theorem d_M_all_8 : decode y_M_all.2.1 8 = .ok (.invokevirtual 362, 3) := by decide +kernel
theorem d_M_all_11 : decode y_M_all.2.1 11 = .ok (.ifCond .ne 9, 3) := by decide +kernel
theorem d_M_all_14 : decode y_M_all.2.1 14 = .ok (.aload_n 0, 1) := by decide +kernel
theorem d_M_all_15 : decode y_M_all.2.1 15 = .ok (.iconst 1, 1) := by decide +kernel
theorem d_M_all_16 : decode y_M_all.2.1 16 = .ok (.invokevirtual 285, 3) := by decide +kernel
theorem d_M_all_19 : decode y_M_all.2.1 19 = .ok (.ireturn, 1) := by decide +kernel
theorem d_M_all_20 : decode y_M_all.2.1 20 = .ok (.iload_n 1, 1) := by decide +kernel
theorem d_M_all_21 : decode y_M_all.2.1 21 = .ok (.iload_n 2, 1) := by decide +kernel
theorem d_M_all_22 : decode y_M_all.2.1 22 = .ok (.iload_n 3, 1) := by decide +kernel
theorem d_M_all_23 : decode y_M_all.2.1 23 = .ok (.invokestatic 365, 3) := by decide +kernel
theorem d_M_all_26 : decode y_M_all.2.1 26 = .ok (.ifCond .ne 9, 3) := by decide +kernel
theorem d_M_all_29 : decode y_M_all.2.1 29 = .ok (.aload_n 0, 1) := by decide +kernel
theorem d_M_all_30 : decode y_M_all.2.1 30 = .ok (.iconst 2, 1) := by decide +kernel
theorem d_M_all_31 : decode y_M_all.2.1 31 = .ok (.invokevirtual 285, 3) := by decide +kernel
theorem d_M_all_34 : decode y_M_all.2.1 34 = .ok (.ireturn, 1) := by decide +kernel
theorem d_M_all_35 : decode y_M_all.2.1 35 = .ok (.iconst 0, 1) := by decide +kernel
theorem d_M_all_36 : decode y_M_all.2.1 36 = .ok (.istore 5, 2) := by decide +kernel
theorem d_M_all_38 : decode y_M_all.2.1 38 = .ok (.iload 5, 2) := by decide +kernel
theorem d_M_all_40 : decode y_M_all.2.1 40 = .ok (.bipush 20, 2) := by decide +kernel
theorem d_M_all_42 : decode y_M_all.2.1 42 = .ok (.if_icmp .gt 30, 3) := by decide +kernel
theorem d_M_all_45 : decode y_M_all.2.1 45 = .ok (.aload_n 0, 1) := by decide +kernel
theorem d_M_all_46 : decode y_M_all.2.1 46 = .ok (.iload_n 1, 1) := by decide +kernel
theorem d_M_all_47 : decode y_M_all.2.1 47 = .ok (.iload_n 2, 1) := by decide +kernel
theorem d_M_all_48 : decode y_M_all.2.1 48 = .ok (.iload_n 3, 1) := by decide +kernel
theorem d_M_all_49 : decode y_M_all.2.1 49 = .ok (.iload 4, 2) := by decide +kernel
theorem d_M_all_51 : decode y_M_all.2.1 51 = .ok (.iload 5, 2) := by decide +kernel
theorem d_M_all_53 : decode y_M_all.2.1 53 = .ok (.invokevirtual 411, 3) := by decide +kernel
theorem d_M_all_56 : decode y_M_all.2.1 56 = .ok (.aload_n 0, 1) := by decide +kernel
theorem d_M_all_57 : decode y_M_all.2.1 57 = .ok (.invokevirtual 415, 3) := by decide +kernel
theorem d_M_all_60 : decode y_M_all.2.1 60 = .ok (.if_icmp .ne 6, 3) := by decide +kernel
theorem d_M_all_63 : decode y_M_all.2.1 63 = .ok (.iload 5, 2) := by decide +kernel
theorem d_M_all_65 : decode y_M_all.2.1 65 = .ok (.ireturn, 1) := by decide +kernel
theorem d_M_all_66 : decode y_M_all.2.1 66 = .ok (.iinc 5 1, 3) := by decide +kernel
theorem d_M_all_69 : decode y_M_all.2.1 69 = .ok (.goto (-31), 3) := by decide +kernel
theorem d_M_all_72 : decode y_M_all.2.1 72 = .ok (.iconst (-1), 1) := by decide +kernel
theorem d_M_all_73 : decode y_M_all.2.1 73 = .ok (.ireturn, 1) := by decide +kernel
theorem d_M_sideOf_0 : decode y_M_sideOf.2.1 0 = .ok (.iconst 0, 1) := by decide +kernel
theorem d_M_sideOf_1 : decode y_M_sideOf.2.1 1 = .ok (.istore_n 2, 1) := by decide +kernel
theorem d_M_sideOf_2 : decode y_M_sideOf.2.1 2 = .ok (.iload_n 2, 1) := by decide +kernel
theorem d_M_sideOf_3 : decode y_M_sideOf.2.1 3 = .ok (.bipush 21, 2) := by decide +kernel
theorem d_M_sideOf_5 : decode y_M_sideOf.2.1 5 = .ok (.if_icmp .ge 16, 3) := by decide +kernel
theorem d_M_sideOf_8 : decode y_M_sideOf.2.1 8 = .ok (.aload_n 0, 1) := by decide +kernel
theorem d_M_sideOf_9 : decode y_M_sideOf.2.1 9 = .ok (.getfield 174, 3) := by decide +kernel
theorem d_M_sideOf_12 : decode y_M_sideOf.2.1 12 = .ok (.iload_n 2, 1) := by decide +kernel
theorem d_M_sideOf_13 : decode y_M_sideOf.2.1 13 = .ok (.iconst 0, 1) := by decide +kernel
theorem d_M_sideOf_14 : decode y_M_sideOf.2.1 14 = .ok (.iastore, 1) := by decide +kernel
theorem d_M_sideOf_15 : decode y_M_sideOf.2.1 15 = .ok (.iinc 2 1, 3) := by decide +kernel
theorem d_M_sideOf_18 : decode y_M_sideOf.2.1 18 = .ok (.goto (-16), 3) := by decide +kernel
theorem d_M_sideOf_21 : decode y_M_sideOf.2.1 21 = .ok (.iconst 0, 1) := by decide +kernel
theorem d_M_sideOf_22 : decode y_M_sideOf.2.1 22 = .ok (.istore_n 2, 1) := by decide +kernel
theorem d_M_sideOf_23 : decode y_M_sideOf.2.1 23 = .ok (.iload_n 2, 1) := by decide +kernel
theorem d_M_sideOf_24 : decode y_M_sideOf.2.1 24 = .ok (.sipush 338, 3) := by decide +kernel
theorem d_M_sideOf_27 : decode y_M_sideOf.2.1 27 = .ok (.if_icmp .ge 16, 3) := by decide +kernel
theorem d_M_sideOf_30 : decode y_M_sideOf.2.1 30 = .ok (.aload_n 0, 1) := by decide +kernel
theorem d_M_sideOf_31 : decode y_M_sideOf.2.1 31 = .ok (.getfield 156, 3) := by decide +kernel
theorem d_M_sideOf_34 : decode y_M_sideOf.2.1 34 = .ok (.iload_n 2, 1) := by decide +kernel
theorem d_M_sideOf_35 : decode y_M_sideOf.2.1 35 = .ok (.iconst (-1), 1) := by decide +kernel
theorem d_M_sideOf_36 : decode y_M_sideOf.2.1 36 = .ok (.iastore, 1) := by decide +kernel
theorem d_M_sideOf_37 : decode y_M_sideOf.2.1 37 = .ok (.iinc 2 1, 3) := by decide +kernel
theorem d_M_sideOf_40 : decode y_M_sideOf.2.1 40 = .ok (.goto (-17), 3) := by decide +kernel
theorem d_M_sideOf_43 : decode y_M_sideOf.2.1 43 = .ok (.aload_n 0, 1) := by decide +kernel
theorem d_M_sideOf_44 : decode y_M_sideOf.2.1 44 = .ok (.getfield 156, 3) := by decide +kernel
theorem d_M_sideOf_47 : decode y_M_sideOf.2.1 47 = .ok (.sipush 336, 3) := by decide +kernel
theorem d_M_sideOf_50 : decode y_M_sideOf.2.1 50 = .ok (.iconst 0, 1) := by decide +kernel
theorem d_M_sideOf_51 : decode y_M_sideOf.2.1 51 = .ok (.iastore, 1) := by decide +kernel
theorem d_M_sideOf_52 : decode y_M_sideOf.2.1 52 = .ok (.aload_n 0, 1) := by decide +kernel
theorem d_M_sideOf_53 : decode y_M_sideOf.2.1 53 = .ok (.getfield 159, 3) := by decide +kernel
theorem d_M_sideOf_56 : decode y_M_sideOf.2.1 56 = .ok (.iconst 0, 1) := by decide +kernel
theorem d_M_sideOf_57 : decode y_M_sideOf.2.1 57 = .ok (.sipush 336, 3) := by decide +kernel
theorem d_M_sideOf_60 : decode y_M_sideOf.2.1 60 = .ok (.iastore, 1) := by decide +kernel
theorem d_M_sideOf_61 : decode y_M_sideOf.2.1 61 = .ok (.iconst 1, 1) := by decide +kernel
theorem d_M_sideOf_62 : decode y_M_sideOf.2.1 62 = .ok (.istore_n 2, 1) := by decide +kernel
theorem d_M_sideOf_63 : decode y_M_sideOf.2.1 63 = .ok (.iconst 0, 1) := by decide +kernel
theorem d_M_sideOf_64 : decode y_M_sideOf.2.1 64 = .ok (.istore_n 3, 1) := by decide +kernel
theorem d_M_sideOf_65 : decode y_M_sideOf.2.1 65 = .ok (.iload_n 3, 1) := by decide +kernel
theorem d_M_sideOf_66 : decode y_M_sideOf.2.1 66 = .ok (.iload_n 2, 1) := by decide +kernel
theorem d_M_sideOf_67 : decode y_M_sideOf.2.1 67 = .ok (.if_icmp .ge 98, 3) := by decide +kernel
theorem d_M_sideOf_70 : decode y_M_sideOf.2.1 70 = .ok (.aload_n 0, 1) := by decide +kernel
theorem d_M_sideOf_71 : decode y_M_sideOf.2.1 71 = .ok (.getfield 150, 3) := by decide +kernel
theorem d_M_sideOf_74 : decode y_M_sideOf.2.1 74 = .ok (.aload_n 0, 1) := by decide +kernel
theorem d_M_sideOf_75 : decode y_M_sideOf.2.1 75 = .ok (.getfield 159, 3) := by decide +kernel
theorem d_M_sideOf_78 : decode y_M_sideOf.2.1 78 = .ok (.iload_n 3, 1) := by decide +kernel
theorem d_M_sideOf_79 : decode y_M_sideOf.2.1 79 = .ok (.iaload, 1) := by decide +kernel
theorem d_M_sideOf_80 : decode y_M_sideOf.2.1 80 = .ok (.iaload, 1) := by decide +kernel
theorem d_M_sideOf_81 : decode y_M_sideOf.2.1 81 = .ok (.istore 4, 2) := by decide +kernel
theorem d_M_sideOf_83 : decode y_M_sideOf.2.1 83 = .ok (.iload 4, 2) := by decide +kernel
theorem d_M_sideOf_85 : decode y_M_sideOf.2.1 85 = .ok (.iconst (-1), 1) := by decide +kernel
theorem d_M_sideOf_86 : decode y_M_sideOf.2.1 86 = .ok (.if_icmp .eq 73, 3) := by decide +kernel
theorem d_M_sideOf_89 : decode y_M_sideOf.2.1 89 = .ok (.aload_n 0, 1) := by decide +kernel
theorem d_M_sideOf_90 : decode y_M_sideOf.2.1 90 = .ok (.getfield 171, 3) := by decide +kernel
theorem d_M_sideOf_93 : decode y_M_sideOf.2.1 93 = .ok (.iload 4, 2) := by decide +kernel
theorem d_M_sideOf_95 : decode y_M_sideOf.2.1 95 = .ok (.iaload, 1) := by decide +kernel
theorem d_M_sideOf_96 : decode y_M_sideOf.2.1 96 = .ok (.ifCond .eq 51, 3) := by decide +kernel
theorem d_M_sideOf_99 : decode y_M_sideOf.2.1 99 = .ok (.aload_n 0, 1) := by decide +kernel
theorem d_M_sideOf_100 : decode y_M_sideOf.2.1 100 = .ok (.getfield 156, 3) := by decide +kernel
theorem d_M_sideOf_103 : decode y_M_sideOf.2.1 103 = .ok (.aload_n 0, 1) := by decide +kernel
theorem d_M_sideOf_104 : decode y_M_sideOf.2.1 104 = .ok (.getfield 168, 3) := by decide +kernel
theorem d_M_sideOf_107 : decode y_M_sideOf.2.1 107 = .ok (.iload 4, 2) := by decide +kernel
theorem d_M_sideOf_109 : decode y_M_sideOf.2.1 109 = .ok (.iaload, 1) := by decide +kernel
theorem d_M_sideOf_110 : decode y_M_sideOf.2.1 110 = .ok (.iaload, 1) := by decide +kernel
theorem d_M_sideOf_111 : decode y_M_sideOf.2.1 111 = .ok (.iconst (-1), 1) := by decide +kernel
theorem d_M_sideOf_112 : decode y_M_sideOf.2.1 112 = .ok (.if_icmp .eq 6, 3) := by decide +kernel
theorem d_M_sideOf_115 : decode y_M_sideOf.2.1 115 = .ok (.goto 32, 3) := by decide +kernel
theorem d_M_sideOf_118 : decode y_M_sideOf.2.1 118 = .ok (.aload_n 0, 1) := by decide +kernel
theorem d_M_sideOf_119 : decode y_M_sideOf.2.1 119 = .ok (.getfield 156, 3) := by decide +kernel
theorem d_M_sideOf_122 : decode y_M_sideOf.2.1 122 = .ok (.aload_n 0, 1) := by decide +kernel
theorem d_M_sideOf_123 : decode y_M_sideOf.2.1 123 = .ok (.getfield 168, 3) := by decide +kernel
theorem d_M_sideOf_126 : decode y_M_sideOf.2.1 126 = .ok (.iload 4, 2) := by decide +kernel
theorem d_M_sideOf_128 : decode y_M_sideOf.2.1 128 = .ok (.iaload, 1) := by decide +kernel
theorem d_M_sideOf_129 : decode y_M_sideOf.2.1 129 = .ok (.iconst 0, 1) := by decide +kernel
theorem d_M_sideOf_130 : decode y_M_sideOf.2.1 130 = .ok (.iastore, 1) := by decide +kernel
theorem d_M_sideOf_131 : decode y_M_sideOf.2.1 131 = .ok (.aload_n 0, 1) := by decide +kernel
theorem d_M_sideOf_132 : decode y_M_sideOf.2.1 132 = .ok (.getfield 159, 3) := by decide +kernel
theorem d_M_sideOf_135 : decode y_M_sideOf.2.1 135 = .ok (.iload_n 2, 1) := by decide +kernel
theorem d_M_sideOf_136 : decode y_M_sideOf.2.1 136 = .ok (.aload_n 0, 1) := by decide +kernel
theorem d_M_sideOf_137 : decode y_M_sideOf.2.1 137 = .ok (.getfield 168, 3) := by decide +kernel
theorem d_M_sideOf_140 : decode y_M_sideOf.2.1 140 = .ok (.iload 4, 2) := by decide +kernel
theorem d_M_sideOf_142 : decode y_M_sideOf.2.1 142 = .ok (.iaload, 1) := by decide +kernel
theorem d_M_sideOf_143 : decode y_M_sideOf.2.1 143 = .ok (.iastore, 1) := by decide +kernel
theorem d_M_sideOf_144 : decode y_M_sideOf.2.1 144 = .ok (.iinc 2 1, 3) := by decide +kernel
theorem d_M_sideOf_147 : decode y_M_sideOf.2.1 147 = .ok (.aload_n 0, 1) := by decide +kernel
theorem d_M_sideOf_148 : decode y_M_sideOf.2.1 148 = .ok (.getfield 165, 3) := by decide +kernel
theorem d_M_sideOf_151 : decode y_M_sideOf.2.1 151 = .ok (.iload 4, 2) := by decide +kernel
theorem d_M_sideOf_153 : decode y_M_sideOf.2.1 153 = .ok (.iaload, 1) := by decide +kernel
theorem d_M_sideOf_154 : decode y_M_sideOf.2.1 154 = .ok (.istore 4, 2) := by decide +kernel
theorem d_M_sideOf_156 : decode y_M_sideOf.2.1 156 = .ok (.goto (-73), 3) := by decide +kernel
theorem d_M_sideOf_159 : decode y_M_sideOf.2.1 159 = .ok (.iinc 3 1, 3) := by decide +kernel
theorem d_M_sideOf_162 : decode y_M_sideOf.2.1 162 = .ok (.goto (-97), 3) := by decide +kernel
theorem d_M_sideOf_165 : decode y_M_sideOf.2.1 165 = .ok (.iconst 0, 1) := by decide +kernel
theorem d_M_sideOf_166 : decode y_M_sideOf.2.1 166 = .ok (.istore_n 3, 1) := by decide +kernel
theorem d_M_sideOf_167 : decode y_M_sideOf.2.1 167 = .ok (.iload_n 3, 1) := by decide +kernel
theorem d_M_sideOf_168 : decode y_M_sideOf.2.1 168 = .ok (.iload_n 1, 1) := by decide +kernel
theorem d_M_sideOf_169 : decode y_M_sideOf.2.1 169 = .ok (.if_icmp .gt 54, 3) := by decide +kernel
theorem d_M_sideOf_172 : decode y_M_sideOf.2.1 172 = .ok (.iconst 0, 1) := by decide +kernel
theorem d_M_sideOf_173 : decode y_M_sideOf.2.1 173 = .ok (.istore 4, 2) := by decide +kernel
theorem d_M_sideOf_175 : decode y_M_sideOf.2.1 175 = .ok (.iload 4, 2) := by decide +kernel
theorem d_M_sideOf_177 : decode y_M_sideOf.2.1 177 = .ok (.bipush 16, 2) := by decide +kernel
theorem d_M_sideOf_179 : decode y_M_sideOf.2.1 179 = .ok (.if_icmp .ge 38, 3) := by decide +kernel
theorem d_M_sideOf_182 : decode y_M_sideOf.2.1 182 = .ok (.aload_n 0, 1) := by decide +kernel
theorem d_M_sideOf_183 : decode y_M_sideOf.2.1 183 = .ok (.getfield 156, 3) := by decide +kernel
theorem d_M_sideOf_186 : decode y_M_sideOf.2.1 186 = .ok (.bipush 16, 2) := by decide +kernel
theorem d_M_sideOf_188 : decode y_M_sideOf.2.1 188 = .ok (.iload_n 3, 1) := by decide +kernel
theorem d_M_sideOf_189 : decode y_M_sideOf.2.1 189 = .ok (.imul, 1) := by decide +kernel
theorem d_M_sideOf_190 : decode y_M_sideOf.2.1 190 = .ok (.iload 4, 2) := by decide +kernel
theorem d_M_sideOf_192 : decode y_M_sideOf.2.1 192 = .ok (.iadd, 1) := by decide +kernel
theorem d_M_sideOf_193 : decode y_M_sideOf.2.1 193 = .ok (.iaload, 1) := by decide +kernel
theorem d_M_sideOf_194 : decode y_M_sideOf.2.1 194 = .ok (.iconst (-1), 1) := by decide +kernel
theorem d_M_sideOf_195 : decode y_M_sideOf.2.1 195 = .ok (.if_icmp .eq 16, 3) := by decide +kernel
theorem d_M_sideOf_198 : decode y_M_sideOf.2.1 198 = .ok (.aload_n 0, 1) := by decide +kernel
theorem d_M_sideOf_199 : decode y_M_sideOf.2.1 199 = .ok (.getfield 174, 3) := by decide +kernel
theorem d_M_sideOf_202 : decode y_M_sideOf.2.1 202 = .ok (.iload_n 3, 1) := by decide +kernel
theorem d_M_sideOf_203 : decode y_M_sideOf.2.1 203 = .ok (.dup2, 1) := by decide +kernel
theorem d_M_sideOf_204 : decode y_M_sideOf.2.1 204 = .ok (.iaload, 1) := by decide +kernel
theorem d_M_sideOf_205 : decode y_M_sideOf.2.1 205 = .ok (.iconst 1, 1) := by decide +kernel
theorem d_M_sideOf_206 : decode y_M_sideOf.2.1 206 = .ok (.iload 4, 2) := by decide +kernel
theorem d_M_sideOf_208 : decode y_M_sideOf.2.1 208 = .ok (.ishl, 1) := by decide +kernel
theorem d_M_sideOf_209 : decode y_M_sideOf.2.1 209 = .ok (.ior, 1) := by decide +kernel
theorem d_M_sideOf_210 : decode y_M_sideOf.2.1 210 = .ok (.iastore, 1) := by decide +kernel
theorem d_M_sideOf_211 : decode y_M_sideOf.2.1 211 = .ok (.iinc 4 1, 3) := by decide +kernel
theorem d_M_sideOf_214 : decode y_M_sideOf.2.1 214 = .ok (.goto (-39), 3) := by decide +kernel
theorem d_M_sideOf_217 : decode y_M_sideOf.2.1 217 = .ok (.iinc 3 1, 3) := by decide +kernel
theorem d_M_sideOf_220 : decode y_M_sideOf.2.1 220 = .ok (.goto (-53), 3) := by decide +kernel
theorem d_M_sideOf_223 : decode y_M_sideOf.2.1 223 = .ok (.return_, 1) := by decide +kernel
theorem d_M_side_0 : decode y_M_side.2.1 0 = .ok (.aload_n 0, 1) := by decide +kernel
theorem d_M_side_1 : decode y_M_side.2.1 1 = .ok (.iconst 0, 1) := by decide +kernel
theorem d_M_side_2 : decode y_M_side.2.1 2 = .ok (.putfield 217, 3) := by decide +kernel
theorem d_M_side_5 : decode y_M_side.2.1 5 = .ok (.aload_n 0, 1) := by decide +kernel
theorem d_M_side_6 : decode y_M_side.2.1 6 = .ok (.iload 4, 2) := by decide +kernel
theorem d_M_side_8 : decode y_M_side.2.1 8 = .ok (.invokevirtual 362, 3) := by decide +kernel
theorem d_M_side_11 : decode y_M_side.2.1 11 = .ok (.ifCond .ne 9, 3) := by decide +kernel
theorem d_M_side_14 : decode y_M_side.2.1 14 = .ok (.aload_n 0, 1) := by decide +kernel
theorem d_M_side_15 : decode y_M_side.2.1 15 = .ok (.iconst 1, 1) := by decide +kernel
theorem d_M_side_16 : decode y_M_side.2.1 16 = .ok (.invokevirtual 285, 3) := by decide +kernel
theorem d_M_side_19 : decode y_M_side.2.1 19 = .ok (.ireturn, 1) := by decide +kernel
theorem d_M_side_20 : decode y_M_side.2.1 20 = .ok (.iload_n 1, 1) := by decide +kernel
theorem d_M_side_21 : decode y_M_side.2.1 21 = .ok (.iload_n 2, 1) := by decide +kernel
theorem d_M_side_22 : decode y_M_side.2.1 22 = .ok (.iload_n 3, 1) := by decide +kernel
theorem d_M_side_23 : decode y_M_side.2.1 23 = .ok (.invokestatic 365, 3) := by decide +kernel
theorem d_M_side_26 : decode y_M_side.2.1 26 = .ok (.ifCond .eq 24, 3) := by decide +kernel
theorem d_M_side_29 : decode y_M_side.2.1 29 = .ok (.iload 5, 2) := by decide +kernel
theorem d_M_side_31 : decode y_M_side.2.1 31 = .ok (.invokestatic 305, 3) := by decide +kernel
theorem d_M_side_34 : decode y_M_side.2.1 34 = .ok (.ifCond .eq 16, 3) := by decide +kernel
theorem d_M_side_37 : decode y_M_side.2.1 37 = .ok (.iload 6, 2) := by decide +kernel
theorem d_M_side_39 : decode y_M_side.2.1 39 = .ok (.i2l, 1) := by decide +kernel
theorem d_M_side_40 : decode y_M_side.2.1 40 = .ok (.lconst 0, 1) := by decide +kernel
theorem d_M_side_41 : decode y_M_side.2.1 41 = .ok (.iload 5, 2) := by decide +kernel
theorem d_M_side_43 : decode y_M_side.2.1 43 = .ok (.i2l, 1) := by decide +kernel
theorem d_M_side_44 : decode y_M_side.2.1 44 = .ok (.invokestatic 222, 3) := by decide +kernel
theorem d_M_side_47 : decode y_M_side.2.1 47 = .ok (.ifCond .ne 9, 3) := by decide +kernel
theorem d_M_side_50 : decode y_M_side.2.1 50 = .ok (.aload_n 0, 1) := by decide +kernel
theorem d_M_side_51 : decode y_M_side.2.1 51 = .ok (.iconst 2, 1) := by decide +kernel
theorem d_M_side_52 : decode y_M_side.2.1 52 = .ok (.invokevirtual 285, 3) := by decide +kernel
theorem d_M_side_55 : decode y_M_side.2.1 55 = .ok (.ireturn, 1) := by decide +kernel
theorem d_M_side_56 : decode y_M_side.2.1 56 = .ok (.aload_n 0, 1) := by decide +kernel
theorem d_M_side_57 : decode y_M_side.2.1 57 = .ok (.iload_n 1, 1) := by decide +kernel
theorem d_M_side_58 : decode y_M_side.2.1 58 = .ok (.iload_n 2, 1) := by decide +kernel
theorem d_M_side_59 : decode y_M_side.2.1 59 = .ok (.iload_n 3, 1) := by decide +kernel
theorem d_M_side_60 : decode y_M_side.2.1 60 = .ok (.iload 4, 2) := by decide +kernel
theorem d_M_side_62 : decode y_M_side.2.1 62 = .ok (.iload 5, 2) := by decide +kernel
theorem d_M_side_64 : decode y_M_side.2.1 64 = .ok (.invokevirtual 411, 3) := by decide +kernel
theorem d_M_side_67 : decode y_M_side.2.1 67 = .ok (.istore 7, 2) := by decide +kernel
theorem d_M_side_69 : decode y_M_side.2.1 69 = .ok (.aload_n 0, 1) := by decide +kernel
theorem d_M_side_70 : decode y_M_side.2.1 70 = .ok (.iload 5, 2) := by decide +kernel
theorem d_M_side_72 : decode y_M_side.2.1 72 = .ok (.invokevirtual 418, 3) := by decide +kernel
theorem d_M_side_75 : decode y_M_side.2.1 75 = .ok (.aload_n 0, 1) := by decide +kernel
theorem d_M_side_76 : decode y_M_side.2.1 76 = .ok (.getfield 174, 3) := by decide +kernel
theorem d_M_side_79 : decode y_M_side.2.1 79 = .ok (.iload 6, 2) := by decide +kernel
theorem d_M_side_81 : decode y_M_side.2.1 81 = .ok (.iaload, 1) := by decide +kernel
theorem d_M_side_82 : decode y_M_side.2.1 82 = .ok (.ireturn, 1) := by decide +kernel
theorem d_M_isIn_0 : decode y_M_isIn.2.1 0 = .ok (.aload_n 0, 1) := by decide +kernel
theorem d_M_isIn_1 : decode y_M_isIn.2.1 1 = .ok (.getfield 174, 3) := by decide +kernel
theorem d_M_isIn_4 : decode y_M_isIn.2.1 4 = .ok (.iload_n 1, 1) := by decide +kernel
theorem d_M_isIn_5 : decode y_M_isIn.2.1 5 = .ok (.bipush 16, 2) := by decide +kernel
theorem d_M_isIn_7 : decode y_M_isIn.2.1 7 = .ok (.idiv, 1) := by decide +kernel
theorem d_M_isIn_8 : decode y_M_isIn.2.1 8 = .ok (.iaload, 1) := by decide +kernel
theorem d_M_isIn_9 : decode y_M_isIn.2.1 9 = .ok (.iload_n 1, 1) := by decide +kernel
theorem d_M_isIn_10 : decode y_M_isIn.2.1 10 = .ok (.bipush 16, 2) := by decide +kernel
theorem d_M_isIn_12 : decode y_M_isIn.2.1 12 = .ok (.irem, 1) := by decide +kernel
theorem d_M_isIn_13 : decode y_M_isIn.2.1 13 = .ok (.ishr, 1) := by decide +kernel
theorem d_M_isIn_14 : decode y_M_isIn.2.1 14 = .ok (.iconst 1, 1) := by decide +kernel
theorem d_M_isIn_15 : decode y_M_isIn.2.1 15 = .ok (.iand, 1) := by decide +kernel
theorem d_M_isIn_16 : decode y_M_isIn.2.1 16 = .ok (.iconst 1, 1) := by decide +kernel
theorem d_M_isIn_17 : decode y_M_isIn.2.1 17 = .ok (.if_icmp .ne 7, 3) := by decide +kernel
theorem d_M_isIn_20 : decode y_M_isIn.2.1 20 = .ok (.iconst 1, 1) := by decide +kernel
theorem d_M_isIn_21 : decode y_M_isIn.2.1 21 = .ok (.goto 4, 3) := by decide +kernel
theorem d_M_isIn_24 : decode y_M_isIn.2.1 24 = .ok (.iconst 0, 1) := by decide +kernel
theorem d_M_isIn_25 : decode y_M_isIn.2.1 25 = .ok (.ireturn, 1) := by decide +kernel
theorem d_M_leaves_0 : decode y_M_leaves.2.1 0 = .ok (.iload_n 2, 1) := by decide +kernel
theorem d_M_leaves_1 : decode y_M_leaves.2.1 1 = .ok (.iload_n 3, 1) := by decide +kernel
theorem d_M_leaves_2 : decode y_M_leaves.2.1 2 = .ok (.if_icmp .ge 19, 3) := by decide +kernel
theorem d_M_leaves_5 : decode y_M_leaves.2.1 5 = .ok (.aload_n 0, 1) := by decide +kernel
theorem d_M_leaves_6 : decode y_M_leaves.2.1 6 = .ok (.iload_n 1, 1) := by decide +kernel
theorem d_M_leaves_7 : decode y_M_leaves.2.1 7 = .ok (.iload_n 2, 1) := by decide +kernel
theorem d_M_leaves_8 : decode y_M_leaves.2.1 8 = .ok (.iconst 1, 1) := by decide +kernel
theorem d_M_leaves_9 : decode y_M_leaves.2.1 9 = .ok (.iadd, 1) := by decide +kernel
theorem d_M_leaves_10 : decode y_M_leaves.2.1 10 = .ok (.invokestatic 378, 3) := by decide +kernel
theorem d_M_leaves_13 : decode y_M_leaves.2.1 13 = .ok (.invokevirtual 421, 3) := by decide +kernel
theorem d_M_leaves_16 : decode y_M_leaves.2.1 16 = .ok (.ifCond .ne 5, 3) := by decide +kernel
theorem d_M_leaves_19 : decode y_M_leaves.2.1 19 = .ok (.iconst (-1), 1) := by decide +kernel
theorem d_M_leaves_20 : decode y_M_leaves.2.1 20 = .ok (.ireturn, 1) := by decide +kernel
theorem d_M_leaves_21 : decode y_M_leaves.2.1 21 = .ok (.iload_n 2, 1) := by decide +kernel
theorem d_M_leaves_22 : decode y_M_leaves.2.1 22 = .ok (.iload_n 3, 1) := by decide +kernel
theorem d_M_leaves_23 : decode y_M_leaves.2.1 23 = .ok (.if_icmp .ge 15, 3) := by decide +kernel
theorem d_M_leaves_26 : decode y_M_leaves.2.1 26 = .ok (.aload_n 0, 1) := by decide +kernel
theorem d_M_leaves_27 : decode y_M_leaves.2.1 27 = .ok (.iload_n 1, 1) := by decide +kernel
theorem d_M_leaves_28 : decode y_M_leaves.2.1 28 = .ok (.aload_n 0, 1) := by decide +kernel
theorem d_M_leaves_29 : decode y_M_leaves.2.1 29 = .ok (.invokevirtual 405, 3) := by decide +kernel
theorem d_M_leaves_32 : decode y_M_leaves.2.1 32 = .ok (.invokevirtual 388, 3) := by decide +kernel
theorem d_M_leaves_35 : decode y_M_leaves.2.1 35 = .ok (.goto 4, 3) := by decide +kernel
theorem d_M_leaves_38 : decode y_M_leaves.2.1 38 = .ok (.iconst 0, 1) := by decide +kernel
theorem d_M_leaves_39 : decode y_M_leaves.2.1 39 = .ok (.istore 4, 2) := by decide +kernel
theorem d_M_leaves_41 : decode y_M_leaves.2.1 41 = .ok (.iconst 0, 1) := by decide +kernel
theorem d_M_leaves_42 : decode y_M_leaves.2.1 42 = .ok (.istore 5, 2) := by decide +kernel
theorem d_M_leaves_44 : decode y_M_leaves.2.1 44 = .ok (.iload 5, 2) := by decide +kernel
theorem d_M_leaves_46 : decode y_M_leaves.2.1 46 = .ok (.aload_n 0, 1) := by decide +kernel
theorem d_M_leaves_47 : decode y_M_leaves.2.1 47 = .ok (.getfield 250, 3) := by decide +kernel
theorem d_M_leaves_50 : decode y_M_leaves.2.1 50 = .ok (.if_icmp .ge 72, 3) := by decide +kernel
theorem d_M_leaves_53 : decode y_M_leaves.2.1 53 = .ok (.iload_n 2, 1) := by decide +kernel
theorem d_M_leaves_54 : decode y_M_leaves.2.1 54 = .ok (.aload_n 0, 1) := by decide +kernel
theorem d_M_leaves_55 : decode y_M_leaves.2.1 55 = .ok (.getfield 38, 3) := by decide +kernel
theorem d_M_leaves_58 : decode y_M_leaves.2.1 58 = .ok (.iload 5, 2) := by decide +kernel
theorem d_M_leaves_60 : decode y_M_leaves.2.1 60 = .ok (.iaload, 1) := by decide +kernel
theorem d_M_leaves_61 : decode y_M_leaves.2.1 61 = .ok (.aload_n 0, 1) := by decide +kernel
theorem d_M_leaves_62 : decode y_M_leaves.2.1 62 = .ok (.getfield 13, 3) := by decide +kernel
theorem d_M_leaves_65 : decode y_M_leaves.2.1 65 = .ok (.imul, 1) := by decide +kernel
theorem d_M_leaves_66 : decode y_M_leaves.2.1 66 = .ok (.iadd, 1) := by decide +kernel
theorem d_M_leaves_67 : decode y_M_leaves.2.1 67 = .ok (.istore 6, 2) := by decide +kernel
theorem d_M_leaves_69 : decode y_M_leaves.2.1 69 = .ok (.aload_n 0, 1) := by decide +kernel
theorem d_M_leaves_70 : decode y_M_leaves.2.1 70 = .ok (.iload_n 1, 1) := by decide +kernel
theorem d_M_leaves_71 : decode y_M_leaves.2.1 71 = .ok (.iload 5, 2) := by decide +kernel
theorem d_M_leaves_73 : decode y_M_leaves.2.1 73 = .ok (.invokevirtual 332, 3) := by decide +kernel
theorem d_M_leaves_76 : decode y_M_leaves.2.1 76 = .ok (.ifCond .eq 40, 3) := by decide +kernel
theorem d_M_leaves_79 : decode y_M_leaves.2.1 79 = .ok (.iload 6, 2) := by decide +kernel
theorem d_M_leaves_81 : decode y_M_leaves.2.1 81 = .ok (.iload_n 3, 1) := by decide +kernel
theorem d_M_leaves_82 : decode y_M_leaves.2.1 82 = .ok (.if_icmp .gt 34, 3) := by decide +kernel
theorem d_M_leaves_85 : decode y_M_leaves.2.1 85 = .ok (.aload_n 0, 1) := by decide +kernel
theorem d_M_leaves_86 : decode y_M_leaves.2.1 86 = .ok (.aload_n 0, 1) := by decide +kernel
theorem d_M_leaves_87 : decode y_M_leaves.2.1 87 = .ok (.iload_n 1, 1) := by decide +kernel
theorem d_M_leaves_88 : decode y_M_leaves.2.1 88 = .ok (.iload 5, 2) := by decide +kernel
theorem d_M_leaves_90 : decode y_M_leaves.2.1 90 = .ok (.invokevirtual 342, 3) := by decide +kernel
theorem d_M_leaves_93 : decode y_M_leaves.2.1 93 = .ok (.iload 6, 2) := by decide +kernel
theorem d_M_leaves_95 : decode y_M_leaves.2.1 95 = .ok (.invokestatic 378, 3) := by decide +kernel
theorem d_M_leaves_98 : decode y_M_leaves.2.1 98 = .ok (.invokevirtual 421, 3) := by decide +kernel
theorem d_M_leaves_101 : decode y_M_leaves.2.1 101 = .ok (.ifCond .ne 15, 3) := by decide +kernel
theorem d_M_leaves_104 : decode y_M_leaves.2.1 104 = .ok (.iload 4, 2) := by decide +kernel
theorem d_M_leaves_106 : decode y_M_leaves.2.1 106 = .ok (.aload_n 0, 1) := by decide +kernel
theorem d_M_leaves_107 : decode y_M_leaves.2.1 107 = .ok (.getfield 41, 3) := by decide +kernel
theorem d_M_leaves_110 : decode y_M_leaves.2.1 110 = .ok (.iload 5, 2) := by decide +kernel
theorem d_M_leaves_112 : decode y_M_leaves.2.1 112 = .ok (.iaload, 1) := by decide +kernel
theorem d_M_leaves_113 : decode y_M_leaves.2.1 113 = .ok (.iadd, 1) := by decide +kernel
theorem d_M_leaves_114 : decode y_M_leaves.2.1 114 = .ok (.istore 4, 2) := by decide +kernel
theorem d_M_leaves_116 : decode y_M_leaves.2.1 116 = .ok (.iinc 5 1, 3) := by decide +kernel
theorem d_M_leaves_119 : decode y_M_leaves.2.1 119 = .ok (.goto (-75), 3) := by decide +kernel
theorem d_M_leaves_122 : decode y_M_leaves.2.1 122 = .ok (.iload 4, 2) := by decide +kernel
theorem d_M_leaves_124 : decode y_M_leaves.2.1 124 = .ok (.ireturn, 1) := by decide +kernel
theorem d_M_worthOf_0 : decode y_M_worthOf.2.1 0 = .ok (.iconst 0, 1) := by decide +kernel
theorem d_M_worthOf_1 : decode y_M_worthOf.2.1 1 = .ok (.istore_n 2, 1) := by decide +kernel
theorem d_M_worthOf_2 : decode y_M_worthOf.2.1 2 = .ok (.iconst 0, 1) := by decide +kernel
theorem d_M_worthOf_3 : decode y_M_worthOf.2.1 3 = .ok (.istore_n 3, 1) := by decide +kernel
theorem d_M_worthOf_4 : decode y_M_worthOf.2.1 4 = .ok (.iload_n 3, 1) := by decide +kernel
theorem d_M_worthOf_5 : decode y_M_worthOf.2.1 5 = .ok (.aload_n 0, 1) := by decide +kernel
theorem d_M_worthOf_6 : decode y_M_worthOf.2.1 6 = .ok (.getfield 262, 3) := by decide +kernel
theorem d_M_worthOf_9 : decode y_M_worthOf.2.1 9 = .ok (.if_icmp .ge 50, 3) := by decide +kernel
theorem d_M_worthOf_12 : decode y_M_worthOf.2.1 12 = .ok (.aload_n 0, 1) := by decide +kernel
theorem d_M_worthOf_13 : decode y_M_worthOf.2.1 13 = .ok (.getfield 95, 3) := by decide +kernel
theorem d_M_worthOf_16 : decode y_M_worthOf.2.1 16 = .ok (.iload_n 3, 1) := by decide +kernel
theorem d_M_worthOf_17 : decode y_M_worthOf.2.1 17 = .ok (.iaload, 1) := by decide +kernel
theorem d_M_worthOf_18 : decode y_M_worthOf.2.1 18 = .ok (.iload_n 1, 1) := by decide +kernel
theorem d_M_worthOf_19 : decode y_M_worthOf.2.1 19 = .ok (.if_icmp .gt 34, 3) := by decide +kernel
theorem d_M_worthOf_22 : decode y_M_worthOf.2.1 22 = .ok (.aload_n 0, 1) := by decide +kernel
theorem d_M_worthOf_23 : decode y_M_worthOf.2.1 23 = .ok (.aload_n 0, 1) := by decide +kernel
theorem d_M_worthOf_24 : decode y_M_worthOf.2.1 24 = .ok (.getfield 89, 3) := by decide +kernel
theorem d_M_worthOf_27 : decode y_M_worthOf.2.1 27 = .ok (.iload_n 3, 1) := by decide +kernel
theorem d_M_worthOf_28 : decode y_M_worthOf.2.1 28 = .ok (.iaload, 1) := by decide +kernel
theorem d_M_worthOf_29 : decode y_M_worthOf.2.1 29 = .ok (.aload_n 0, 1) := by decide +kernel
theorem d_M_worthOf_30 : decode y_M_worthOf.2.1 30 = .ok (.getfield 95, 3) := by decide +kernel
theorem d_M_worthOf_33 : decode y_M_worthOf.2.1 33 = .ok (.iload_n 3, 1) := by decide +kernel
theorem d_M_worthOf_34 : decode y_M_worthOf.2.1 34 = .ok (.iaload, 1) := by decide +kernel
theorem d_M_worthOf_35 : decode y_M_worthOf.2.1 35 = .ok (.invokestatic 378, 3) := by decide +kernel
theorem d_M_worthOf_38 : decode y_M_worthOf.2.1 38 = .ok (.invokevirtual 421, 3) := by decide +kernel
theorem d_M_worthOf_41 : decode y_M_worthOf.2.1 41 = .ok (.ifCond .ne 12, 3) := by decide +kernel
theorem d_M_worthOf_44 : decode y_M_worthOf.2.1 44 = .ok (.iload_n 2, 1) := by decide +kernel
theorem d_M_worthOf_45 : decode y_M_worthOf.2.1 45 = .ok (.aload_n 0, 1) := by decide +kernel
theorem d_M_worthOf_46 : decode y_M_worthOf.2.1 46 = .ok (.getfield 92, 3) := by decide +kernel
theorem d_M_worthOf_49 : decode y_M_worthOf.2.1 49 = .ok (.iload_n 3, 1) := by decide +kernel
theorem d_M_worthOf_50 : decode y_M_worthOf.2.1 50 = .ok (.iaload, 1) := by decide +kernel
theorem d_M_worthOf_51 : decode y_M_worthOf.2.1 51 = .ok (.iadd, 1) := by decide +kernel
theorem d_M_worthOf_52 : decode y_M_worthOf.2.1 52 = .ok (.istore_n 2, 1) := by decide +kernel
theorem d_M_worthOf_53 : decode y_M_worthOf.2.1 53 = .ok (.iinc 3 1, 3) := by decide +kernel
theorem d_M_worthOf_56 : decode y_M_worthOf.2.1 56 = .ok (.goto (-52), 3) := by decide +kernel
theorem d_M_worthOf_59 : decode y_M_worthOf.2.1 59 = .ok (.iconst 0, 1) := by decide +kernel
theorem d_M_worthOf_60 : decode y_M_worthOf.2.1 60 = .ok (.istore_n 3, 1) := by decide +kernel
theorem d_M_worthOf_61 : decode y_M_worthOf.2.1 61 = .ok (.iload_n 3, 1) := by decide +kernel
theorem d_M_worthOf_62 : decode y_M_worthOf.2.1 62 = .ok (.iload_n 1, 1) := by decide +kernel
theorem d_M_worthOf_63 : decode y_M_worthOf.2.1 63 = .ok (.if_icmp .gt 99, 3) := by decide +kernel
theorem d_M_worthOf_66 : decode y_M_worthOf.2.1 66 = .ok (.iconst 0, 1) := by decide +kernel
theorem d_M_worthOf_67 : decode y_M_worthOf.2.1 67 = .ok (.istore 4, 2) := by decide +kernel
theorem d_M_worthOf_69 : decode y_M_worthOf.2.1 69 = .ok (.iload 4, 2) := by decide +kernel
theorem d_M_worthOf_71 : decode y_M_worthOf.2.1 71 = .ok (.aload_n 0, 1) := by decide +kernel
theorem d_M_worthOf_72 : decode y_M_worthOf.2.1 72 = .ok (.getfield 228, 3) := by decide +kernel
theorem d_M_worthOf_75 : decode y_M_worthOf.2.1 75 = .ok (.if_icmp .ge 81, 3) := by decide +kernel
theorem d_M_worthOf_78 : decode y_M_worthOf.2.1 78 = .ok (.aload_n 0, 1) := by decide +kernel
theorem d_M_worthOf_79 : decode y_M_worthOf.2.1 79 = .ok (.iload 4, 2) := by decide +kernel
theorem d_M_worthOf_81 : decode y_M_worthOf.2.1 81 = .ok (.iload_n 3, 1) := by decide +kernel
theorem d_M_worthOf_82 : decode y_M_worthOf.2.1 82 = .ok (.invokestatic 384, 3) := by decide +kernel
theorem d_M_worthOf_85 : decode y_M_worthOf.2.1 85 = .ok (.invokevirtual 421, 3) := by decide +kernel
theorem d_M_worthOf_88 : decode y_M_worthOf.2.1 88 = .ok (.ifCond .eq 29, 3) := by decide +kernel
theorem d_M_worthOf_91 : decode y_M_worthOf.2.1 91 = .ok (.aload_n 0, 1) := by decide +kernel
theorem d_M_worthOf_92 : decode y_M_worthOf.2.1 92 = .ok (.iload 4, 2) := by decide +kernel
theorem d_M_worthOf_94 : decode y_M_worthOf.2.1 94 = .ok (.iload_n 3, 1) := by decide +kernel
theorem d_M_worthOf_95 : decode y_M_worthOf.2.1 95 = .ok (.iload_n 1, 1) := by decide +kernel
theorem d_M_worthOf_96 : decode y_M_worthOf.2.1 96 = .ok (.invokevirtual 424, 3) := by decide +kernel
theorem d_M_worthOf_99 : decode y_M_worthOf.2.1 99 = .ok (.istore 5, 2) := by decide +kernel
theorem d_M_worthOf_101 : decode y_M_worthOf.2.1 101 = .ok (.iload 5, 2) := by decide +kernel
theorem d_M_worthOf_103 : decode y_M_worthOf.2.1 103 = .ok (.iconst (-1), 1) := by decide +kernel
theorem d_M_worthOf_104 : decode y_M_worthOf.2.1 104 = .ok (.if_icmp .ne 5, 3) := by decide +kernel
theorem d_M_worthOf_107 : decode y_M_worthOf.2.1 107 = .ok (.iconst (-1), 1) := by decide +kernel
theorem d_M_worthOf_108 : decode y_M_worthOf.2.1 108 = .ok (.ireturn, 1) := by decide +kernel
theorem d_M_worthOf_109 : decode y_M_worthOf.2.1 109 = .ok (.iload_n 2, 1) := by decide +kernel
theorem d_M_worthOf_110 : decode y_M_worthOf.2.1 110 = .ok (.iload 5, 2) := by decide +kernel
theorem d_M_worthOf_112 : decode y_M_worthOf.2.1 112 = .ok (.iadd, 1) := by decide +kernel
theorem d_M_worthOf_113 : decode y_M_worthOf.2.1 113 = .ok (.istore_n 2, 1) := by decide +kernel
theorem d_M_worthOf_114 : decode y_M_worthOf.2.1 114 = .ok (.goto 36, 3) := by decide +kernel
theorem d_M_worthOf_117 : decode y_M_worthOf.2.1 117 = .ok (.aload_n 0, 1) := by decide +kernel
theorem d_M_worthOf_118 : decode y_M_worthOf.2.1 118 = .ok (.iload 4, 2) := by decide +kernel
theorem d_M_worthOf_120 : decode y_M_worthOf.2.1 120 = .ok (.iload_n 3, 1) := by decide +kernel
theorem d_M_worthOf_121 : decode y_M_worthOf.2.1 121 = .ok (.invokestatic 378, 3) := by decide +kernel
theorem d_M_worthOf_124 : decode y_M_worthOf.2.1 124 = .ok (.invokevirtual 421, 3) := by decide +kernel
theorem d_M_worthOf_127 : decode y_M_worthOf.2.1 127 = .ok (.ifCond .eq 23, 3) := by decide +kernel
theorem d_M_worthOf_130 : decode y_M_worthOf.2.1 130 = .ok (.aload_n 0, 1) := by decide +kernel
theorem d_M_worthOf_131 : decode y_M_worthOf.2.1 131 = .ok (.iload 4, 2) := by decide +kernel
theorem d_M_worthOf_133 : decode y_M_worthOf.2.1 133 = .ok (.iload_n 3, 1) := by decide +kernel
theorem d_M_worthOf_134 : decode y_M_worthOf.2.1 134 = .ok (.invokevirtual 372, 3) := by decide +kernel
theorem d_M_worthOf_137 : decode y_M_worthOf.2.1 137 = .ok (.ifCond .ne 13, 3) := by decide +kernel
theorem d_M_worthOf_140 : decode y_M_worthOf.2.1 140 = .ok (.iload_n 2, 1) := by decide +kernel
theorem d_M_worthOf_141 : decode y_M_worthOf.2.1 141 = .ok (.aload_n 0, 1) := by decide +kernel
theorem d_M_worthOf_142 : decode y_M_worthOf.2.1 142 = .ok (.getfield 22, 3) := by decide +kernel
theorem d_M_worthOf_145 : decode y_M_worthOf.2.1 145 = .ok (.iload 4, 2) := by decide +kernel
theorem d_M_worthOf_147 : decode y_M_worthOf.2.1 147 = .ok (.iaload, 1) := by decide +kernel
theorem d_M_worthOf_148 : decode y_M_worthOf.2.1 148 = .ok (.iadd, 1) := by decide +kernel
theorem d_M_worthOf_149 : decode y_M_worthOf.2.1 149 = .ok (.istore_n 2, 1) := by decide +kernel
theorem d_M_worthOf_150 : decode y_M_worthOf.2.1 150 = .ok (.iinc 4 1, 3) := by decide +kernel
theorem d_M_worthOf_153 : decode y_M_worthOf.2.1 153 = .ok (.goto (-84), 3) := by decide +kernel
theorem d_M_worthOf_156 : decode y_M_worthOf.2.1 156 = .ok (.iinc 3 1, 3) := by decide +kernel
theorem d_M_worthOf_159 : decode y_M_worthOf.2.1 159 = .ok (.goto (-98), 3) := by decide +kernel
theorem d_M_worthOf_162 : decode y_M_worthOf.2.1 162 = .ok (.iload_n 2, 1) := by decide +kernel
theorem d_M_worthOf_163 : decode y_M_worthOf.2.1 163 = .ok (.ireturn, 1) := by decide +kernel
theorem d_M_worth_0 : decode y_M_worth.2.1 0 = .ok (.aload_n 0, 1) := by decide +kernel
theorem d_M_worth_1 : decode y_M_worth.2.1 1 = .ok (.iconst 0, 1) := by decide +kernel
theorem d_M_worth_2 : decode y_M_worth.2.1 2 = .ok (.putfield 217, 3) := by decide +kernel
theorem d_M_worth_5 : decode y_M_worth.2.1 5 = .ok (.aload_n 0, 1) := by decide +kernel
theorem d_M_worth_6 : decode y_M_worth.2.1 6 = .ok (.iload 4, 2) := by decide +kernel
theorem d_M_worth_8 : decode y_M_worth.2.1 8 = .ok (.invokevirtual 362, 3) := by decide +kernel
theorem d_M_worth_11 : decode y_M_worth.2.1 11 = .ok (.ifCond .eq 11, 3) := by decide +kernel
theorem d_M_worth_14 : decode y_M_worth.2.1 14 = .ok (.iload 6, 2) := by decide +kernel
theorem d_M_worth_16 : decode y_M_worth.2.1 16 = .ok (.invokestatic 427, 3) := by decide +kernel
theorem d_M_worth_19 : decode y_M_worth.2.1 19 = .ok (.ifCond .ne 9, 3) := by decide +kernel
theorem d_M_worth_22 : decode y_M_worth.2.1 22 = .ok (.aload_n 0, 1) := by decide +kernel
theorem d_M_worth_23 : decode y_M_worth.2.1 23 = .ok (.iconst 1, 1) := by decide +kernel
theorem d_M_worth_24 : decode y_M_worth.2.1 24 = .ok (.invokevirtual 285, 3) := by decide +kernel
theorem d_M_worth_27 : decode y_M_worth.2.1 27 = .ok (.ireturn, 1) := by decide +kernel
theorem d_M_worth_28 : decode y_M_worth.2.1 28 = .ok (.iload_n 1, 1) := by decide +kernel
theorem d_M_worth_29 : decode y_M_worth.2.1 29 = .ok (.iload_n 2, 1) := by decide +kernel
theorem d_M_worth_30 : decode y_M_worth.2.1 30 = .ok (.iload_n 3, 1) := by decide +kernel
theorem d_M_worth_31 : decode y_M_worth.2.1 31 = .ok (.invokestatic 365, 3) := by decide +kernel
theorem d_M_worth_34 : decode y_M_worth.2.1 34 = .ok (.ifCond .eq 11, 3) := by decide +kernel
theorem d_M_worth_37 : decode y_M_worth.2.1 37 = .ok (.iload 5, 2) := by decide +kernel
theorem d_M_worth_39 : decode y_M_worth.2.1 39 = .ok (.invokestatic 305, 3) := by decide +kernel
theorem d_M_worth_42 : decode y_M_worth.2.1 42 = .ok (.ifCond .ne 9, 3) := by decide +kernel
theorem d_M_worth_45 : decode y_M_worth.2.1 45 = .ok (.aload_n 0, 1) := by decide +kernel
theorem d_M_worth_46 : decode y_M_worth.2.1 46 = .ok (.iconst 2, 1) := by decide +kernel
theorem d_M_worth_47 : decode y_M_worth.2.1 47 = .ok (.invokevirtual 285, 3) := by decide +kernel
theorem d_M_worth_50 : decode y_M_worth.2.1 50 = .ok (.ireturn, 1) := by decide +kernel
theorem d_M_worth_51 : decode y_M_worth.2.1 51 = .ok (.aload_n 0, 1) := by decide +kernel
theorem d_M_worth_52 : decode y_M_worth.2.1 52 = .ok (.getfield 208, 3) := by decide +kernel
theorem d_M_worth_55 : decode y_M_worth.2.1 55 = .ok (.iload 6, 2) := by decide +kernel
theorem d_M_worth_57 : decode y_M_worth.2.1 57 = .ok (.iaload, 1) := by decide +kernel
theorem d_M_worth_58 : decode y_M_worth.2.1 58 = .ok (.iconst (-1), 1) := by decide +kernel
theorem d_M_worth_59 : decode y_M_worth.2.1 59 = .ok (.if_icmp .ne 9, 3) := by decide +kernel
theorem d_M_worth_62 : decode y_M_worth.2.1 62 = .ok (.aload_n 0, 1) := by decide +kernel
theorem d_M_worth_63 : decode y_M_worth.2.1 63 = .ok (.iconst 3, 1) := by decide +kernel
theorem d_M_worth_64 : decode y_M_worth.2.1 64 = .ok (.invokevirtual 285, 3) := by decide +kernel
theorem d_M_worth_67 : decode y_M_worth.2.1 67 = .ok (.ireturn, 1) := by decide +kernel
theorem d_M_worth_68 : decode y_M_worth.2.1 68 = .ok (.aload_n 0, 1) := by decide +kernel
theorem d_M_worth_69 : decode y_M_worth.2.1 69 = .ok (.getfield 211, 3) := by decide +kernel
theorem d_M_worth_72 : decode y_M_worth.2.1 72 = .ok (.iload 6, 2) := by decide +kernel
theorem d_M_worth_74 : decode y_M_worth.2.1 74 = .ok (.iaload, 1) := by decide +kernel
theorem d_M_worth_75 : decode y_M_worth.2.1 75 = .ok (.iload 5, 2) := by decide +kernel
theorem d_M_worth_77 : decode y_M_worth.2.1 77 = .ok (.if_icmp .gt 9, 3) := by decide +kernel
theorem d_M_worth_80 : decode y_M_worth.2.1 80 = .ok (.aload_n 0, 1) := by decide +kernel
theorem d_M_worth_81 : decode y_M_worth.2.1 81 = .ok (.iconst 4, 1) := by decide +kernel
theorem d_M_worth_82 : decode y_M_worth.2.1 82 = .ok (.invokevirtual 285, 3) := by decide +kernel
theorem d_M_worth_85 : decode y_M_worth.2.1 85 = .ok (.ireturn, 1) := by decide +kernel
theorem d_M_worth_86 : decode y_M_worth.2.1 86 = .ok (.aload_n 0, 1) := by decide +kernel
theorem d_M_worth_87 : decode y_M_worth.2.1 87 = .ok (.iload_n 1, 1) := by decide +kernel
theorem d_M_worth_88 : decode y_M_worth.2.1 88 = .ok (.iload_n 2, 1) := by decide +kernel
theorem d_M_worth_89 : decode y_M_worth.2.1 89 = .ok (.iload_n 3, 1) := by decide +kernel
theorem d_M_worth_90 : decode y_M_worth.2.1 90 = .ok (.iload 4, 2) := by decide +kernel
theorem d_M_worth_92 : decode y_M_worth.2.1 92 = .ok (.invokevirtual 369, 3) := by decide +kernel
theorem d_M_worth_95 : decode y_M_worth.2.1 95 = .ok (.iconst 0, 1) := by decide +kernel
theorem d_M_worth_96 : decode y_M_worth.2.1 96 = .ok (.istore 7, 2) := by decide +kernel
theorem d_M_worth_98 : decode y_M_worth.2.1 98 = .ok (.iload 7, 2) := by decide +kernel
theorem d_M_worth_100 : decode y_M_worth.2.1 100 = .ok (.iload 5, 2) := by decide +kernel
theorem d_M_worth_102 : decode y_M_worth.2.1 102 = .ok (.if_icmp .gt 34, 3) := by decide +kernel
theorem d_M_worth_105 : decode y_M_worth.2.1 105 = .ok (.aload_n 0, 1) := by decide +kernel
theorem d_M_worth_106 : decode y_M_worth.2.1 106 = .ok (.getfield 174, 3) := by decide +kernel
theorem d_M_worth_109 : decode y_M_worth.2.1 109 = .ok (.iload 7, 2) := by decide +kernel
theorem d_M_worth_111 : decode y_M_worth.2.1 111 = .ok (.aload_n 0, 1) := by decide +kernel
theorem d_M_worth_112 : decode y_M_worth.2.1 112 = .ok (.getfield 214, 3) := by decide +kernel
theorem d_M_worth_115 : decode y_M_worth.2.1 115 = .ok (.bipush 30, 2) := by decide +kernel
theorem d_M_worth_117 : decode y_M_worth.2.1 117 = .ok (.iload 6, 2) := by decide +kernel
theorem d_M_worth_119 : decode y_M_worth.2.1 119 = .ok (.imul, 1) := by decide +kernel
theorem d_M_worth_120 : decode y_M_worth.2.1 120 = .ok (.iload 7, 2) := by decide +kernel
theorem d_M_worth_122 : decode y_M_worth.2.1 122 = .ok (.iadd, 1) := by decide +kernel
theorem d_M_worth_123 : decode y_M_worth.2.1 123 = .ok (.laload, 1) := by decide +kernel
theorem d_M_worth_124 : decode y_M_worth.2.1 124 = .ok (.ldc2_w 430, 3) := by decide +kernel
theorem d_M_worth_127 : decode y_M_worth.2.1 127 = .ok (.land, 1) := by decide +kernel
theorem d_M_worth_128 : decode y_M_worth.2.1 128 = .ok (.l2i, 1) := by decide +kernel
theorem d_M_worth_129 : decode y_M_worth.2.1 129 = .ok (.iastore, 1) := by decide +kernel
theorem d_M_worth_130 : decode y_M_worth.2.1 130 = .ok (.iinc 7 1, 3) := by decide +kernel
theorem d_M_worth_133 : decode y_M_worth.2.1 133 = .ok (.goto (-35), 3) := by decide +kernel
theorem d_M_worth_136 : decode y_M_worth.2.1 136 = .ok (.aload_n 0, 1) := by decide +kernel
theorem d_M_worth_137 : decode y_M_worth.2.1 137 = .ok (.iload 5, 2) := by decide +kernel
theorem d_M_worth_139 : decode y_M_worth.2.1 139 = .ok (.invokevirtual 432, 3) := by decide +kernel
theorem d_M_worth_142 : decode y_M_worth.2.1 142 = .ok (.ireturn, 1) := by decide +kernel
theorem d_M_ones_0 : decode y_M_ones.2.1 0 = .ok (.iconst 0, 1) := by decide +kernel
theorem d_M_ones_1 : decode y_M_ones.2.1 1 = .ok (.istore_n 1, 1) := by decide +kernel
theorem d_M_ones_2 : decode y_M_ones.2.1 2 = .ok (.iload_n 0, 1) := by decide +kernel
theorem d_M_ones_3 : decode y_M_ones.2.1 3 = .ok (.istore_n 2, 1) := by decide +kernel
theorem d_M_ones_4 : decode y_M_ones.2.1 4 = .ok (.iload_n 2, 1) := by decide +kernel
theorem d_M_ones_5 : decode y_M_ones.2.1 5 = .ok (.ifCond .eq 15, 3) := by decide +kernel
theorem d_M_ones_8 : decode y_M_ones.2.1 8 = .ok (.iinc 1 1, 3) := by decide +kernel
theorem d_M_ones_11 : decode y_M_ones.2.1 11 = .ok (.iload_n 2, 1) := by decide +kernel
theorem d_M_ones_12 : decode y_M_ones.2.1 12 = .ok (.iload_n 2, 1) := by decide +kernel
theorem d_M_ones_13 : decode y_M_ones.2.1 13 = .ok (.iconst 1, 1) := by decide +kernel
theorem d_M_ones_14 : decode y_M_ones.2.1 14 = .ok (.isub, 1) := by decide +kernel
theorem d_M_ones_15 : decode y_M_ones.2.1 15 = .ok (.iand, 1) := by decide +kernel
theorem d_M_ones_16 : decode y_M_ones.2.1 16 = .ok (.istore_n 2, 1) := by decide +kernel
theorem d_M_ones_17 : decode y_M_ones.2.1 17 = .ok (.goto (-13), 3) := by decide +kernel
theorem d_M_ones_20 : decode y_M_ones.2.1 20 = .ok (.iload_n 1, 1) := by decide +kernel
theorem d_M_ones_21 : decode y_M_ones.2.1 21 = .ok (.ireturn, 1) := by decide +kernel
theorem d_M_suffices_0 : decode y_M_suffices.2.1 0 = .ok (.aload_n 0, 1) := by decide +kernel
theorem d_M_suffices_1 : decode y_M_suffices.2.1 1 = .ok (.invokevirtual 415, 3) := by decide +kernel
theorem d_M_suffices_4 : decode y_M_suffices.2.1 4 = .ok (.istore 5, 2) := by decide +kernel
theorem d_M_suffices_6 : decode y_M_suffices.2.1 6 = .ok (.iconst 0, 1) := by decide +kernel
theorem d_M_suffices_7 : decode y_M_suffices.2.1 7 = .ok (.istore 6, 2) := by decide +kernel
theorem d_M_suffices_9 : decode y_M_suffices.2.1 9 = .ok (.iload 6, 2) := by decide +kernel
theorem d_M_suffices_11 : decode y_M_suffices.2.1 11 = .ok (.iconst 5, 1) := by decide +kernel
theorem d_M_suffices_12 : decode y_M_suffices.2.1 12 = .ok (.if_icmp .ge 58, 3) := by decide +kernel
theorem d_M_suffices_15 : decode y_M_suffices.2.1 15 = .ok (.iload_n 3, 1) := by decide +kernel
theorem d_M_suffices_16 : decode y_M_suffices.2.1 16 = .ok (.iload 6, 2) := by decide +kernel
theorem d_M_suffices_18 : decode y_M_suffices.2.1 18 = .ok (.ishr, 1) := by decide +kernel
theorem d_M_suffices_19 : decode y_M_suffices.2.1 19 = .ok (.iconst 1, 1) := by decide +kernel
theorem d_M_suffices_20 : decode y_M_suffices.2.1 20 = .ok (.iand, 1) := by decide +kernel
theorem d_M_suffices_21 : decode y_M_suffices.2.1 21 = .ok (.ifCond .ne 6, 3) := by decide +kernel
theorem d_M_suffices_24 : decode y_M_suffices.2.1 24 = .ok (.goto 40, 3) := by decide +kernel
theorem d_M_suffices_27 : decode y_M_suffices.2.1 27 = .ok (.aload_n 0, 1) := by decide +kernel
theorem d_M_suffices_28 : decode y_M_suffices.2.1 28 = .ok (.iload_n 1, 1) := by decide +kernel
theorem d_M_suffices_29 : decode y_M_suffices.2.1 29 = .ok (.iload_n 1, 1) := by decide +kernel
theorem d_M_suffices_30 : decode y_M_suffices.2.1 30 = .ok (.iconst 0, 1) := by decide +kernel
theorem d_M_suffices_31 : decode y_M_suffices.2.1 31 = .ok (.iload 6, 2) := by decide +kernel
theorem d_M_suffices_33 : decode y_M_suffices.2.1 33 = .ok (.iconst 4, 1) := by decide +kernel
theorem d_M_suffices_34 : decode y_M_suffices.2.1 34 = .ok (.if_icmp .ne 7, 3) := by decide +kernel
theorem d_M_suffices_37 : decode y_M_suffices.2.1 37 = .ok (.iconst (-1), 1) := by decide +kernel
theorem d_M_suffices_38 : decode y_M_suffices.2.1 38 = .ok (.goto 5, 3) := by decide +kernel
theorem d_M_suffices_41 : decode y_M_suffices.2.1 41 = .ok (.iload 6, 2) := by decide +kernel
theorem d_M_suffices_43 : decode y_M_suffices.2.1 43 = .ok (.invokevirtual 369, 3) := by decide +kernel
theorem d_M_suffices_46 : decode y_M_suffices.2.1 46 = .ok (.aload_n 0, 1) := by decide +kernel
theorem d_M_suffices_47 : decode y_M_suffices.2.1 47 = .ok (.iload_n 2, 1) := by decide +kernel
theorem d_M_suffices_48 : decode y_M_suffices.2.1 48 = .ok (.aload_n 0, 1) := by decide +kernel
theorem d_M_suffices_49 : decode y_M_suffices.2.1 49 = .ok (.getfield 13, 3) := by decide +kernel
theorem d_M_suffices_52 : decode y_M_suffices.2.1 52 = .ok (.iload 4, 2) := by decide +kernel
theorem d_M_suffices_54 : decode y_M_suffices.2.1 54 = .ok (.invokevirtual 408, 3) := by decide +kernel
theorem d_M_suffices_57 : decode y_M_suffices.2.1 57 = .ok (.iload 5, 2) := by decide +kernel
theorem d_M_suffices_59 : decode y_M_suffices.2.1 59 = .ok (.if_icmp .ge 5, 3) := by decide +kernel
theorem d_M_suffices_62 : decode y_M_suffices.2.1 62 = .ok (.iconst 0, 1) := by decide +kernel
theorem d_M_suffices_63 : decode y_M_suffices.2.1 63 = .ok (.ireturn, 1) := by decide +kernel
theorem d_M_suffices_64 : decode y_M_suffices.2.1 64 = .ok (.iinc 6 1, 3) := by decide +kernel
theorem d_M_suffices_67 : decode y_M_suffices.2.1 67 = .ok (.goto (-58), 3) := by decide +kernel
theorem d_M_suffices_70 : decode y_M_suffices.2.1 70 = .ok (.iconst 1, 1) := by decide +kernel
theorem d_M_suffices_71 : decode y_M_suffices.2.1 71 = .ok (.ireturn, 1) := by decide +kernel
theorem d_M_fewest_0 : decode y_M_fewest.2.1 0 = .ok (.aload_n 0, 1) := by decide +kernel
theorem d_M_fewest_1 : decode y_M_fewest.2.1 1 = .ok (.iconst 0, 1) := by decide +kernel
theorem d_M_fewest_2 : decode y_M_fewest.2.1 2 = .ok (.putfield 217, 3) := by decide +kernel
theorem d_M_fewest_5 : decode y_M_fewest.2.1 5 = .ok (.iload_n 1, 1) := by decide +kernel
theorem d_M_fewest_6 : decode y_M_fewest.2.1 6 = .ok (.invokestatic 314, 3) := by decide +kernel
theorem d_M_fewest_9 : decode y_M_fewest.2.1 9 = .ok (.ifCond .eq 32, 3) := by decide +kernel
theorem d_M_fewest_12 : decode y_M_fewest.2.1 12 = .ok (.iload_n 2, 1) := by decide +kernel
theorem d_M_fewest_13 : decode y_M_fewest.2.1 13 = .ok (.invokestatic 305, 3) := by decide +kernel
theorem d_M_fewest_16 : decode y_M_fewest.2.1 16 = .ok (.ifCond .eq 25, 3) := by decide +kernel
theorem d_M_fewest_19 : decode y_M_fewest.2.1 19 = .ok (.iload_n 3, 1) := by decide +kernel
theorem d_M_fewest_20 : decode y_M_fewest.2.1 20 = .ok (.ifCond .lt 21, 3) := by decide +kernel
theorem d_M_fewest_23 : decode y_M_fewest.2.1 23 = .ok (.iload_n 3, 1) := by decide +kernel
theorem d_M_fewest_24 : decode y_M_fewest.2.1 24 = .ok (.iconst 1, 1) := by decide +kernel
theorem d_M_fewest_25 : decode y_M_fewest.2.1 25 = .ok (.aload_n 0, 1) := by decide +kernel
theorem d_M_fewest_26 : decode y_M_fewest.2.1 26 = .ok (.getfield 253, 3) := by decide +kernel
theorem d_M_fewest_29 : decode y_M_fewest.2.1 29 = .ok (.ishl, 1) := by decide +kernel
theorem d_M_fewest_30 : decode y_M_fewest.2.1 30 = .ok (.iconst 1, 1) := by decide +kernel
theorem d_M_fewest_31 : decode y_M_fewest.2.1 31 = .ok (.isub, 1) := by decide +kernel
theorem d_M_fewest_32 : decode y_M_fewest.2.1 32 = .ok (.bipush 16, 2) := by decide +kernel
theorem d_M_fewest_34 : decode y_M_fewest.2.1 34 = .ok (.ior, 1) := by decide +kernel
theorem d_M_fewest_35 : decode y_M_fewest.2.1 35 = .ok (.iconst (-1), 1) := by decide +kernel
theorem d_M_fewest_36 : decode y_M_fewest.2.1 36 = .ok (.ixor, 1) := by decide +kernel
theorem d_M_fewest_37 : decode y_M_fewest.2.1 37 = .ok (.iand, 1) := by decide +kernel
theorem d_M_fewest_38 : decode y_M_fewest.2.1 38 = .ok (.ifCond .eq 9, 3) := by decide +kernel
theorem d_M_fewest_41 : decode y_M_fewest.2.1 41 = .ok (.aload_n 0, 1) := by decide +kernel
theorem d_M_fewest_42 : decode y_M_fewest.2.1 42 = .ok (.iconst 1, 1) := by decide +kernel
theorem d_M_fewest_43 : decode y_M_fewest.2.1 43 = .ok (.invokevirtual 285, 3) := by decide +kernel
theorem d_M_fewest_46 : decode y_M_fewest.2.1 46 = .ok (.ireturn, 1) := by decide +kernel
theorem d_M_fewest_47 : decode y_M_fewest.2.1 47 = .ok (.iconst (-1), 1) := by decide +kernel
theorem d_M_fewest_48 : decode y_M_fewest.2.1 48 = .ok (.istore 4, 2) := by decide +kernel
theorem d_M_fewest_50 : decode y_M_fewest.2.1 50 = .ok (.iconst 0, 1) := by decide +kernel
theorem d_M_fewest_51 : decode y_M_fewest.2.1 51 = .ok (.istore 5, 2) := by decide +kernel
theorem d_M_fewest_53 : decode y_M_fewest.2.1 53 = .ok (.iconst 0, 1) := by decide +kernel
theorem d_M_fewest_54 : decode y_M_fewest.2.1 54 = .ok (.istore 6, 2) := by decide +kernel
theorem d_M_fewest_56 : decode y_M_fewest.2.1 56 = .ok (.iload 6, 2) := by decide +kernel
theorem d_M_fewest_58 : decode y_M_fewest.2.1 58 = .ok (.aload_n 0, 1) := by decide +kernel
theorem d_M_fewest_59 : decode y_M_fewest.2.1 59 = .ok (.getfield 269, 3) := by decide +kernel
theorem d_M_fewest_62 : decode y_M_fewest.2.1 62 = .ok (.if_icmp .gt 147, 3) := by decide +kernel
theorem d_M_fewest_65 : decode y_M_fewest.2.1 65 = .ok (.iload 4, 2) := by decide +kernel
theorem d_M_fewest_67 : decode y_M_fewest.2.1 67 = .ok (.iconst (-1), 1) := by decide +kernel
theorem d_M_fewest_68 : decode y_M_fewest.2.1 68 = .ok (.if_icmp .ne 141, 3) := by decide +kernel
theorem d_M_fewest_71 : decode y_M_fewest.2.1 71 = .ok (.iconst 0, 1) := by decide +kernel
theorem d_M_fewest_72 : decode y_M_fewest.2.1 72 = .ok (.istore 7, 2) := by decide +kernel
theorem d_M_fewest_74 : decode y_M_fewest.2.1 74 = .ok (.iload 7, 2) := by decide +kernel
theorem d_M_fewest_76 : decode y_M_fewest.2.1 76 = .ok (.iconst 1, 1) := by decide +kernel
theorem d_M_fewest_77 : decode y_M_fewest.2.1 77 = .ok (.aload_n 0, 1) := by decide +kernel
theorem d_M_fewest_78 : decode y_M_fewest.2.1 78 = .ok (.getfield 269, 3) := by decide +kernel
theorem d_M_fewest_81 : decode y_M_fewest.2.1 81 = .ok (.ishl, 1) := by decide +kernel
theorem d_M_fewest_82 : decode y_M_fewest.2.1 82 = .ok (.if_icmp .ge 121, 3) := by decide +kernel
theorem d_M_fewest_85 : decode y_M_fewest.2.1 85 = .ok (.iload 7, 2) := by decide +kernel
theorem d_M_fewest_87 : decode y_M_fewest.2.1 87 = .ok (.invokestatic 435, 3) := by decide +kernel
theorem d_M_fewest_90 : decode y_M_fewest.2.1 90 = .ok (.iload 6, 2) := by decide +kernel
theorem d_M_fewest_92 : decode y_M_fewest.2.1 92 = .ok (.if_icmp .ne 105, 3) := by decide +kernel
theorem d_M_fewest_95 : decode y_M_fewest.2.1 95 = .ok (.iload 7, 2) := by decide +kernel
theorem d_M_fewest_97 : decode y_M_fewest.2.1 97 = .ok (.aload_n 0, 1) := by decide +kernel
theorem d_M_fewest_98 : decode y_M_fewest.2.1 98 = .ok (.invokevirtual 405, 3) := by decide +kernel
theorem d_M_fewest_101 : decode y_M_fewest.2.1 101 = .ok (.iand, 1) := by decide +kernel
theorem d_M_fewest_102 : decode y_M_fewest.2.1 102 = .ok (.ifCond .eq 6, 3) := by decide +kernel
theorem d_M_fewest_105 : decode y_M_fewest.2.1 105 = .ok (.goto 92, 3) := by decide +kernel
theorem d_M_fewest_108 : decode y_M_fewest.2.1 108 = .ok (.iconst 0, 1) := by decide +kernel
theorem d_M_fewest_109 : decode y_M_fewest.2.1 109 = .ok (.istore 8, 2) := by decide +kernel
theorem d_M_fewest_111 : decode y_M_fewest.2.1 111 = .ok (.iconst 0, 1) := by decide +kernel
theorem d_M_fewest_112 : decode y_M_fewest.2.1 112 = .ok (.istore 9, 2) := by decide +kernel
theorem d_M_fewest_114 : decode y_M_fewest.2.1 114 = .ok (.iload 9, 2) := by decide +kernel
theorem d_M_fewest_116 : decode y_M_fewest.2.1 116 = .ok (.aload_n 0, 1) := by decide +kernel
theorem d_M_fewest_117 : decode y_M_fewest.2.1 117 = .ok (.getfield 269, 3) := by decide +kernel
theorem d_M_fewest_120 : decode y_M_fewest.2.1 120 = .ok (.if_icmp .ge 36, 3) := by decide +kernel
theorem d_M_fewest_123 : decode y_M_fewest.2.1 123 = .ok (.iload 8, 2) := by decide +kernel
theorem d_M_fewest_125 : decode y_M_fewest.2.1 125 = .ok (.iload 7, 2) := by decide +kernel
theorem d_M_fewest_127 : decode y_M_fewest.2.1 127 = .ok (.iload 9, 2) := by decide +kernel
theorem d_M_fewest_129 : decode y_M_fewest.2.1 129 = .ok (.ishr, 1) := by decide +kernel
theorem d_M_fewest_130 : decode y_M_fewest.2.1 130 = .ok (.iconst 1, 1) := by decide +kernel
theorem d_M_fewest_131 : decode y_M_fewest.2.1 131 = .ok (.iand, 1) := by decide +kernel
theorem d_M_fewest_132 : decode y_M_fewest.2.1 132 = .ok (.iconst 1, 1) := by decide +kernel
theorem d_M_fewest_133 : decode y_M_fewest.2.1 133 = .ok (.if_icmp .ne 13, 3) := by decide +kernel
theorem d_M_fewest_136 : decode y_M_fewest.2.1 136 = .ok (.aload_n 0, 1) := by decide +kernel
theorem d_M_fewest_137 : decode y_M_fewest.2.1 137 = .ok (.getfield 104, 3) := by decide +kernel
theorem d_M_fewest_140 : decode y_M_fewest.2.1 140 = .ok (.iload 9, 2) := by decide +kernel
theorem d_M_fewest_142 : decode y_M_fewest.2.1 142 = .ok (.iaload, 1) := by decide +kernel
theorem d_M_fewest_143 : decode y_M_fewest.2.1 143 = .ok (.goto 4, 3) := by decide +kernel
theorem d_M_fewest_146 : decode y_M_fewest.2.1 146 = .ok (.iconst 0, 1) := by decide +kernel
theorem d_M_fewest_147 : decode y_M_fewest.2.1 147 = .ok (.iadd, 1) := by decide +kernel
theorem d_M_fewest_148 : decode y_M_fewest.2.1 148 = .ok (.istore 8, 2) := by decide +kernel
theorem d_M_fewest_150 : decode y_M_fewest.2.1 150 = .ok (.iinc 9 1, 3) := by decide +kernel
theorem d_M_fewest_153 : decode y_M_fewest.2.1 153 = .ok (.goto (-39), 3) := by decide +kernel
theorem d_M_fewest_156 : decode y_M_fewest.2.1 156 = .ok (.iload 4, 2) := by decide +kernel
theorem d_M_fewest_158 : decode y_M_fewest.2.1 158 = .ok (.iconst (-1), 1) := by decide +kernel
theorem d_M_fewest_159 : decode y_M_fewest.2.1 159 = .ok (.if_icmp .eq 10, 3) := by decide +kernel
theorem d_M_fewest_162 : decode y_M_fewest.2.1 162 = .ok (.iload 8, 2) := by decide +kernel
theorem d_M_fewest_164 : decode y_M_fewest.2.1 164 = .ok (.iload 5, 2) := by decide +kernel
theorem d_M_fewest_166 : decode y_M_fewest.2.1 166 = .ok (.if_icmp .ge 31, 3) := by decide +kernel
theorem d_M_fewest_169 : decode y_M_fewest.2.1 169 = .ok (.aload_n 0, 1) := by decide +kernel
theorem d_M_fewest_170 : decode y_M_fewest.2.1 170 = .ok (.iload_n 1, 1) := by decide +kernel
theorem d_M_fewest_171 : decode y_M_fewest.2.1 171 = .ok (.iload_n 2, 1) := by decide +kernel
theorem d_M_fewest_172 : decode y_M_fewest.2.1 172 = .ok (.iload_n 3, 1) := by decide +kernel
theorem d_M_fewest_173 : decode y_M_fewest.2.1 173 = .ok (.iload 7, 2) := by decide +kernel
theorem d_M_fewest_175 : decode y_M_fewest.2.1 175 = .ok (.aload_n 0, 1) := by decide +kernel
theorem d_M_fewest_176 : decode y_M_fewest.2.1 176 = .ok (.invokevirtual 405, 3) := by decide +kernel
theorem d_M_fewest_179 : decode y_M_fewest.2.1 179 = .ok (.ior, 1) := by decide +kernel
theorem d_M_fewest_180 : decode y_M_fewest.2.1 180 = .ok (.invokevirtual 438, 3) := by decide +kernel
theorem d_M_fewest_183 : decode y_M_fewest.2.1 183 = .ok (.ifCond .ne 6, 3) := by decide +kernel
theorem d_M_fewest_186 : decode y_M_fewest.2.1 186 = .ok (.goto 11, 3) := by decide +kernel
theorem d_M_fewest_189 : decode y_M_fewest.2.1 189 = .ok (.iload 7, 2) := by decide +kernel
theorem d_M_fewest_191 : decode y_M_fewest.2.1 191 = .ok (.istore 4, 2) := by decide +kernel
theorem d_M_fewest_193 : decode y_M_fewest.2.1 193 = .ok (.iload 8, 2) := by decide +kernel
theorem d_M_fewest_195 : decode y_M_fewest.2.1 195 = .ok (.istore 5, 2) := by decide +kernel
theorem d_M_fewest_197 : decode y_M_fewest.2.1 197 = .ok (.iinc 7 1, 3) := by decide +kernel
theorem d_M_fewest_200 : decode y_M_fewest.2.1 200 = .ok (.goto (-126), 3) := by decide +kernel
theorem d_M_fewest_203 : decode y_M_fewest.2.1 203 = .ok (.iinc 6 1, 3) := by decide +kernel
theorem d_M_fewest_206 : decode y_M_fewest.2.1 206 = .ok (.goto (-150), 3) := by decide +kernel
theorem d_M_fewest_209 : decode y_M_fewest.2.1 209 = .ok (.iload 4, 2) := by decide +kernel
theorem d_M_fewest_211 : decode y_M_fewest.2.1 211 = .ok (.ireturn, 1) := by decide +kernel
theorem d_M_listens_0 : decode y_M_listens.2.1 0 = .ok (.aload_n 0, 1) := by decide +kernel
theorem d_M_listens_1 : decode y_M_listens.2.1 1 = .ok (.iload_n 1, 1) := by decide +kernel
theorem d_M_listens_2 : decode y_M_listens.2.1 2 = .ok (.iload_n 1, 1) := by decide +kernel
theorem d_M_listens_3 : decode y_M_listens.2.1 3 = .ok (.iconst 0, 1) := by decide +kernel
theorem d_M_listens_4 : decode y_M_listens.2.1 4 = .ok (.iload_n 2, 1) := by decide +kernel
theorem d_M_listens_5 : decode y_M_listens.2.1 5 = .ok (.invokevirtual 369, 3) := by decide +kernel
theorem d_M_listens_8 : decode y_M_listens.2.1 8 = .ok (.bipush 21, 2) := by decide +kernel
theorem d_M_listens_10 : decode y_M_listens.2.1 10 = .ok (.iload_n 2, 1) := by decide +kernel
theorem d_M_listens_11 : decode y_M_listens.2.1 11 = .ok (.iconst (-1), 1) := by decide +kernel
theorem d_M_listens_12 : decode y_M_listens.2.1 12 = .ok (.if_icmp .ne 7, 3) := by decide +kernel
theorem d_M_listens_15 : decode y_M_listens.2.1 15 = .ok (.iconst 4, 1) := by decide +kernel
theorem d_M_listens_16 : decode y_M_listens.2.1 16 = .ok (.goto 4, 3) := by decide +kernel
theorem d_M_listens_19 : decode y_M_listens.2.1 19 = .ok (.iload_n 2, 1) := by decide +kernel
theorem d_M_listens_20 : decode y_M_listens.2.1 20 = .ok (.imul, 1) := by decide +kernel
theorem d_M_listens_21 : decode y_M_listens.2.1 21 = .ok (.istore_n 3, 1) := by decide +kernel
theorem d_M_listens_22 : decode y_M_listens.2.1 22 = .ok (.iconst 0, 1) := by decide +kernel
theorem d_M_listens_23 : decode y_M_listens.2.1 23 = .ok (.istore 4, 2) := by decide +kernel
theorem d_M_listens_25 : decode y_M_listens.2.1 25 = .ok (.iload 4, 2) := by decide +kernel
theorem d_M_listens_27 : decode y_M_listens.2.1 27 = .ok (.bipush 20, 2) := by decide +kernel
theorem d_M_listens_29 : decode y_M_listens.2.1 29 = .ok (.if_icmp .gt 100, 3) := by decide +kernel
theorem d_M_listens_32 : decode y_M_listens.2.1 32 = .ok (.aload_n 0, 1) := by decide +kernel
theorem d_M_listens_33 : decode y_M_listens.2.1 33 = .ok (.getfield 177, 3) := by decide +kernel
theorem d_M_listens_36 : decode y_M_listens.2.1 36 = .ok (.iload_n 3, 1) := by decide +kernel
theorem d_M_listens_37 : decode y_M_listens.2.1 37 = .ok (.iload 4, 2) := by decide +kernel
theorem d_M_listens_39 : decode y_M_listens.2.1 39 = .ok (.iadd, 1) := by decide +kernel
theorem d_M_listens_40 : decode y_M_listens.2.1 40 = .ok (.iconst 0, 1) := by decide +kernel
theorem d_M_listens_41 : decode y_M_listens.2.1 41 = .ok (.iastore, 1) := by decide +kernel
theorem d_M_listens_42 : decode y_M_listens.2.1 42 = .ok (.iconst 0, 1) := by decide +kernel
theorem d_M_listens_43 : decode y_M_listens.2.1 43 = .ok (.istore 5, 2) := by decide +kernel
theorem d_M_listens_45 : decode y_M_listens.2.1 45 = .ok (.iload 5, 2) := by decide +kernel
theorem d_M_listens_47 : decode y_M_listens.2.1 47 = .ok (.aload_n 0, 1) := by decide +kernel
theorem d_M_listens_48 : decode y_M_listens.2.1 48 = .ok (.getfield 228, 3) := by decide +kernel
theorem d_M_listens_51 : decode y_M_listens.2.1 51 = .ok (.if_icmp .ge 72, 3) := by decide +kernel
theorem d_M_listens_54 : decode y_M_listens.2.1 54 = .ok (.aload_n 0, 1) := by decide +kernel
theorem d_M_listens_55 : decode y_M_listens.2.1 55 = .ok (.getfield 272, 3) := by decide +kernel
theorem d_M_listens_58 : decode y_M_listens.2.1 58 = .ok (.iload 5, 2) := by decide +kernel
theorem d_M_listens_60 : decode y_M_listens.2.1 60 = .ok (.ishr, 1) := by decide +kernel
theorem d_M_listens_61 : decode y_M_listens.2.1 61 = .ok (.iconst 1, 1) := by decide +kernel
theorem d_M_listens_62 : decode y_M_listens.2.1 62 = .ok (.iand, 1) := by decide +kernel
theorem d_M_listens_63 : decode y_M_listens.2.1 63 = .ok (.iconst 1, 1) := by decide +kernel
theorem d_M_listens_64 : decode y_M_listens.2.1 64 = .ok (.if_icmp .ne 53, 3) := by decide +kernel
theorem d_M_listens_67 : decode y_M_listens.2.1 67 = .ok (.aload_n 0, 1) := by decide +kernel
theorem d_M_listens_68 : decode y_M_listens.2.1 68 = .ok (.getfield 129, 3) := by decide +kernel
theorem d_M_listens_71 : decode y_M_listens.2.1 71 = .ok (.bipush 8, 2) := by decide +kernel
theorem d_M_listens_73 : decode y_M_listens.2.1 73 = .ok (.iload 4, 2) := by decide +kernel
theorem d_M_listens_75 : decode y_M_listens.2.1 75 = .ok (.imul, 1) := by decide +kernel
theorem d_M_listens_76 : decode y_M_listens.2.1 76 = .ok (.iload 5, 2) := by decide +kernel
theorem d_M_listens_78 : decode y_M_listens.2.1 78 = .ok (.iadd, 1) := by decide +kernel
theorem d_M_listens_79 : decode y_M_listens.2.1 79 = .ok (.iaload, 1) := by decide +kernel
theorem d_M_listens_80 : decode y_M_listens.2.1 80 = .ok (.aload_n 0, 1) := by decide +kernel
theorem d_M_listens_81 : decode y_M_listens.2.1 81 = .ok (.getfield 132, 3) := by decide +kernel
theorem d_M_listens_84 : decode y_M_listens.2.1 84 = .ok (.bipush 8, 2) := by decide +kernel
theorem d_M_listens_86 : decode y_M_listens.2.1 86 = .ok (.iload 4, 2) := by decide +kernel
theorem d_M_listens_88 : decode y_M_listens.2.1 88 = .ok (.imul, 1) := by decide +kernel
theorem d_M_listens_89 : decode y_M_listens.2.1 89 = .ok (.iload 5, 2) := by decide +kernel
theorem d_M_listens_91 : decode y_M_listens.2.1 91 = .ok (.iadd, 1) := by decide +kernel
theorem d_M_listens_92 : decode y_M_listens.2.1 92 = .ok (.iaload, 1) := by decide +kernel
theorem d_M_listens_93 : decode y_M_listens.2.1 93 = .ok (.iadd, 1) := by decide +kernel
theorem d_M_listens_94 : decode y_M_listens.2.1 94 = .ok (.aload_n 0, 1) := by decide +kernel
theorem d_M_listens_95 : decode y_M_listens.2.1 95 = .ok (.getfield 16, 3) := by decide +kernel
theorem d_M_listens_98 : decode y_M_listens.2.1 98 = .ok (.if_icmp .lt 19, 3) := by decide +kernel
theorem d_M_listens_101 : decode y_M_listens.2.1 101 = .ok (.aload_n 0, 1) := by decide +kernel
theorem d_M_listens_102 : decode y_M_listens.2.1 102 = .ok (.getfield 177, 3) := by decide +kernel
theorem d_M_listens_105 : decode y_M_listens.2.1 105 = .ok (.iload_n 3, 1) := by decide +kernel
theorem d_M_listens_106 : decode y_M_listens.2.1 106 = .ok (.iload 4, 2) := by decide +kernel
theorem d_M_listens_108 : decode y_M_listens.2.1 108 = .ok (.iadd, 1) := by decide +kernel
theorem d_M_listens_109 : decode y_M_listens.2.1 109 = .ok (.dup2, 1) := by decide +kernel
theorem d_M_listens_110 : decode y_M_listens.2.1 110 = .ok (.iaload, 1) := by decide +kernel
theorem d_M_listens_111 : decode y_M_listens.2.1 111 = .ok (.iconst 1, 1) := by decide +kernel
theorem d_M_listens_112 : decode y_M_listens.2.1 112 = .ok (.iload 5, 2) := by decide +kernel
theorem d_M_listens_114 : decode y_M_listens.2.1 114 = .ok (.ishl, 1) := by decide +kernel
theorem d_M_listens_115 : decode y_M_listens.2.1 115 = .ok (.ior, 1) := by decide +kernel
theorem d_M_listens_116 : decode y_M_listens.2.1 116 = .ok (.iastore, 1) := by decide +kernel
theorem d_M_listens_117 : decode y_M_listens.2.1 117 = .ok (.iinc 5 1, 3) := by decide +kernel
theorem d_M_listens_120 : decode y_M_listens.2.1 120 = .ok (.goto (-75), 3) := by decide +kernel
theorem d_M_listens_123 : decode y_M_listens.2.1 123 = .ok (.iinc 4 1, 3) := by decide +kernel
theorem d_M_listens_126 : decode y_M_listens.2.1 126 = .ok (.goto (-101), 3) := by decide +kernel
theorem d_M_listens_129 : decode y_M_listens.2.1 129 = .ok (.return_, 1) := by decide +kernel
theorem d_M_areAlike_0 : decode y_M_areAlike.2.1 0 = .ok (.bipush 21, 2) := by decide +kernel
theorem d_M_areAlike_2 : decode y_M_areAlike.2.1 2 = .ok (.iload_n 2, 1) := by decide +kernel
theorem d_M_areAlike_3 : decode y_M_areAlike.2.1 3 = .ok (.iconst (-1), 1) := by decide +kernel
theorem d_M_areAlike_4 : decode y_M_areAlike.2.1 4 = .ok (.if_icmp .ne 7, 3) := by decide +kernel
theorem d_M_areAlike_7 : decode y_M_areAlike.2.1 7 = .ok (.iconst 4, 1) := by decide +kernel
theorem d_M_areAlike_8 : decode y_M_areAlike.2.1 8 = .ok (.goto 4, 3) := by decide +kernel
theorem d_M_areAlike_11 : decode y_M_areAlike.2.1 11 = .ok (.iload_n 2, 1) := by decide +kernel
theorem d_M_areAlike_12 : decode y_M_areAlike.2.1 12 = .ok (.imul, 1) := by decide +kernel
theorem d_M_areAlike_13 : decode y_M_areAlike.2.1 13 = .ok (.istore 4, 2) := by decide +kernel
theorem d_M_areAlike_15 : decode y_M_areAlike.2.1 15 = .ok (.bipush 21, 2) := by decide +kernel
theorem d_M_areAlike_17 : decode y_M_areAlike.2.1 17 = .ok (.iload_n 3, 1) := by decide +kernel
theorem d_M_areAlike_18 : decode y_M_areAlike.2.1 18 = .ok (.iconst (-1), 1) := by decide +kernel
theorem d_M_areAlike_19 : decode y_M_areAlike.2.1 19 = .ok (.if_icmp .ne 7, 3) := by decide +kernel
theorem d_M_areAlike_22 : decode y_M_areAlike.2.1 22 = .ok (.iconst 4, 1) := by decide +kernel
theorem d_M_areAlike_23 : decode y_M_areAlike.2.1 23 = .ok (.goto 4, 3) := by decide +kernel
theorem d_M_areAlike_26 : decode y_M_areAlike.2.1 26 = .ok (.iload_n 3, 1) := by decide +kernel
theorem d_M_areAlike_27 : decode y_M_areAlike.2.1 27 = .ok (.imul, 1) := by decide +kernel
theorem d_M_areAlike_28 : decode y_M_areAlike.2.1 28 = .ok (.istore 5, 2) := by decide +kernel
theorem d_M_areAlike_30 : decode y_M_areAlike.2.1 30 = .ok (.iconst 0, 1) := by decide +kernel
theorem d_M_areAlike_31 : decode y_M_areAlike.2.1 31 = .ok (.istore 6, 2) := by decide +kernel
theorem d_M_areAlike_33 : decode y_M_areAlike.2.1 33 = .ok (.iload 6, 2) := by decide +kernel
theorem d_M_areAlike_35 : decode y_M_areAlike.2.1 35 = .ok (.bipush 20, 2) := by decide +kernel
theorem d_M_areAlike_37 : decode y_M_areAlike.2.1 37 = .ok (.iload_n 1, 1) := by decide +kernel
theorem d_M_areAlike_38 : decode y_M_areAlike.2.1 38 = .ok (.aload_n 0, 1) := by decide +kernel
theorem d_M_areAlike_39 : decode y_M_areAlike.2.1 39 = .ok (.getfield 19, 3) := by decide +kernel
theorem d_M_areAlike_42 : decode y_M_areAlike.2.1 42 = .ok (.isub, 1) := by decide +kernel
theorem d_M_areAlike_43 : decode y_M_areAlike.2.1 43 = .ok (.invokestatic 325, 3) := by decide +kernel
theorem d_M_areAlike_46 : decode y_M_areAlike.2.1 46 = .ok (.if_icmp .gt 34, 3) := by decide +kernel
theorem d_M_areAlike_49 : decode y_M_areAlike.2.1 49 = .ok (.aload_n 0, 1) := by decide +kernel
theorem d_M_areAlike_50 : decode y_M_areAlike.2.1 50 = .ok (.getfield 177, 3) := by decide +kernel
theorem d_M_areAlike_53 : decode y_M_areAlike.2.1 53 = .ok (.iload 4, 2) := by decide +kernel
theorem d_M_areAlike_55 : decode y_M_areAlike.2.1 55 = .ok (.iload 6, 2) := by decide +kernel
theorem d_M_areAlike_57 : decode y_M_areAlike.2.1 57 = .ok (.iadd, 1) := by decide +kernel
theorem d_M_areAlike_58 : decode y_M_areAlike.2.1 58 = .ok (.iaload, 1) := by decide +kernel
theorem d_M_areAlike_59 : decode y_M_areAlike.2.1 59 = .ok (.aload_n 0, 1) := by decide +kernel
theorem d_M_areAlike_60 : decode y_M_areAlike.2.1 60 = .ok (.getfield 177, 3) := by decide +kernel
theorem d_M_areAlike_63 : decode y_M_areAlike.2.1 63 = .ok (.iload 5, 2) := by decide +kernel
theorem d_M_areAlike_65 : decode y_M_areAlike.2.1 65 = .ok (.iload 6, 2) := by decide +kernel
theorem d_M_areAlike_67 : decode y_M_areAlike.2.1 67 = .ok (.iadd, 1) := by decide +kernel
theorem d_M_areAlike_68 : decode y_M_areAlike.2.1 68 = .ok (.iaload, 1) := by decide +kernel
theorem d_M_areAlike_69 : decode y_M_areAlike.2.1 69 = .ok (.if_icmp .eq 5, 3) := by decide +kernel
theorem d_M_areAlike_72 : decode y_M_areAlike.2.1 72 = .ok (.iconst 0, 1) := by decide +kernel
theorem d_M_areAlike_73 : decode y_M_areAlike.2.1 73 = .ok (.ireturn, 1) := by decide +kernel
theorem d_M_areAlike_74 : decode y_M_areAlike.2.1 74 = .ok (.iinc 6 1, 3) := by decide +kernel
theorem d_M_areAlike_77 : decode y_M_areAlike.2.1 77 = .ok (.goto (-44), 3) := by decide +kernel
theorem d_M_areAlike_80 : decode y_M_areAlike.2.1 80 = .ok (.iconst 1, 1) := by decide +kernel
theorem d_M_areAlike_81 : decode y_M_areAlike.2.1 81 = .ok (.ireturn, 1) := by decide +kernel
theorem d_M_alike_0 : decode y_M_alike.2.1 0 = .ok (.aload_n 0, 1) := by decide +kernel
theorem d_M_alike_1 : decode y_M_alike.2.1 1 = .ok (.aload_n 0, 1) := by decide +kernel
theorem d_M_alike_2 : decode y_M_alike.2.1 2 = .ok (.iload_n 3, 1) := by decide +kernel
theorem d_M_alike_3 : decode y_M_alike.2.1 3 = .ok (.invokevirtual 362, 3) := by decide +kernel
theorem d_M_alike_6 : decode y_M_alike.2.1 6 = .ok (.ifCond .eq 12, 3) := by decide +kernel
theorem d_M_alike_9 : decode y_M_alike.2.1 9 = .ok (.aload_n 0, 1) := by decide +kernel
theorem d_M_alike_10 : decode y_M_alike.2.1 10 = .ok (.iload 4, 2) := by decide +kernel
theorem d_M_alike_12 : decode y_M_alike.2.1 12 = .ok (.invokevirtual 362, 3) := by decide +kernel
theorem d_M_alike_15 : decode y_M_alike.2.1 15 = .ok (.ifCond .ne 7, 3) := by decide +kernel
theorem d_M_alike_18 : decode y_M_alike.2.1 18 = .ok (.iconst 1, 1) := by decide +kernel
theorem d_M_alike_19 : decode y_M_alike.2.1 19 = .ok (.goto 22, 3) := by decide +kernel
theorem d_M_alike_22 : decode y_M_alike.2.1 22 = .ok (.iload_n 1, 1) := by decide +kernel
theorem d_M_alike_23 : decode y_M_alike.2.1 23 = .ok (.invokestatic 314, 3) := by decide +kernel
theorem d_M_alike_26 : decode y_M_alike.2.1 26 = .ok (.ifCond .eq 10, 3) := by decide +kernel
theorem d_M_alike_29 : decode y_M_alike.2.1 29 = .ok (.iload_n 2, 1) := by decide +kernel
theorem d_M_alike_30 : decode y_M_alike.2.1 30 = .ok (.invokestatic 305, 3) := by decide +kernel
theorem d_M_alike_33 : decode y_M_alike.2.1 33 = .ok (.ifCond .ne 7, 3) := by decide +kernel
theorem d_M_alike_36 : decode y_M_alike.2.1 36 = .ok (.iconst 2, 1) := by decide +kernel
theorem d_M_alike_37 : decode y_M_alike.2.1 37 = .ok (.goto 4, 3) := by decide +kernel
theorem d_M_alike_40 : decode y_M_alike.2.1 40 = .ok (.iconst 0, 1) := by decide +kernel
theorem d_M_alike_41 : decode y_M_alike.2.1 41 = .ok (.putfield 217, 3) := by decide +kernel
theorem d_M_alike_44 : decode y_M_alike.2.1 44 = .ok (.aload_n 0, 1) := by decide +kernel
theorem d_M_alike_45 : decode y_M_alike.2.1 45 = .ok (.getfield 217, 3) := by decide +kernel
theorem d_M_alike_48 : decode y_M_alike.2.1 48 = .ok (.ifCond .le 5, 3) := by decide +kernel
theorem d_M_alike_51 : decode y_M_alike.2.1 51 = .ok (.iconst 0, 1) := by decide +kernel
theorem d_M_alike_52 : decode y_M_alike.2.1 52 = .ok (.ireturn, 1) := by decide +kernel
theorem d_M_alike_53 : decode y_M_alike.2.1 53 = .ok (.aload_n 0, 1) := by decide +kernel
theorem d_M_alike_54 : decode y_M_alike.2.1 54 = .ok (.iload_n 1, 1) := by decide +kernel
theorem d_M_alike_55 : decode y_M_alike.2.1 55 = .ok (.iload_n 3, 1) := by decide +kernel
theorem d_M_alike_56 : decode y_M_alike.2.1 56 = .ok (.invokevirtual 442, 3) := by decide +kernel
theorem d_M_alike_59 : decode y_M_alike.2.1 59 = .ok (.aload_n 0, 1) := by decide +kernel
theorem d_M_alike_60 : decode y_M_alike.2.1 60 = .ok (.iload_n 1, 1) := by decide +kernel
theorem d_M_alike_61 : decode y_M_alike.2.1 61 = .ok (.iload 4, 2) := by decide +kernel
theorem d_M_alike_63 : decode y_M_alike.2.1 63 = .ok (.invokevirtual 442, 3) := by decide +kernel
theorem d_M_alike_66 : decode y_M_alike.2.1 66 = .ok (.aload_n 0, 1) := by decide +kernel
theorem d_M_alike_67 : decode y_M_alike.2.1 67 = .ok (.iload_n 2, 1) := by decide +kernel
theorem d_M_alike_68 : decode y_M_alike.2.1 68 = .ok (.iload_n 3, 1) := by decide +kernel
theorem d_M_alike_69 : decode y_M_alike.2.1 69 = .ok (.iload 4, 2) := by decide +kernel
theorem d_M_alike_71 : decode y_M_alike.2.1 71 = .ok (.invokevirtual 445, 3) := by decide +kernel
theorem d_M_alike_74 : decode y_M_alike.2.1 74 = .ok (.ireturn, 1) := by decide +kernel
theorem d_M_bestOut_0 : decode y_M_bestOut.2.1 0 = .ok (.iconst 0, 1) := by decide +kernel
theorem d_M_bestOut_1 : decode y_M_bestOut.2.1 1 = .ok (.istore_n 3, 1) := by decide +kernel
theorem d_M_bestOut_2 : decode y_M_bestOut.2.1 2 = .ok (.iconst 0, 1) := by decide +kernel
theorem d_M_bestOut_3 : decode y_M_bestOut.2.1 3 = .ok (.istore 4, 2) := by decide +kernel
theorem d_M_bestOut_5 : decode y_M_bestOut.2.1 5 = .ok (.iload 4, 2) := by decide +kernel
theorem d_M_bestOut_7 : decode y_M_bestOut.2.1 7 = .ok (.iconst 4, 1) := by decide +kernel
theorem d_M_bestOut_8 : decode y_M_bestOut.2.1 8 = .ok (.if_icmp .ge 25, 3) := by decide +kernel
theorem d_M_bestOut_11 : decode y_M_bestOut.2.1 11 = .ok (.iload_n 3, 1) := by decide +kernel
theorem d_M_bestOut_12 : decode y_M_bestOut.2.1 12 = .ok (.aload_n 0, 1) := by decide +kernel
theorem d_M_bestOut_13 : decode y_M_bestOut.2.1 13 = .ok (.iload 4, 2) := by decide +kernel
theorem d_M_bestOut_15 : decode y_M_bestOut.2.1 15 = .ok (.iload 4, 2) := by decide +kernel
theorem d_M_bestOut_17 : decode y_M_bestOut.2.1 17 = .ok (.iconst 0, 1) := by decide +kernel
theorem d_M_bestOut_18 : decode y_M_bestOut.2.1 18 = .ok (.iload_n 1, 1) := by decide +kernel
theorem d_M_bestOut_19 : decode y_M_bestOut.2.1 19 = .ok (.iload_n 2, 1) := by decide +kernel
theorem d_M_bestOut_20 : decode y_M_bestOut.2.1 20 = .ok (.invokevirtual 411, 3) := by decide +kernel
theorem d_M_bestOut_23 : decode y_M_bestOut.2.1 23 = .ok (.invokestatic 244, 3) := by decide +kernel
theorem d_M_bestOut_26 : decode y_M_bestOut.2.1 26 = .ok (.istore_n 3, 1) := by decide +kernel
theorem d_M_bestOut_27 : decode y_M_bestOut.2.1 27 = .ok (.iinc 4 1, 3) := by decide +kernel
theorem d_M_bestOut_30 : decode y_M_bestOut.2.1 30 = .ok (.goto (-25), 3) := by decide +kernel
theorem d_M_bestOut_33 : decode y_M_bestOut.2.1 33 = .ok (.iload_n 3, 1) := by decide +kernel
theorem d_M_bestOut_34 : decode y_M_bestOut.2.1 34 = .ok (.ireturn, 1) := by decide +kernel
theorem d_M_regret_0 : decode y_M_regret.2.1 0 = .ok (.aload_n 0, 1) := by decide +kernel
theorem d_M_regret_1 : decode y_M_regret.2.1 1 = .ok (.iconst 0, 1) := by decide +kernel
theorem d_M_regret_2 : decode y_M_regret.2.1 2 = .ok (.putfield 217, 3) := by decide +kernel
theorem d_M_regret_5 : decode y_M_regret.2.1 5 = .ok (.aload_n 0, 1) := by decide +kernel
theorem d_M_regret_6 : decode y_M_regret.2.1 6 = .ok (.iload 4, 2) := by decide +kernel
theorem d_M_regret_8 : decode y_M_regret.2.1 8 = .ok (.invokevirtual 362, 3) := by decide +kernel
theorem d_M_regret_11 : decode y_M_regret.2.1 11 = .ok (.ifCond .ne 9, 3) := by decide +kernel
theorem d_M_regret_14 : decode y_M_regret.2.1 14 = .ok (.aload_n 0, 1) := by decide +kernel
theorem d_M_regret_15 : decode y_M_regret.2.1 15 = .ok (.iconst 1, 1) := by decide +kernel
theorem d_M_regret_16 : decode y_M_regret.2.1 16 = .ok (.invokevirtual 285, 3) := by decide +kernel
theorem d_M_regret_19 : decode y_M_regret.2.1 19 = .ok (.ireturn, 1) := by decide +kernel
theorem d_M_regret_20 : decode y_M_regret.2.1 20 = .ok (.iload_n 1, 1) := by decide +kernel
theorem d_M_regret_21 : decode y_M_regret.2.1 21 = .ok (.iload_n 2, 1) := by decide +kernel
theorem d_M_regret_22 : decode y_M_regret.2.1 22 = .ok (.iload_n 3, 1) := by decide +kernel
theorem d_M_regret_23 : decode y_M_regret.2.1 23 = .ok (.invokestatic 365, 3) := by decide +kernel
theorem d_M_regret_26 : decode y_M_regret.2.1 26 = .ok (.ifCond .eq 11, 3) := by decide +kernel
theorem d_M_regret_29 : decode y_M_regret.2.1 29 = .ok (.iload 5, 2) := by decide +kernel
theorem d_M_regret_31 : decode y_M_regret.2.1 31 = .ok (.invokestatic 305, 3) := by decide +kernel
theorem d_M_regret_34 : decode y_M_regret.2.1 34 = .ok (.ifCond .ne 9, 3) := by decide +kernel
theorem d_M_regret_37 : decode y_M_regret.2.1 37 = .ok (.aload_n 0, 1) := by decide +kernel
theorem d_M_regret_38 : decode y_M_regret.2.1 38 = .ok (.iconst 2, 1) := by decide +kernel
theorem d_M_regret_39 : decode y_M_regret.2.1 39 = .ok (.invokevirtual 285, 3) := by decide +kernel
theorem d_M_regret_42 : decode y_M_regret.2.1 42 = .ok (.ireturn, 1) := by decide +kernel
theorem d_M_regret_43 : decode y_M_regret.2.1 43 = .ok (.aload_n 0, 1) := by decide +kernel
theorem d_M_regret_44 : decode y_M_regret.2.1 44 = .ok (.iload 4, 2) := by decide +kernel
theorem d_M_regret_46 : decode y_M_regret.2.1 46 = .ok (.iload 5, 2) := by decide +kernel
theorem d_M_regret_48 : decode y_M_regret.2.1 48 = .ok (.invokevirtual 448, 3) := by decide +kernel
theorem d_M_regret_51 : decode y_M_regret.2.1 51 = .ok (.aload_n 0, 1) := by decide +kernel
theorem d_M_regret_52 : decode y_M_regret.2.1 52 = .ok (.iload_n 1, 1) := by decide +kernel
theorem d_M_regret_53 : decode y_M_regret.2.1 53 = .ok (.iload_n 2, 1) := by decide +kernel
theorem d_M_regret_54 : decode y_M_regret.2.1 54 = .ok (.iload_n 3, 1) := by decide +kernel
theorem d_M_regret_55 : decode y_M_regret.2.1 55 = .ok (.iload 4, 2) := by decide +kernel
theorem d_M_regret_57 : decode y_M_regret.2.1 57 = .ok (.iload 5, 2) := by decide +kernel
theorem d_M_regret_59 : decode y_M_regret.2.1 59 = .ok (.invokevirtual 411, 3) := by decide +kernel
theorem d_M_regret_62 : decode y_M_regret.2.1 62 = .ok (.isub, 1) := by decide +kernel
theorem d_M_regret_63 : decode y_M_regret.2.1 63 = .ok (.ireturn, 1) := by decide +kernel
theorem d_M_turns_0 : decode y_M_turns.2.1 0 = .ok (.iconst 0, 1) := by decide +kernel
theorem d_M_turns_1 : decode y_M_turns.2.1 1 = .ok (.istore 4, 2) := by decide +kernel
theorem d_M_turns_3 : decode y_M_turns.2.1 3 = .ok (.iload 4, 2) := by decide +kernel
theorem d_M_turns_5 : decode y_M_turns.2.1 5 = .ok (.aload_n 0, 1) := by decide +kernel
theorem d_M_turns_6 : decode y_M_turns.2.1 6 = .ok (.getfield 253, 3) := by decide +kernel
theorem d_M_turns_9 : decode y_M_turns.2.1 9 = .ok (.if_icmp .ge 66, 3) := by decide +kernel
theorem d_M_turns_12 : decode y_M_turns.2.1 12 = .ok (.aload_n 0, 1) := by decide +kernel
theorem d_M_turns_13 : decode y_M_turns.2.1 13 = .ok (.iload 4, 2) := by decide +kernel
theorem d_M_turns_15 : decode y_M_turns.2.1 15 = .ok (.iload_n 3, 1) := by decide +kernel
theorem d_M_turns_16 : decode y_M_turns.2.1 16 = .ok (.invokevirtual 448, 3) := by decide +kernel
theorem d_M_turns_19 : decode y_M_turns.2.1 19 = .ok (.istore 5, 2) := by decide +kernel
theorem d_M_turns_21 : decode y_M_turns.2.1 21 = .ok (.iconst 0, 1) := by decide +kernel
theorem d_M_turns_22 : decode y_M_turns.2.1 22 = .ok (.istore 6, 2) := by decide +kernel
theorem d_M_turns_24 : decode y_M_turns.2.1 24 = .ok (.iload 6, 2) := by decide +kernel
theorem d_M_turns_26 : decode y_M_turns.2.1 26 = .ok (.iconst 4, 1) := by decide +kernel
theorem d_M_turns_27 : decode y_M_turns.2.1 27 = .ok (.if_icmp .ge 35, 3) := by decide +kernel
theorem d_M_turns_30 : decode y_M_turns.2.1 30 = .ok (.aload_n 0, 1) := by decide +kernel
theorem d_M_turns_31 : decode y_M_turns.2.1 31 = .ok (.getfield 180, 3) := by decide +kernel
theorem d_M_turns_34 : decode y_M_turns.2.1 34 = .ok (.iconst 4, 1) := by decide +kernel
theorem d_M_turns_35 : decode y_M_turns.2.1 35 = .ok (.iload 4, 2) := by decide +kernel
theorem d_M_turns_37 : decode y_M_turns.2.1 37 = .ok (.imul, 1) := by decide +kernel
theorem d_M_turns_38 : decode y_M_turns.2.1 38 = .ok (.iload 6, 2) := by decide +kernel
theorem d_M_turns_40 : decode y_M_turns.2.1 40 = .ok (.iadd, 1) := by decide +kernel
theorem d_M_turns_41 : decode y_M_turns.2.1 41 = .ok (.iload 5, 2) := by decide +kernel
theorem d_M_turns_43 : decode y_M_turns.2.1 43 = .ok (.aload_n 0, 1) := by decide +kernel
theorem d_M_turns_44 : decode y_M_turns.2.1 44 = .ok (.iload_n 1, 1) := by decide +kernel
theorem d_M_turns_45 : decode y_M_turns.2.1 45 = .ok (.iload 6, 2) := by decide +kernel
theorem d_M_turns_47 : decode y_M_turns.2.1 47 = .ok (.iload_n 2, 1) := by decide +kernel
theorem d_M_turns_48 : decode y_M_turns.2.1 48 = .ok (.iload 4, 2) := by decide +kernel
theorem d_M_turns_50 : decode y_M_turns.2.1 50 = .ok (.iload_n 3, 1) := by decide +kernel
theorem d_M_turns_51 : decode y_M_turns.2.1 51 = .ok (.invokevirtual 411, 3) := by decide +kernel
theorem d_M_turns_54 : decode y_M_turns.2.1 54 = .ok (.isub, 1) := by decide +kernel
theorem d_M_turns_55 : decode y_M_turns.2.1 55 = .ok (.iastore, 1) := by decide +kernel
theorem d_M_turns_56 : decode y_M_turns.2.1 56 = .ok (.iinc 6 1, 3) := by decide +kernel
theorem d_M_turns_59 : decode y_M_turns.2.1 59 = .ok (.goto (-35), 3) := by decide +kernel
theorem d_M_turns_62 : decode y_M_turns.2.1 62 = .ok (.aload_n 0, 1) := by decide +kernel
theorem d_M_turns_63 : decode y_M_turns.2.1 63 = .ok (.iload_n 1, 1) := by decide +kernel
theorem d_M_turns_64 : decode y_M_turns.2.1 64 = .ok (.iload 4, 2) := by decide +kernel
theorem d_M_turns_66 : decode y_M_turns.2.1 66 = .ok (.invokevirtual 442, 3) := by decide +kernel
theorem d_M_turns_69 : decode y_M_turns.2.1 69 = .ok (.iinc 4 1, 3) := by decide +kernel
theorem d_M_turns_72 : decode y_M_turns.2.1 72 = .ok (.goto (-69), 3) := by decide +kernel
theorem d_M_turns_75 : decode y_M_turns.2.1 75 = .ok (.ldc_w 453, 3) := by decide +kernel
theorem d_M_turns_78 : decode y_M_turns.2.1 78 = .ok (.istore 4, 2) := by decide +kernel
theorem d_M_turns_80 : decode y_M_turns.2.1 80 = .ok (.iconst 0, 1) := by decide +kernel
theorem d_M_turns_81 : decode y_M_turns.2.1 81 = .ok (.istore 5, 2) := by decide +kernel
theorem d_M_turns_83 : decode y_M_turns.2.1 83 = .ok (.iload 5, 2) := by decide +kernel
theorem d_M_turns_85 : decode y_M_turns.2.1 85 = .ok (.aload_n 0, 1) := by decide +kernel
theorem d_M_turns_86 : decode y_M_turns.2.1 86 = .ok (.getfield 253, 3) := by decide +kernel
theorem d_M_turns_89 : decode y_M_turns.2.1 89 = .ok (.if_icmp .ge 115, 3) := by decide +kernel
theorem d_M_turns_92 : decode y_M_turns.2.1 92 = .ok (.ldc_w 454, 3) := by decide +kernel
theorem d_M_turns_95 : decode y_M_turns.2.1 95 = .ok (.istore 6, 2) := by decide +kernel
theorem d_M_turns_97 : decode y_M_turns.2.1 97 = .ok (.iconst 0, 1) := by decide +kernel
theorem d_M_turns_98 : decode y_M_turns.2.1 98 = .ok (.istore 7, 2) := by decide +kernel
theorem d_M_turns_100 : decode y_M_turns.2.1 100 = .ok (.iload 7, 2) := by decide +kernel
theorem d_M_turns_102 : decode y_M_turns.2.1 102 = .ok (.iconst 4, 1) := by decide +kernel
theorem d_M_turns_103 : decode y_M_turns.2.1 103 = .ok (.if_icmp .ge 86, 3) := by decide +kernel
theorem d_M_turns_106 : decode y_M_turns.2.1 106 = .ok (.ldc_w 453, 3) := by decide +kernel
theorem d_M_turns_109 : decode y_M_turns.2.1 109 = .ok (.istore 8, 2) := by decide +kernel
theorem d_M_turns_111 : decode y_M_turns.2.1 111 = .ok (.iconst 0, 1) := by decide +kernel
theorem d_M_turns_112 : decode y_M_turns.2.1 112 = .ok (.istore 9, 2) := by decide +kernel
theorem d_M_turns_114 : decode y_M_turns.2.1 114 = .ok (.iload 9, 2) := by decide +kernel
theorem d_M_turns_116 : decode y_M_turns.2.1 116 = .ok (.aload_n 0, 1) := by decide +kernel
theorem d_M_turns_117 : decode y_M_turns.2.1 117 = .ok (.getfield 253, 3) := by decide +kernel
theorem d_M_turns_120 : decode y_M_turns.2.1 120 = .ok (.if_icmp .ge 40, 3) := by decide +kernel
theorem d_M_turns_123 : decode y_M_turns.2.1 123 = .ok (.aload_n 0, 1) := by decide +kernel
theorem d_M_turns_124 : decode y_M_turns.2.1 124 = .ok (.iload_n 2, 1) := by decide +kernel
theorem d_M_turns_125 : decode y_M_turns.2.1 125 = .ok (.iload 5, 2) := by decide +kernel
theorem d_M_turns_127 : decode y_M_turns.2.1 127 = .ok (.iload 9, 2) := by decide +kernel
theorem d_M_turns_129 : decode y_M_turns.2.1 129 = .ok (.invokevirtual 445, 3) := by decide +kernel
theorem d_M_turns_132 : decode y_M_turns.2.1 132 = .ok (.ifCond .eq 22, 3) := by decide +kernel
theorem d_M_turns_135 : decode y_M_turns.2.1 135 = .ok (.iload 8, 2) := by decide +kernel
theorem d_M_turns_137 : decode y_M_turns.2.1 137 = .ok (.aload_n 0, 1) := by decide +kernel
theorem d_M_turns_138 : decode y_M_turns.2.1 138 = .ok (.getfield 180, 3) := by decide +kernel
theorem d_M_turns_141 : decode y_M_turns.2.1 141 = .ok (.iconst 4, 1) := by decide +kernel
theorem d_M_turns_142 : decode y_M_turns.2.1 142 = .ok (.iload 9, 2) := by decide +kernel
theorem d_M_turns_144 : decode y_M_turns.2.1 144 = .ok (.imul, 1) := by decide +kernel
theorem d_M_turns_145 : decode y_M_turns.2.1 145 = .ok (.iload 7, 2) := by decide +kernel
theorem d_M_turns_147 : decode y_M_turns.2.1 147 = .ok (.iadd, 1) := by decide +kernel
theorem d_M_turns_148 : decode y_M_turns.2.1 148 = .ok (.iaload, 1) := by decide +kernel
theorem d_M_turns_149 : decode y_M_turns.2.1 149 = .ok (.invokestatic 244, 3) := by decide +kernel
theorem d_M_turns_152 : decode y_M_turns.2.1 152 = .ok (.istore 8, 2) := by decide +kernel
theorem d_M_turns_154 : decode y_M_turns.2.1 154 = .ok (.iinc 9 1, 3) := by decide +kernel
theorem d_M_turns_157 : decode y_M_turns.2.1 157 = .ok (.goto (-43), 3) := by decide +kernel
theorem d_M_turns_160 : decode y_M_turns.2.1 160 = .ok (.iload 8, 2) := by decide +kernel
theorem d_M_turns_162 : decode y_M_turns.2.1 162 = .ok (.iload 6, 2) := by decide +kernel
theorem d_M_turns_164 : decode y_M_turns.2.1 164 = .ok (.if_icmp .lt 6, 3) := by decide +kernel
theorem d_M_turns_167 : decode y_M_turns.2.1 167 = .ok (.goto 16, 3) := by decide +kernel
theorem d_M_turns_170 : decode y_M_turns.2.1 170 = .ok (.iload 8, 2) := by decide +kernel
theorem d_M_turns_172 : decode y_M_turns.2.1 172 = .ok (.istore 6, 2) := by decide +kernel
theorem d_M_turns_174 : decode y_M_turns.2.1 174 = .ok (.aload_n 0, 1) := by decide +kernel
theorem d_M_turns_175 : decode y_M_turns.2.1 175 = .ok (.getfield 183, 3) := by decide +kernel
theorem d_M_turns_178 : decode y_M_turns.2.1 178 = .ok (.iload 5, 2) := by decide +kernel
theorem d_M_turns_180 : decode y_M_turns.2.1 180 = .ok (.iload 7, 2) := by decide +kernel
theorem d_M_turns_182 : decode y_M_turns.2.1 182 = .ok (.iastore, 1) := by decide +kernel
theorem d_M_turns_183 : decode y_M_turns.2.1 183 = .ok (.iinc 7 1, 3) := by decide +kernel
theorem d_M_turns_186 : decode y_M_turns.2.1 186 = .ok (.goto (-86), 3) := by decide +kernel
theorem d_M_turns_189 : decode y_M_turns.2.1 189 = .ok (.iload 4, 2) := by decide +kernel
theorem d_M_turns_191 : decode y_M_turns.2.1 191 = .ok (.iload 6, 2) := by decide +kernel
theorem d_M_turns_193 : decode y_M_turns.2.1 193 = .ok (.invokestatic 244, 3) := by decide +kernel
theorem d_M_turns_196 : decode y_M_turns.2.1 196 = .ok (.istore 4, 2) := by decide +kernel
theorem d_M_turns_198 : decode y_M_turns.2.1 198 = .ok (.iinc 5 1, 3) := by decide +kernel
theorem d_M_turns_201 : decode y_M_turns.2.1 201 = .ok (.goto (-118), 3) := by decide +kernel
theorem d_M_turns_204 : decode y_M_turns.2.1 204 = .ok (.iload 4, 2) := by decide +kernel
theorem d_M_turns_206 : decode y_M_turns.2.1 206 = .ok (.ireturn, 1) := by decide +kernel
theorem d_M_turn_0 : decode y_M_turn.2.1 0 = .ok (.aload_n 0, 1) := by decide +kernel
theorem d_M_turn_1 : decode y_M_turn.2.1 1 = .ok (.iconst 0, 1) := by decide +kernel
theorem d_M_turn_2 : decode y_M_turn.2.1 2 = .ok (.putfield 217, 3) := by decide +kernel
theorem d_M_turn_5 : decode y_M_turn.2.1 5 = .ok (.aload_n 0, 1) := by decide +kernel
theorem d_M_turn_6 : decode y_M_turn.2.1 6 = .ok (.getfield 253, 3) := by decide +kernel
theorem d_M_turn_9 : decode y_M_turn.2.1 9 = .ok (.ifCond .ne 9, 3) := by decide +kernel
theorem d_M_turn_12 : decode y_M_turn.2.1 12 = .ok (.aload_n 0, 1) := by decide +kernel
theorem d_M_turn_13 : decode y_M_turn.2.1 13 = .ok (.iconst 1, 1) := by decide +kernel
theorem d_M_turn_14 : decode y_M_turn.2.1 14 = .ok (.invokevirtual 285, 3) := by decide +kernel
theorem d_M_turn_17 : decode y_M_turn.2.1 17 = .ok (.ireturn, 1) := by decide +kernel
theorem d_M_turn_18 : decode y_M_turn.2.1 18 = .ok (.iload_n 1, 1) := by decide +kernel
theorem d_M_turn_19 : decode y_M_turn.2.1 19 = .ok (.iload_n 1, 1) := by decide +kernel
theorem d_M_turn_20 : decode y_M_turn.2.1 20 = .ok (.iload_n 2, 1) := by decide +kernel
theorem d_M_turn_21 : decode y_M_turn.2.1 21 = .ok (.invokestatic 365, 3) := by decide +kernel
theorem d_M_turn_24 : decode y_M_turn.2.1 24 = .ok (.ifCond .eq 10, 3) := by decide +kernel
theorem d_M_turn_27 : decode y_M_turn.2.1 27 = .ok (.iload_n 3, 1) := by decide +kernel
theorem d_M_turn_28 : decode y_M_turn.2.1 28 = .ok (.invokestatic 305, 3) := by decide +kernel
theorem d_M_turn_31 : decode y_M_turn.2.1 31 = .ok (.ifCond .ne 9, 3) := by decide +kernel
theorem d_M_turn_34 : decode y_M_turn.2.1 34 = .ok (.aload_n 0, 1) := by decide +kernel
theorem d_M_turn_35 : decode y_M_turn.2.1 35 = .ok (.iconst 2, 1) := by decide +kernel
theorem d_M_turn_36 : decode y_M_turn.2.1 36 = .ok (.invokevirtual 285, 3) := by decide +kernel
theorem d_M_turn_39 : decode y_M_turn.2.1 39 = .ok (.ireturn, 1) := by decide +kernel
theorem d_M_turn_40 : decode y_M_turn.2.1 40 = .ok (.aload_n 0, 1) := by decide +kernel
theorem d_M_turn_41 : decode y_M_turn.2.1 41 = .ok (.iload_n 1, 1) := by decide +kernel
theorem d_M_turn_42 : decode y_M_turn.2.1 42 = .ok (.iload_n 2, 1) := by decide +kernel
theorem d_M_turn_43 : decode y_M_turn.2.1 43 = .ok (.iload_n 3, 1) := by decide +kernel
theorem d_M_turn_44 : decode y_M_turn.2.1 44 = .ok (.invokevirtual 455, 3) := by decide +kernel
theorem d_M_turn_47 : decode y_M_turn.2.1 47 = .ok (.ireturn, 1) := by decide +kernel
theorem d_M_turnTo_0 : decode y_M_turnTo.2.1 0 = .ok (.aload_n 0, 1) := by decide +kernel
theorem d_M_turnTo_1 : decode y_M_turnTo.2.1 1 = .ok (.iconst 0, 1) := by decide +kernel
theorem d_M_turnTo_2 : decode y_M_turnTo.2.1 2 = .ok (.putfield 217, 3) := by decide +kernel
theorem d_M_turnTo_5 : decode y_M_turnTo.2.1 5 = .ok (.iload 4, 2) := by decide +kernel
theorem d_M_turnTo_7 : decode y_M_turnTo.2.1 7 = .ok (.i2l, 1) := by decide +kernel
theorem d_M_turnTo_8 : decode y_M_turnTo.2.1 8 = .ok (.lconst 0, 1) := by decide +kernel
theorem d_M_turnTo_9 : decode y_M_turnTo.2.1 9 = .ok (.aload_n 0, 1) := by decide +kernel
theorem d_M_turnTo_10 : decode y_M_turnTo.2.1 10 = .ok (.getfield 253, 3) := by decide +kernel
theorem d_M_turnTo_13 : decode y_M_turnTo.2.1 13 = .ok (.iconst 1, 1) := by decide +kernel
theorem d_M_turnTo_14 : decode y_M_turnTo.2.1 14 = .ok (.isub, 1) := by decide +kernel
theorem d_M_turnTo_15 : decode y_M_turnTo.2.1 15 = .ok (.i2l, 1) := by decide +kernel
theorem d_M_turnTo_16 : decode y_M_turnTo.2.1 16 = .ok (.invokestatic 222, 3) := by decide +kernel
theorem d_M_turnTo_19 : decode y_M_turnTo.2.1 19 = .ok (.ifCond .ne 9, 3) := by decide +kernel
theorem d_M_turnTo_22 : decode y_M_turnTo.2.1 22 = .ok (.aload_n 0, 1) := by decide +kernel
theorem d_M_turnTo_23 : decode y_M_turnTo.2.1 23 = .ok (.iconst 1, 1) := by decide +kernel
theorem d_M_turnTo_24 : decode y_M_turnTo.2.1 24 = .ok (.invokevirtual 285, 3) := by decide +kernel
theorem d_M_turnTo_27 : decode y_M_turnTo.2.1 27 = .ok (.ireturn, 1) := by decide +kernel
theorem d_M_turnTo_28 : decode y_M_turnTo.2.1 28 = .ok (.iload_n 1, 1) := by decide +kernel
theorem d_M_turnTo_29 : decode y_M_turnTo.2.1 29 = .ok (.iload_n 1, 1) := by decide +kernel
theorem d_M_turnTo_30 : decode y_M_turnTo.2.1 30 = .ok (.iload_n 2, 1) := by decide +kernel
theorem d_M_turnTo_31 : decode y_M_turnTo.2.1 31 = .ok (.invokestatic 365, 3) := by decide +kernel
theorem d_M_turnTo_34 : decode y_M_turnTo.2.1 34 = .ok (.ifCond .eq 10, 3) := by decide +kernel
theorem d_M_turnTo_37 : decode y_M_turnTo.2.1 37 = .ok (.iload_n 3, 1) := by decide +kernel
theorem d_M_turnTo_38 : decode y_M_turnTo.2.1 38 = .ok (.invokestatic 305, 3) := by decide +kernel
theorem d_M_turnTo_41 : decode y_M_turnTo.2.1 41 = .ok (.ifCond .ne 9, 3) := by decide +kernel
theorem d_M_turnTo_44 : decode y_M_turnTo.2.1 44 = .ok (.aload_n 0, 1) := by decide +kernel
theorem d_M_turnTo_45 : decode y_M_turnTo.2.1 45 = .ok (.iconst 2, 1) := by decide +kernel
theorem d_M_turnTo_46 : decode y_M_turnTo.2.1 46 = .ok (.invokevirtual 285, 3) := by decide +kernel
theorem d_M_turnTo_49 : decode y_M_turnTo.2.1 49 = .ok (.ireturn, 1) := by decide +kernel
theorem d_M_turnTo_50 : decode y_M_turnTo.2.1 50 = .ok (.aload_n 0, 1) := by decide +kernel
theorem d_M_turnTo_51 : decode y_M_turnTo.2.1 51 = .ok (.iload_n 1, 1) := by decide +kernel
theorem d_M_turnTo_52 : decode y_M_turnTo.2.1 52 = .ok (.iload_n 2, 1) := by decide +kernel
theorem d_M_turnTo_53 : decode y_M_turnTo.2.1 53 = .ok (.iload_n 3, 1) := by decide +kernel
theorem d_M_turnTo_54 : decode y_M_turnTo.2.1 54 = .ok (.invokevirtual 455, 3) := by decide +kernel
theorem d_M_turnTo_57 : decode y_M_turnTo.2.1 57 = .ok (.istore 5, 2) := by decide +kernel
theorem d_M_turnTo_59 : decode y_M_turnTo.2.1 59 = .ok (.aload_n 0, 1) := by decide +kernel
theorem d_M_turnTo_60 : decode y_M_turnTo.2.1 60 = .ok (.getfield 183, 3) := by decide +kernel
theorem d_M_turnTo_63 : decode y_M_turnTo.2.1 63 = .ok (.iload 4, 2) := by decide +kernel
theorem d_M_turnTo_65 : decode y_M_turnTo.2.1 65 = .ok (.iaload, 1) := by decide +kernel
theorem d_M_turnTo_66 : decode y_M_turnTo.2.1 66 = .ok (.ireturn, 1) := by decide +kernel
theorem d_M_best_0 : decode y_M_best.2.1 0 = .ok (.aload_n 0, 1) := by decide +kernel
theorem d_M_best_1 : decode y_M_best.2.1 1 = .ok (.iconst 0, 1) := by decide +kernel
theorem d_M_best_2 : decode y_M_best.2.1 2 = .ok (.putfield 217, 3) := by decide +kernel
theorem d_M_best_5 : decode y_M_best.2.1 5 = .ok (.aload_n 0, 1) := by decide +kernel
theorem d_M_best_6 : decode y_M_best.2.1 6 = .ok (.getfield 253, 3) := by decide +kernel
theorem d_M_best_9 : decode y_M_best.2.1 9 = .ok (.ifCond .ne 9, 3) := by decide +kernel
theorem d_M_best_12 : decode y_M_best.2.1 12 = .ok (.aload_n 0, 1) := by decide +kernel
theorem d_M_best_13 : decode y_M_best.2.1 13 = .ok (.iconst 1, 1) := by decide +kernel
theorem d_M_best_14 : decode y_M_best.2.1 14 = .ok (.invokevirtual 285, 3) := by decide +kernel
theorem d_M_best_17 : decode y_M_best.2.1 17 = .ok (.ireturn, 1) := by decide +kernel
theorem d_M_best_18 : decode y_M_best.2.1 18 = .ok (.iconst 0, 1) := by decide +kernel
theorem d_M_best_19 : decode y_M_best.2.1 19 = .ok (.iconst 0, 1) := by decide +kernel
theorem d_M_best_20 : decode y_M_best.2.1 20 = .ok (.iload_n 1, 1) := by decide +kernel
theorem d_M_best_21 : decode y_M_best.2.1 21 = .ok (.invokestatic 365, 3) := by decide +kernel
theorem d_M_best_24 : decode y_M_best.2.1 24 = .ok (.ifCond .eq 10, 3) := by decide +kernel
theorem d_M_best_27 : decode y_M_best.2.1 27 = .ok (.iload_n 2, 1) := by decide +kernel
theorem d_M_best_28 : decode y_M_best.2.1 28 = .ok (.invokestatic 305, 3) := by decide +kernel
theorem d_M_best_31 : decode y_M_best.2.1 31 = .ok (.ifCond .ne 9, 3) := by decide +kernel
theorem d_M_best_34 : decode y_M_best.2.1 34 = .ok (.aload_n 0, 1) := by decide +kernel
theorem d_M_best_35 : decode y_M_best.2.1 35 = .ok (.iconst 2, 1) := by decide +kernel
theorem d_M_best_36 : decode y_M_best.2.1 36 = .ok (.invokevirtual 285, 3) := by decide +kernel
theorem d_M_best_39 : decode y_M_best.2.1 39 = .ok (.ireturn, 1) := by decide +kernel
theorem d_M_best_40 : decode y_M_best.2.1 40 = .ok (.iconst (-1), 1) := by decide +kernel
theorem d_M_best_41 : decode y_M_best.2.1 41 = .ok (.istore_n 3, 1) := by decide +kernel
theorem d_M_best_42 : decode y_M_best.2.1 42 = .ok (.iconst 0, 1) := by decide +kernel
theorem d_M_best_43 : decode y_M_best.2.1 43 = .ok (.istore 4, 2) := by decide +kernel
theorem d_M_best_45 : decode y_M_best.2.1 45 = .ok (.iconst 0, 1) := by decide +kernel
theorem d_M_best_46 : decode y_M_best.2.1 46 = .ok (.istore 5, 2) := by decide +kernel
theorem d_M_best_48 : decode y_M_best.2.1 48 = .ok (.iload 5, 2) := by decide +kernel
theorem d_M_best_50 : decode y_M_best.2.1 50 = .ok (.iconst 4, 1) := by decide +kernel
theorem d_M_best_51 : decode y_M_best.2.1 51 = .ok (.if_icmp .ge 41, 3) := by decide +kernel
theorem d_M_best_54 : decode y_M_best.2.1 54 = .ok (.aload_n 0, 1) := by decide +kernel
theorem d_M_best_55 : decode y_M_best.2.1 55 = .ok (.iload 5, 2) := by decide +kernel
theorem d_M_best_57 : decode y_M_best.2.1 57 = .ok (.iload_n 1, 1) := by decide +kernel
theorem d_M_best_58 : decode y_M_best.2.1 58 = .ok (.iload_n 2, 1) := by decide +kernel
theorem d_M_best_59 : decode y_M_best.2.1 59 = .ok (.invokevirtual 455, 3) := by decide +kernel
theorem d_M_best_62 : decode y_M_best.2.1 62 = .ok (.istore 6, 2) := by decide +kernel
theorem d_M_best_64 : decode y_M_best.2.1 64 = .ok (.iload_n 3, 1) := by decide +kernel
theorem d_M_best_65 : decode y_M_best.2.1 65 = .ok (.iconst (-1), 1) := by decide +kernel
theorem d_M_best_66 : decode y_M_best.2.1 66 = .ok (.if_icmp .eq 13, 3) := by decide +kernel
theorem d_M_best_69 : decode y_M_best.2.1 69 = .ok (.iload 6, 2) := by decide +kernel
theorem d_M_best_71 : decode y_M_best.2.1 71 = .ok (.iload 4, 2) := by decide +kernel
theorem d_M_best_73 : decode y_M_best.2.1 73 = .ok (.if_icmp .lt 6, 3) := by decide +kernel
theorem d_M_best_76 : decode y_M_best.2.1 76 = .ok (.goto 10, 3) := by decide +kernel
theorem d_M_best_79 : decode y_M_best.2.1 79 = .ok (.iload 5, 2) := by decide +kernel
theorem d_M_best_81 : decode y_M_best.2.1 81 = .ok (.istore_n 3, 1) := by decide +kernel
theorem d_M_best_82 : decode y_M_best.2.1 82 = .ok (.iload 6, 2) := by decide +kernel
theorem d_M_best_84 : decode y_M_best.2.1 84 = .ok (.istore 4, 2) := by decide +kernel
theorem d_M_best_86 : decode y_M_best.2.1 86 = .ok (.iinc 5 1, 3) := by decide +kernel
theorem d_M_best_89 : decode y_M_best.2.1 89 = .ok (.goto (-41), 3) := by decide +kernel
theorem d_M_best_92 : decode y_M_best.2.1 92 = .ok (.iload_n 3, 1) := by decide +kernel
theorem d_M_best_93 : decode y_M_best.2.1 93 = .ok (.ireturn, 1) := by decide +kernel
theorem d_M_costs_0 : decode y_M_costs.2.1 0 = .ok (.iload_n 3, 1) := by decide +kernel
theorem d_M_costs_1 : decode y_M_costs.2.1 1 = .ok (.aload_n 0, 1) := by decide +kernel
theorem d_M_costs_2 : decode y_M_costs.2.1 2 = .ok (.iload_n 1, 1) := by decide +kernel
theorem d_M_costs_3 : decode y_M_costs.2.1 3 = .ok (.iload_n 2, 1) := by decide +kernel
theorem d_M_costs_4 : decode y_M_costs.2.1 4 = .ok (.invokevirtual 372, 3) := by decide +kernel
theorem d_M_costs_7 : decode y_M_costs.2.1 7 = .ok (.ifCond .eq 7, 3) := by decide +kernel
theorem d_M_costs_10 : decode y_M_costs.2.1 10 = .ok (.iconst 2, 1) := by decide +kernel
theorem d_M_costs_11 : decode y_M_costs.2.1 11 = .ok (.goto 4, 3) := by decide +kernel
theorem d_M_costs_14 : decode y_M_costs.2.1 14 = .ok (.iconst 0, 1) := by decide +kernel
theorem d_M_costs_15 : decode y_M_costs.2.1 15 = .ok (.iadd, 1) := by decide +kernel
theorem d_M_costs_16 : decode y_M_costs.2.1 16 = .ok (.ireturn, 1) := by decide +kernel
theorem d_M_walksOn_0 : decode y_M_walksOn.2.1 0 = .ok (.iconst 0, 1) := by decide +kernel
theorem d_M_walksOn_1 : decode y_M_walksOn.2.1 1 = .ok (.istore_n 1, 1) := by decide +kernel
theorem d_M_walksOn_2 : decode y_M_walksOn.2.1 2 = .ok (.iload_n 1, 1) := by decide +kernel
theorem d_M_walksOn_3 : decode y_M_walksOn.2.1 3 = .ok (.sipush 168, 3) := by decide +kernel
theorem d_M_walksOn_6 : decode y_M_walksOn.2.1 6 = .ok (.if_icmp .ge 48, 3) := by decide +kernel
theorem d_M_walksOn_9 : decode y_M_walksOn.2.1 9 = .ok (.aload_n 0, 1) := by decide +kernel
theorem d_M_walksOn_10 : decode y_M_walksOn.2.1 10 = .ok (.getfield 186, 3) := by decide +kernel
theorem d_M_walksOn_13 : decode y_M_walksOn.2.1 13 = .ok (.iload_n 1, 1) := by decide +kernel
theorem d_M_walksOn_14 : decode y_M_walksOn.2.1 14 = .ok (.iload_n 1, 1) := by decide +kernel
theorem d_M_walksOn_15 : decode y_M_walksOn.2.1 15 = .ok (.aload_n 0, 1) := by decide +kernel
theorem d_M_walksOn_16 : decode y_M_walksOn.2.1 16 = .ok (.getfield 228, 3) := by decide +kernel
theorem d_M_walksOn_19 : decode y_M_walksOn.2.1 19 = .ok (.if_icmp .ge 16, 3) := by decide +kernel
theorem d_M_walksOn_22 : decode y_M_walksOn.2.1 22 = .ok (.aload_n 0, 1) := by decide +kernel
theorem d_M_walksOn_23 : decode y_M_walksOn.2.1 23 = .ok (.getfield 26, 3) := by decide +kernel
theorem d_M_walksOn_26 : decode y_M_walksOn.2.1 26 = .ok (.iload_n 1, 1) := by decide +kernel
theorem d_M_walksOn_27 : decode y_M_walksOn.2.1 27 = .ok (.iaload, 1) := by decide +kernel
theorem d_M_walksOn_28 : decode y_M_walksOn.2.1 28 = .ok (.ifCond .le 7, 3) := by decide +kernel
theorem d_M_walksOn_31 : decode y_M_walksOn.2.1 31 = .ok (.iconst 0, 1) := by decide +kernel
theorem d_M_walksOn_32 : decode y_M_walksOn.2.1 32 = .ok (.goto 6, 3) := by decide +kernel
theorem d_M_walksOn_35 : decode y_M_walksOn.2.1 35 = .ok (.ldc_w 387, 3) := by decide +kernel
theorem d_M_walksOn_38 : decode y_M_walksOn.2.1 38 = .ok (.iastore, 1) := by decide +kernel
theorem d_M_walksOn_39 : decode y_M_walksOn.2.1 39 = .ok (.aload_n 0, 1) := by decide +kernel
theorem d_M_walksOn_40 : decode y_M_walksOn.2.1 40 = .ok (.getfield 189, 3) := by decide +kernel
theorem d_M_walksOn_43 : decode y_M_walksOn.2.1 43 = .ok (.iload_n 1, 1) := by decide +kernel
theorem d_M_walksOn_44 : decode y_M_walksOn.2.1 44 = .ok (.ldc_w 387, 3) := by decide +kernel
theorem d_M_walksOn_47 : decode y_M_walksOn.2.1 47 = .ok (.iastore, 1) := by decide +kernel
theorem d_M_walksOn_48 : decode y_M_walksOn.2.1 48 = .ok (.iinc 1 1, 3) := by decide +kernel
theorem d_M_walksOn_51 : decode y_M_walksOn.2.1 51 = .ok (.goto (-49), 3) := by decide +kernel
theorem d_M_walksOn_54 : decode y_M_walksOn.2.1 54 = .ok (.iconst 0, 1) := by decide +kernel
theorem d_M_walksOn_55 : decode y_M_walksOn.2.1 55 = .ok (.istore_n 1, 1) := by decide +kernel
theorem d_M_walksOn_56 : decode y_M_walksOn.2.1 56 = .ok (.iload_n 1, 1) := by decide +kernel
theorem d_M_walksOn_57 : decode y_M_walksOn.2.1 57 = .ok (.bipush 20, 2) := by decide +kernel
theorem d_M_walksOn_59 : decode y_M_walksOn.2.1 59 = .ok (.if_icmp .ge 183, 3) := by decide +kernel
theorem d_M_walksOn_62 : decode y_M_walksOn.2.1 62 = .ok (.iconst 0, 1) := by decide +kernel
theorem d_M_walksOn_63 : decode y_M_walksOn.2.1 63 = .ok (.istore_n 2, 1) := by decide +kernel
theorem d_M_walksOn_64 : decode y_M_walksOn.2.1 64 = .ok (.iload_n 2, 1) := by decide +kernel
theorem d_M_walksOn_65 : decode y_M_walksOn.2.1 65 = .ok (.aload_n 0, 1) := by decide +kernel
theorem d_M_walksOn_66 : decode y_M_walksOn.2.1 66 = .ok (.getfield 228, 3) := by decide +kernel
theorem d_M_walksOn_69 : decode y_M_walksOn.2.1 69 = .ok (.if_icmp .ge 167, 3) := by decide +kernel
theorem d_M_walksOn_72 : decode y_M_walksOn.2.1 72 = .ok (.aload_n 0, 1) := by decide +kernel
theorem d_M_walksOn_73 : decode y_M_walksOn.2.1 73 = .ok (.getfield 186, 3) := by decide +kernel
theorem d_M_walksOn_76 : decode y_M_walksOn.2.1 76 = .ok (.bipush 8, 2) := by decide +kernel
theorem d_M_walksOn_78 : decode y_M_walksOn.2.1 78 = .ok (.iload_n 1, 1) := by decide +kernel
theorem d_M_walksOn_79 : decode y_M_walksOn.2.1 79 = .ok (.imul, 1) := by decide +kernel
theorem d_M_walksOn_80 : decode y_M_walksOn.2.1 80 = .ok (.iload_n 2, 1) := by decide +kernel
theorem d_M_walksOn_81 : decode y_M_walksOn.2.1 81 = .ok (.iadd, 1) := by decide +kernel
theorem d_M_walksOn_82 : decode y_M_walksOn.2.1 82 = .ok (.iaload, 1) := by decide +kernel
theorem d_M_walksOn_83 : decode y_M_walksOn.2.1 83 = .ok (.istore_n 3, 1) := by decide +kernel
theorem d_M_walksOn_84 : decode y_M_walksOn.2.1 84 = .ok (.aload_n 0, 1) := by decide +kernel
theorem d_M_walksOn_85 : decode y_M_walksOn.2.1 85 = .ok (.getfield 186, 3) := by decide +kernel
theorem d_M_walksOn_88 : decode y_M_walksOn.2.1 88 = .ok (.bipush 8, 2) := by decide +kernel
theorem d_M_walksOn_90 : decode y_M_walksOn.2.1 90 = .ok (.iload_n 1, 1) := by decide +kernel
theorem d_M_walksOn_91 : decode y_M_walksOn.2.1 91 = .ok (.imul, 1) := by decide +kernel
theorem d_M_walksOn_92 : decode y_M_walksOn.2.1 92 = .ok (.bipush 8, 2) := by decide +kernel
theorem d_M_walksOn_94 : decode y_M_walksOn.2.1 94 = .ok (.iadd, 1) := by decide +kernel
theorem d_M_walksOn_95 : decode y_M_walksOn.2.1 95 = .ok (.iload_n 2, 1) := by decide +kernel
theorem d_M_walksOn_96 : decode y_M_walksOn.2.1 96 = .ok (.iadd, 1) := by decide +kernel
theorem d_M_walksOn_97 : decode y_M_walksOn.2.1 97 = .ok (.aload_n 0, 1) := by decide +kernel
theorem d_M_walksOn_98 : decode y_M_walksOn.2.1 98 = .ok (.getfield 186, 3) := by decide +kernel
theorem d_M_walksOn_101 : decode y_M_walksOn.2.1 101 = .ok (.bipush 8, 2) := by decide +kernel
theorem d_M_walksOn_103 : decode y_M_walksOn.2.1 103 = .ok (.iload_n 1, 1) := by decide +kernel
theorem d_M_walksOn_104 : decode y_M_walksOn.2.1 104 = .ok (.imul, 1) := by decide +kernel
theorem d_M_walksOn_105 : decode y_M_walksOn.2.1 105 = .ok (.bipush 8, 2) := by decide +kernel
theorem d_M_walksOn_107 : decode y_M_walksOn.2.1 107 = .ok (.iadd, 1) := by decide +kernel
theorem d_M_walksOn_108 : decode y_M_walksOn.2.1 108 = .ok (.iload_n 2, 1) := by decide +kernel
theorem d_M_walksOn_109 : decode y_M_walksOn.2.1 109 = .ok (.iadd, 1) := by decide +kernel
theorem d_M_walksOn_110 : decode y_M_walksOn.2.1 110 = .ok (.iaload, 1) := by decide +kernel
theorem d_M_walksOn_111 : decode y_M_walksOn.2.1 111 = .ok (.iload_n 3, 1) := by decide +kernel
theorem d_M_walksOn_112 : decode y_M_walksOn.2.1 112 = .ok (.aload_n 0, 1) := by decide +kernel
theorem d_M_walksOn_113 : decode y_M_walksOn.2.1 113 = .ok (.iload_n 2, 1) := by decide +kernel
theorem d_M_walksOn_114 : decode y_M_walksOn.2.1 114 = .ok (.iload_n 1, 1) := by decide +kernel
theorem d_M_walksOn_115 : decode y_M_walksOn.2.1 115 = .ok (.iconst 1, 1) := by decide +kernel
theorem d_M_walksOn_116 : decode y_M_walksOn.2.1 116 = .ok (.iadd, 1) := by decide +kernel
theorem d_M_walksOn_117 : decode y_M_walksOn.2.1 117 = .ok (.iconst 1, 1) := by decide +kernel
theorem d_M_walksOn_118 : decode y_M_walksOn.2.1 118 = .ok (.invokevirtual 458, 3) := by decide +kernel
theorem d_M_walksOn_121 : decode y_M_walksOn.2.1 121 = .ok (.iadd, 1) := by decide +kernel
theorem d_M_walksOn_122 : decode y_M_walksOn.2.1 122 = .ok (.invokestatic 325, 3) := by decide +kernel
theorem d_M_walksOn_125 : decode y_M_walksOn.2.1 125 = .ok (.iastore, 1) := by decide +kernel
theorem d_M_walksOn_126 : decode y_M_walksOn.2.1 126 = .ok (.iconst 0, 1) := by decide +kernel
theorem d_M_walksOn_127 : decode y_M_walksOn.2.1 127 = .ok (.istore 4, 2) := by decide +kernel
theorem d_M_walksOn_129 : decode y_M_walksOn.2.1 129 = .ok (.iload 4, 2) := by decide +kernel
theorem d_M_walksOn_131 : decode y_M_walksOn.2.1 131 = .ok (.aload_n 0, 1) := by decide +kernel
theorem d_M_walksOn_132 : decode y_M_walksOn.2.1 132 = .ok (.getfield 250, 3) := by decide +kernel
theorem d_M_walksOn_135 : decode y_M_walksOn.2.1 135 = .ok (.if_icmp .ge 95, 3) := by decide +kernel
theorem d_M_walksOn_138 : decode y_M_walksOn.2.1 138 = .ok (.iload_n 1, 1) := by decide +kernel
theorem d_M_walksOn_139 : decode y_M_walksOn.2.1 139 = .ok (.aload_n 0, 1) := by decide +kernel
theorem d_M_walksOn_140 : decode y_M_walksOn.2.1 140 = .ok (.getfield 38, 3) := by decide +kernel
theorem d_M_walksOn_143 : decode y_M_walksOn.2.1 143 = .ok (.iload 4, 2) := by decide +kernel
theorem d_M_walksOn_145 : decode y_M_walksOn.2.1 145 = .ok (.iaload, 1) := by decide +kernel
theorem d_M_walksOn_146 : decode y_M_walksOn.2.1 146 = .ok (.iadd, 1) := by decide +kernel
theorem d_M_walksOn_147 : decode y_M_walksOn.2.1 147 = .ok (.istore 5, 2) := by decide +kernel
theorem d_M_walksOn_149 : decode y_M_walksOn.2.1 149 = .ok (.aload_n 0, 1) := by decide +kernel
theorem d_M_walksOn_150 : decode y_M_walksOn.2.1 150 = .ok (.iload_n 2, 1) := by decide +kernel
theorem d_M_walksOn_151 : decode y_M_walksOn.2.1 151 = .ok (.iload 4, 2) := by decide +kernel
theorem d_M_walksOn_153 : decode y_M_walksOn.2.1 153 = .ok (.invokevirtual 332, 3) := by decide +kernel
theorem d_M_walksOn_156 : decode y_M_walksOn.2.1 156 = .ok (.ifCond .eq 68, 3) := by decide +kernel
theorem d_M_walksOn_159 : decode y_M_walksOn.2.1 159 = .ok (.iload 5, 2) := by decide +kernel
theorem d_M_walksOn_161 : decode y_M_walksOn.2.1 161 = .ok (.bipush 20, 2) := by decide +kernel
theorem d_M_walksOn_163 : decode y_M_walksOn.2.1 163 = .ok (.if_icmp .le 6, 3) := by decide +kernel
theorem d_M_walksOn_166 : decode y_M_walksOn.2.1 166 = .ok (.goto 58, 3) := by decide +kernel
theorem d_M_walksOn_169 : decode y_M_walksOn.2.1 169 = .ok (.aload_n 0, 1) := by decide +kernel
theorem d_M_walksOn_170 : decode y_M_walksOn.2.1 170 = .ok (.iload_n 2, 1) := by decide +kernel
theorem d_M_walksOn_171 : decode y_M_walksOn.2.1 171 = .ok (.iload 4, 2) := by decide +kernel
theorem d_M_walksOn_173 : decode y_M_walksOn.2.1 173 = .ok (.invokevirtual 342, 3) := by decide +kernel
theorem d_M_walksOn_176 : decode y_M_walksOn.2.1 176 = .ok (.istore 6, 2) := by decide +kernel
theorem d_M_walksOn_178 : decode y_M_walksOn.2.1 178 = .ok (.aload_n 0, 1) := by decide +kernel
theorem d_M_walksOn_179 : decode y_M_walksOn.2.1 179 = .ok (.getfield 186, 3) := by decide +kernel
theorem d_M_walksOn_182 : decode y_M_walksOn.2.1 182 = .ok (.bipush 8, 2) := by decide +kernel
theorem d_M_walksOn_184 : decode y_M_walksOn.2.1 184 = .ok (.iload 5, 2) := by decide +kernel
theorem d_M_walksOn_186 : decode y_M_walksOn.2.1 186 = .ok (.imul, 1) := by decide +kernel
theorem d_M_walksOn_187 : decode y_M_walksOn.2.1 187 = .ok (.iload 6, 2) := by decide +kernel
theorem d_M_walksOn_189 : decode y_M_walksOn.2.1 189 = .ok (.iadd, 1) := by decide +kernel
theorem d_M_walksOn_190 : decode y_M_walksOn.2.1 190 = .ok (.aload_n 0, 1) := by decide +kernel
theorem d_M_walksOn_191 : decode y_M_walksOn.2.1 191 = .ok (.getfield 186, 3) := by decide +kernel
theorem d_M_walksOn_194 : decode y_M_walksOn.2.1 194 = .ok (.bipush 8, 2) := by decide +kernel
theorem d_M_walksOn_196 : decode y_M_walksOn.2.1 196 = .ok (.iload 5, 2) := by decide +kernel
theorem d_M_walksOn_198 : decode y_M_walksOn.2.1 198 = .ok (.imul, 1) := by decide +kernel
theorem d_M_walksOn_199 : decode y_M_walksOn.2.1 199 = .ok (.iload 6, 2) := by decide +kernel
theorem d_M_walksOn_201 : decode y_M_walksOn.2.1 201 = .ok (.iadd, 1) := by decide +kernel
theorem d_M_walksOn_202 : decode y_M_walksOn.2.1 202 = .ok (.iaload, 1) := by decide +kernel
theorem d_M_walksOn_203 : decode y_M_walksOn.2.1 203 = .ok (.iload_n 3, 1) := by decide +kernel
theorem d_M_walksOn_204 : decode y_M_walksOn.2.1 204 = .ok (.aload_n 0, 1) := by decide +kernel
theorem d_M_walksOn_205 : decode y_M_walksOn.2.1 205 = .ok (.iload 6, 2) := by decide +kernel
theorem d_M_walksOn_207 : decode y_M_walksOn.2.1 207 = .ok (.iload 5, 2) := by decide +kernel
theorem d_M_walksOn_209 : decode y_M_walksOn.2.1 209 = .ok (.aload_n 0, 1) := by decide +kernel
theorem d_M_walksOn_210 : decode y_M_walksOn.2.1 210 = .ok (.getfield 38, 3) := by decide +kernel
theorem d_M_walksOn_213 : decode y_M_walksOn.2.1 213 = .ok (.iload 4, 2) := by decide +kernel
theorem d_M_walksOn_215 : decode y_M_walksOn.2.1 215 = .ok (.iaload, 1) := by decide +kernel
theorem d_M_walksOn_216 : decode y_M_walksOn.2.1 216 = .ok (.invokevirtual 458, 3) := by decide +kernel
theorem d_M_walksOn_219 : decode y_M_walksOn.2.1 219 = .ok (.iadd, 1) := by decide +kernel
theorem d_M_walksOn_220 : decode y_M_walksOn.2.1 220 = .ok (.invokestatic 325, 3) := by decide +kernel
theorem d_M_walksOn_223 : decode y_M_walksOn.2.1 223 = .ok (.iastore, 1) := by decide +kernel
theorem d_M_walksOn_224 : decode y_M_walksOn.2.1 224 = .ok (.iinc 4 1, 3) := by decide +kernel
theorem d_M_walksOn_227 : decode y_M_walksOn.2.1 227 = .ok (.goto (-98), 3) := by decide +kernel
theorem d_M_walksOn_230 : decode y_M_walksOn.2.1 230 = .ok (.iinc 2 1, 3) := by decide +kernel
theorem d_M_walksOn_233 : decode y_M_walksOn.2.1 233 = .ok (.goto (-169), 3) := by decide +kernel
theorem d_M_walksOn_236 : decode y_M_walksOn.2.1 236 = .ok (.iinc 1 1, 3) := by decide +kernel
theorem d_M_walksOn_239 : decode y_M_walksOn.2.1 239 = .ok (.goto (-183), 3) := by decide +kernel
theorem d_M_walksOn_242 : decode y_M_walksOn.2.1 242 = .ok (.bipush 20, 2) := by decide +kernel
theorem d_M_walksOn_244 : decode y_M_walksOn.2.1 244 = .ok (.istore_n 1, 1) := by decide +kernel
theorem d_M_walksOn_245 : decode y_M_walksOn.2.1 245 = .ok (.iload_n 1, 1) := by decide +kernel
theorem d_M_walksOn_246 : decode y_M_walksOn.2.1 246 = .ok (.ifCond .lt 183, 3) := by decide +kernel
theorem d_M_walksOn_249 : decode y_M_walksOn.2.1 249 = .ok (.iconst 0, 1) := by decide +kernel
theorem d_M_walksOn_250 : decode y_M_walksOn.2.1 250 = .ok (.istore_n 2, 1) := by decide +kernel
theorem d_M_walksOn_251 : decode y_M_walksOn.2.1 251 = .ok (.iload_n 2, 1) := by decide +kernel
theorem d_M_walksOn_252 : decode y_M_walksOn.2.1 252 = .ok (.aload_n 0, 1) := by decide +kernel
theorem d_M_walksOn_253 : decode y_M_walksOn.2.1 253 = .ok (.getfield 228, 3) := by decide +kernel
theorem d_M_walksOn_256 : decode y_M_walksOn.2.1 256 = .ok (.if_icmp .ge 167, 3) := by decide +kernel
theorem d_M_walksOn_259 : decode y_M_walksOn.2.1 259 = .ok (.aload_n 0, 1) := by decide +kernel
theorem d_M_walksOn_260 : decode y_M_walksOn.2.1 260 = .ok (.getfield 26, 3) := by decide +kernel
theorem d_M_walksOn_263 : decode y_M_walksOn.2.1 263 = .ok (.iload_n 2, 1) := by decide +kernel
theorem d_M_walksOn_264 : decode y_M_walksOn.2.1 264 = .ok (.iaload, 1) := by decide +kernel
theorem d_M_walksOn_265 : decode y_M_walksOn.2.1 265 = .ok (.ifCond .le 7, 3) := by decide +kernel
theorem d_M_walksOn_268 : decode y_M_walksOn.2.1 268 = .ok (.iconst 0, 1) := by decide +kernel
theorem d_M_walksOn_269 : decode y_M_walksOn.2.1 269 = .ok (.goto 39, 3) := by decide +kernel
theorem d_M_walksOn_272 : decode y_M_walksOn.2.1 272 = .ok (.iload_n 1, 1) := by decide +kernel
theorem d_M_walksOn_273 : decode y_M_walksOn.2.1 273 = .ok (.bipush 20, 2) := by decide +kernel
theorem d_M_walksOn_275 : decode y_M_walksOn.2.1 275 = .ok (.if_icmp .ne 9, 3) := by decide +kernel
theorem d_M_walksOn_278 : decode y_M_walksOn.2.1 278 = .ok (.ldc_w 387, 3) := by decide +kernel
theorem d_M_walksOn_281 : decode y_M_walksOn.2.1 281 = .ok (.goto 27, 3) := by decide +kernel
theorem d_M_walksOn_284 : decode y_M_walksOn.2.1 284 = .ok (.aload_n 0, 1) := by decide +kernel
theorem d_M_walksOn_285 : decode y_M_walksOn.2.1 285 = .ok (.getfield 189, 3) := by decide +kernel
theorem d_M_walksOn_288 : decode y_M_walksOn.2.1 288 = .ok (.bipush 8, 2) := by decide +kernel
theorem d_M_walksOn_290 : decode y_M_walksOn.2.1 290 = .ok (.iload_n 1, 1) := by decide +kernel
theorem d_M_walksOn_291 : decode y_M_walksOn.2.1 291 = .ok (.imul, 1) := by decide +kernel
theorem d_M_walksOn_292 : decode y_M_walksOn.2.1 292 = .ok (.bipush 8, 2) := by decide +kernel
theorem d_M_walksOn_294 : decode y_M_walksOn.2.1 294 = .ok (.iadd, 1) := by decide +kernel
theorem d_M_walksOn_295 : decode y_M_walksOn.2.1 295 = .ok (.iload_n 2, 1) := by decide +kernel
theorem d_M_walksOn_296 : decode y_M_walksOn.2.1 296 = .ok (.iadd, 1) := by decide +kernel
theorem d_M_walksOn_297 : decode y_M_walksOn.2.1 297 = .ok (.iaload, 1) := by decide +kernel
theorem d_M_walksOn_298 : decode y_M_walksOn.2.1 298 = .ok (.aload_n 0, 1) := by decide +kernel
theorem d_M_walksOn_299 : decode y_M_walksOn.2.1 299 = .ok (.iload_n 2, 1) := by decide +kernel
theorem d_M_walksOn_300 : decode y_M_walksOn.2.1 300 = .ok (.iload_n 1, 1) := by decide +kernel
theorem d_M_walksOn_301 : decode y_M_walksOn.2.1 301 = .ok (.iconst 1, 1) := by decide +kernel
theorem d_M_walksOn_302 : decode y_M_walksOn.2.1 302 = .ok (.iadd, 1) := by decide +kernel
theorem d_M_walksOn_303 : decode y_M_walksOn.2.1 303 = .ok (.iconst 1, 1) := by decide +kernel
theorem d_M_walksOn_304 : decode y_M_walksOn.2.1 304 = .ok (.invokevirtual 458, 3) := by decide +kernel
theorem d_M_walksOn_307 : decode y_M_walksOn.2.1 307 = .ok (.iadd, 1) := by decide +kernel
theorem d_M_walksOn_308 : decode y_M_walksOn.2.1 308 = .ok (.istore_n 3, 1) := by decide +kernel
theorem d_M_walksOn_309 : decode y_M_walksOn.2.1 309 = .ok (.iconst 0, 1) := by decide +kernel
theorem d_M_walksOn_310 : decode y_M_walksOn.2.1 310 = .ok (.istore 4, 2) := by decide +kernel
theorem d_M_walksOn_312 : decode y_M_walksOn.2.1 312 = .ok (.iload 4, 2) := by decide +kernel
theorem d_M_walksOn_314 : decode y_M_walksOn.2.1 314 = .ok (.aload_n 0, 1) := by decide +kernel
theorem d_M_walksOn_315 : decode y_M_walksOn.2.1 315 = .ok (.getfield 250, 3) := by decide +kernel
theorem d_M_walksOn_318 : decode y_M_walksOn.2.1 318 = .ok (.if_icmp .ge 87, 3) := by decide +kernel
theorem d_M_walksOn_321 : decode y_M_walksOn.2.1 321 = .ok (.iload_n 3, 1) := by decide +kernel
theorem d_M_walksOn_322 : decode y_M_walksOn.2.1 322 = .ok (.ifCond .le 83, 3) := by decide +kernel
theorem d_M_walksOn_325 : decode y_M_walksOn.2.1 325 = .ok (.iload_n 1, 1) := by decide +kernel
theorem d_M_walksOn_326 : decode y_M_walksOn.2.1 326 = .ok (.aload_n 0, 1) := by decide +kernel
theorem d_M_walksOn_327 : decode y_M_walksOn.2.1 327 = .ok (.getfield 38, 3) := by decide +kernel
theorem d_M_walksOn_330 : decode y_M_walksOn.2.1 330 = .ok (.iload 4, 2) := by decide +kernel
theorem d_M_walksOn_332 : decode y_M_walksOn.2.1 332 = .ok (.iaload, 1) := by decide +kernel
theorem d_M_walksOn_333 : decode y_M_walksOn.2.1 333 = .ok (.iadd, 1) := by decide +kernel
theorem d_M_walksOn_334 : decode y_M_walksOn.2.1 334 = .ok (.istore 5, 2) := by decide +kernel
theorem d_M_walksOn_336 : decode y_M_walksOn.2.1 336 = .ok (.aload_n 0, 1) := by decide +kernel
theorem d_M_walksOn_337 : decode y_M_walksOn.2.1 337 = .ok (.iload_n 2, 1) := by decide +kernel
theorem d_M_walksOn_338 : decode y_M_walksOn.2.1 338 = .ok (.iload 4, 2) := by decide +kernel
theorem d_M_walksOn_340 : decode y_M_walksOn.2.1 340 = .ok (.invokevirtual 332, 3) := by decide +kernel
theorem d_M_walksOn_343 : decode y_M_walksOn.2.1 343 = .ok (.ifCond .eq 56, 3) := by decide +kernel
theorem d_M_walksOn_346 : decode y_M_walksOn.2.1 346 = .ok (.iload 5, 2) := by decide +kernel
theorem d_M_walksOn_348 : decode y_M_walksOn.2.1 348 = .ok (.bipush 20, 2) := by decide +kernel
theorem d_M_walksOn_350 : decode y_M_walksOn.2.1 350 = .ok (.if_icmp .le 6, 3) := by decide +kernel
theorem d_M_walksOn_353 : decode y_M_walksOn.2.1 353 = .ok (.goto 46, 3) := by decide +kernel
theorem d_M_walksOn_356 : decode y_M_walksOn.2.1 356 = .ok (.aload_n 0, 1) := by decide +kernel
theorem d_M_walksOn_357 : decode y_M_walksOn.2.1 357 = .ok (.iload_n 2, 1) := by decide +kernel
theorem d_M_walksOn_358 : decode y_M_walksOn.2.1 358 = .ok (.iload 4, 2) := by decide +kernel
theorem d_M_walksOn_360 : decode y_M_walksOn.2.1 360 = .ok (.invokevirtual 342, 3) := by decide +kernel
theorem d_M_walksOn_363 : decode y_M_walksOn.2.1 363 = .ok (.istore 6, 2) := by decide +kernel
theorem d_M_walksOn_365 : decode y_M_walksOn.2.1 365 = .ok (.iload_n 3, 1) := by decide +kernel
theorem d_M_walksOn_366 : decode y_M_walksOn.2.1 366 = .ok (.aload_n 0, 1) := by decide +kernel
theorem d_M_walksOn_367 : decode y_M_walksOn.2.1 367 = .ok (.getfield 189, 3) := by decide +kernel
theorem d_M_walksOn_370 : decode y_M_walksOn.2.1 370 = .ok (.bipush 8, 2) := by decide +kernel
theorem d_M_walksOn_372 : decode y_M_walksOn.2.1 372 = .ok (.iload 5, 2) := by decide +kernel
theorem d_M_walksOn_374 : decode y_M_walksOn.2.1 374 = .ok (.imul, 1) := by decide +kernel
theorem d_M_walksOn_375 : decode y_M_walksOn.2.1 375 = .ok (.iload 6, 2) := by decide +kernel
theorem d_M_walksOn_377 : decode y_M_walksOn.2.1 377 = .ok (.iadd, 1) := by decide +kernel
theorem d_M_walksOn_378 : decode y_M_walksOn.2.1 378 = .ok (.iaload, 1) := by decide +kernel
theorem d_M_walksOn_379 : decode y_M_walksOn.2.1 379 = .ok (.aload_n 0, 1) := by decide +kernel
theorem d_M_walksOn_380 : decode y_M_walksOn.2.1 380 = .ok (.iload 6, 2) := by decide +kernel
theorem d_M_walksOn_382 : decode y_M_walksOn.2.1 382 = .ok (.iload 5, 2) := by decide +kernel
theorem d_M_walksOn_384 : decode y_M_walksOn.2.1 384 = .ok (.aload_n 0, 1) := by decide +kernel
theorem d_M_walksOn_385 : decode y_M_walksOn.2.1 385 = .ok (.getfield 38, 3) := by decide +kernel
theorem d_M_walksOn_388 : decode y_M_walksOn.2.1 388 = .ok (.iload 4, 2) := by decide +kernel
theorem d_M_walksOn_390 : decode y_M_walksOn.2.1 390 = .ok (.iaload, 1) := by decide +kernel
theorem d_M_walksOn_391 : decode y_M_walksOn.2.1 391 = .ok (.invokevirtual 458, 3) := by decide +kernel
theorem d_M_walksOn_394 : decode y_M_walksOn.2.1 394 = .ok (.iadd, 1) := by decide +kernel
theorem d_M_walksOn_395 : decode y_M_walksOn.2.1 395 = .ok (.invokestatic 325, 3) := by decide +kernel
theorem d_M_walksOn_398 : decode y_M_walksOn.2.1 398 = .ok (.istore_n 3, 1) := by decide +kernel
theorem d_M_walksOn_399 : decode y_M_walksOn.2.1 399 = .ok (.iinc 4 1, 3) := by decide +kernel
theorem d_M_walksOn_402 : decode y_M_walksOn.2.1 402 = .ok (.goto (-90), 3) := by decide +kernel
theorem d_M_walksOn_405 : decode y_M_walksOn.2.1 405 = .ok (.aload_n 0, 1) := by decide +kernel
theorem d_M_walksOn_406 : decode y_M_walksOn.2.1 406 = .ok (.getfield 189, 3) := by decide +kernel
theorem d_M_walksOn_409 : decode y_M_walksOn.2.1 409 = .ok (.bipush 8, 2) := by decide +kernel
theorem d_M_walksOn_411 : decode y_M_walksOn.2.1 411 = .ok (.iload_n 1, 1) := by decide +kernel
theorem d_M_walksOn_412 : decode y_M_walksOn.2.1 412 = .ok (.imul, 1) := by decide +kernel
theorem d_M_walksOn_413 : decode y_M_walksOn.2.1 413 = .ok (.iload_n 2, 1) := by decide +kernel
theorem d_M_walksOn_414 : decode y_M_walksOn.2.1 414 = .ok (.iadd, 1) := by decide +kernel
theorem d_M_walksOn_415 : decode y_M_walksOn.2.1 415 = .ok (.iload_n 3, 1) := by decide +kernel
theorem d_M_walksOn_416 : decode y_M_walksOn.2.1 416 = .ok (.iastore, 1) := by decide +kernel
theorem d_M_walksOn_417 : decode y_M_walksOn.2.1 417 = .ok (.iinc 2 1, 3) := by decide +kernel
theorem d_M_walksOn_420 : decode y_M_walksOn.2.1 420 = .ok (.goto (-169), 3) := by decide +kernel
theorem d_M_walksOn_423 : decode y_M_walksOn.2.1 423 = .ok (.iinc 1 (-1), 3) := by decide +kernel
theorem d_M_walksOn_426 : decode y_M_walksOn.2.1 426 = .ok (.goto (-181), 3) := by decide +kernel
theorem d_M_walksOn_429 : decode y_M_walksOn.2.1 429 = .ok (.return_, 1) := by decide +kernel
theorem d_M_reach_0 : decode y_M_reach.2.1 0 = .ok (.aload_n 0, 1) := by decide +kernel
theorem d_M_reach_1 : decode y_M_reach.2.1 1 = .ok (.iconst 0, 1) := by decide +kernel
theorem d_M_reach_2 : decode y_M_reach.2.1 2 = .ok (.putfield 217, 3) := by decide +kernel
theorem d_M_reach_5 : decode y_M_reach.2.1 5 = .ok (.aload_n 0, 1) := by decide +kernel
theorem d_M_reach_6 : decode y_M_reach.2.1 6 = .ok (.iload 4, 2) := by decide +kernel
theorem d_M_reach_8 : decode y_M_reach.2.1 8 = .ok (.invokevirtual 362, 3) := by decide +kernel
theorem d_M_reach_11 : decode y_M_reach.2.1 11 = .ok (.ifCond .eq 12, 3) := by decide +kernel
theorem d_M_reach_14 : decode y_M_reach.2.1 14 = .ok (.aload_n 0, 1) := by decide +kernel
theorem d_M_reach_15 : decode y_M_reach.2.1 15 = .ok (.iload 5, 2) := by decide +kernel
theorem d_M_reach_17 : decode y_M_reach.2.1 17 = .ok (.invokevirtual 293, 3) := by decide +kernel
theorem d_M_reach_20 : decode y_M_reach.2.1 20 = .ok (.ifCond .ne 9, 3) := by decide +kernel
theorem d_M_reach_23 : decode y_M_reach.2.1 23 = .ok (.aload_n 0, 1) := by decide +kernel
theorem d_M_reach_24 : decode y_M_reach.2.1 24 = .ok (.iconst 1, 1) := by decide +kernel
theorem d_M_reach_25 : decode y_M_reach.2.1 25 = .ok (.invokevirtual 285, 3) := by decide +kernel
theorem d_M_reach_28 : decode y_M_reach.2.1 28 = .ok (.ireturn, 1) := by decide +kernel
theorem d_M_reach_29 : decode y_M_reach.2.1 29 = .ok (.iload_n 1, 1) := by decide +kernel
theorem d_M_reach_30 : decode y_M_reach.2.1 30 = .ok (.iload_n 2, 1) := by decide +kernel
theorem d_M_reach_31 : decode y_M_reach.2.1 31 = .ok (.iload_n 3, 1) := by decide +kernel
theorem d_M_reach_32 : decode y_M_reach.2.1 32 = .ok (.invokestatic 365, 3) := by decide +kernel
theorem d_M_reach_35 : decode y_M_reach.2.1 35 = .ok (.ifCond .eq 16, 3) := by decide +kernel
theorem d_M_reach_38 : decode y_M_reach.2.1 38 = .ok (.iload 6, 2) := by decide +kernel
theorem d_M_reach_40 : decode y_M_reach.2.1 40 = .ok (.i2l, 1) := by decide +kernel
theorem d_M_reach_41 : decode y_M_reach.2.1 41 = .ok (.lconst 0, 1) := by decide +kernel
theorem d_M_reach_42 : decode y_M_reach.2.1 42 = .ok (.ldc2_w 281, 3) := by decide +kernel
theorem d_M_reach_45 : decode y_M_reach.2.1 45 = .ok (.invokestatic 222, 3) := by decide +kernel
theorem d_M_reach_48 : decode y_M_reach.2.1 48 = .ok (.ifCond .ne 9, 3) := by decide +kernel
theorem d_M_reach_51 : decode y_M_reach.2.1 51 = .ok (.aload_n 0, 1) := by decide +kernel
theorem d_M_reach_52 : decode y_M_reach.2.1 52 = .ok (.iconst 2, 1) := by decide +kernel
theorem d_M_reach_53 : decode y_M_reach.2.1 53 = .ok (.invokevirtual 285, 3) := by decide +kernel
theorem d_M_reach_56 : decode y_M_reach.2.1 56 = .ok (.ireturn, 1) := by decide +kernel
theorem d_M_reach_57 : decode y_M_reach.2.1 57 = .ok (.aload_n 0, 1) := by decide +kernel
theorem d_M_reach_58 : decode y_M_reach.2.1 58 = .ok (.iload_n 1, 1) := by decide +kernel
theorem d_M_reach_59 : decode y_M_reach.2.1 59 = .ok (.iload_n 2, 1) := by decide +kernel
theorem d_M_reach_60 : decode y_M_reach.2.1 60 = .ok (.iload_n 3, 1) := by decide +kernel
theorem d_M_reach_61 : decode y_M_reach.2.1 61 = .ok (.iload 4, 2) := by decide +kernel
theorem d_M_reach_63 : decode y_M_reach.2.1 63 = .ok (.invokevirtual 369, 3) := by decide +kernel
theorem d_M_reach_66 : decode y_M_reach.2.1 66 = .ok (.aload_n 0, 1) := by decide +kernel
theorem d_M_reach_67 : decode y_M_reach.2.1 67 = .ok (.invokevirtual 461, 3) := by decide +kernel
theorem d_M_reach_70 : decode y_M_reach.2.1 70 = .ok (.iconst 0, 1) := by decide +kernel
theorem d_M_reach_71 : decode y_M_reach.2.1 71 = .ok (.istore 7, 2) := by decide +kernel
theorem d_M_reach_73 : decode y_M_reach.2.1 73 = .ok (.iload 7, 2) := by decide +kernel
theorem d_M_reach_75 : decode y_M_reach.2.1 75 = .ok (.bipush 20, 2) := by decide +kernel
theorem d_M_reach_77 : decode y_M_reach.2.1 77 = .ok (.if_icmp .gt 44, 3) := by decide +kernel
theorem d_M_reach_80 : decode y_M_reach.2.1 80 = .ok (.aload_n 0, 1) := by decide +kernel
theorem d_M_reach_81 : decode y_M_reach.2.1 81 = .ok (.getfield 186, 3) := by decide +kernel
theorem d_M_reach_84 : decode y_M_reach.2.1 84 = .ok (.bipush 8, 2) := by decide +kernel
theorem d_M_reach_86 : decode y_M_reach.2.1 86 = .ok (.iload 7, 2) := by decide +kernel
theorem d_M_reach_88 : decode y_M_reach.2.1 88 = .ok (.imul, 1) := by decide +kernel
theorem d_M_reach_89 : decode y_M_reach.2.1 89 = .ok (.iload 5, 2) := by decide +kernel
theorem d_M_reach_91 : decode y_M_reach.2.1 91 = .ok (.iadd, 1) := by decide +kernel
theorem d_M_reach_92 : decode y_M_reach.2.1 92 = .ok (.iaload, 1) := by decide +kernel
theorem d_M_reach_93 : decode y_M_reach.2.1 93 = .ok (.aload_n 0, 1) := by decide +kernel
theorem d_M_reach_94 : decode y_M_reach.2.1 94 = .ok (.getfield 189, 3) := by decide +kernel
theorem d_M_reach_97 : decode y_M_reach.2.1 97 = .ok (.bipush 8, 2) := by decide +kernel
theorem d_M_reach_99 : decode y_M_reach.2.1 99 = .ok (.iload 7, 2) := by decide +kernel
theorem d_M_reach_101 : decode y_M_reach.2.1 101 = .ok (.imul, 1) := by decide +kernel
theorem d_M_reach_102 : decode y_M_reach.2.1 102 = .ok (.iload 5, 2) := by decide +kernel
theorem d_M_reach_104 : decode y_M_reach.2.1 104 = .ok (.iadd, 1) := by decide +kernel
theorem d_M_reach_105 : decode y_M_reach.2.1 105 = .ok (.iaload, 1) := by decide +kernel
theorem d_M_reach_106 : decode y_M_reach.2.1 106 = .ok (.iadd, 1) := by decide +kernel
theorem d_M_reach_107 : decode y_M_reach.2.1 107 = .ok (.iload 6, 2) := by decide +kernel
theorem d_M_reach_109 : decode y_M_reach.2.1 109 = .ok (.if_icmp .gt 6, 3) := by decide +kernel
theorem d_M_reach_112 : decode y_M_reach.2.1 112 = .ok (.iload 7, 2) := by decide +kernel
theorem d_M_reach_114 : decode y_M_reach.2.1 114 = .ok (.ireturn, 1) := by decide +kernel
theorem d_M_reach_115 : decode y_M_reach.2.1 115 = .ok (.iinc 7 1, 3) := by decide +kernel
theorem d_M_reach_118 : decode y_M_reach.2.1 118 = .ok (.goto (-45), 3) := by decide +kernel
theorem d_M_reach_121 : decode y_M_reach.2.1 121 = .ok (.iconst (-1), 1) := by decide +kernel
theorem d_M_reach_122 : decode y_M_reach.2.1 122 = .ok (.ireturn, 1) := by decide +kernel
theorem d_M_drill_0 : decode y_M_drill.2.1 0 = .ok (.aload_n 0, 1) := by decide +kernel
theorem d_M_drill_1 : decode y_M_drill.2.1 1 = .ok (.iconst 0, 1) := by decide +kernel
theorem d_M_drill_2 : decode y_M_drill.2.1 2 = .ok (.putfield 217, 3) := by decide +kernel
theorem d_M_drill_5 : decode y_M_drill.2.1 5 = .ok (.iload_n 1, 1) := by decide +kernel
theorem d_M_drill_6 : decode y_M_drill.2.1 6 = .ok (.invokestatic 305, 3) := by decide +kernel
theorem d_M_drill_9 : decode y_M_drill.2.1 9 = .ok (.ifCond .eq 15, 3) := by decide +kernel
theorem d_M_drill_12 : decode y_M_drill.2.1 12 = .ok (.iload_n 2, 1) := by decide +kernel
theorem d_M_drill_13 : decode y_M_drill.2.1 13 = .ok (.i2l, 1) := by decide +kernel
theorem d_M_drill_14 : decode y_M_drill.2.1 14 = .ok (.lconst 0, 1) := by decide +kernel
theorem d_M_drill_15 : decode y_M_drill.2.1 15 = .ok (.ldc2_w 464, 3) := by decide +kernel
theorem d_M_drill_18 : decode y_M_drill.2.1 18 = .ok (.invokestatic 222, 3) := by decide +kernel
theorem d_M_drill_21 : decode y_M_drill.2.1 21 = .ok (.ifCond .ne 9, 3) := by decide +kernel
theorem d_M_drill_24 : decode y_M_drill.2.1 24 = .ok (.aload_n 0, 1) := by decide +kernel
theorem d_M_drill_25 : decode y_M_drill.2.1 25 = .ok (.iconst 1, 1) := by decide +kernel
theorem d_M_drill_26 : decode y_M_drill.2.1 26 = .ok (.invokevirtual 285, 3) := by decide +kernel
theorem d_M_drill_29 : decode y_M_drill.2.1 29 = .ok (.ireturn, 1) := by decide +kernel
theorem d_M_drill_30 : decode y_M_drill.2.1 30 = .ok (.aload_n 0, 1) := by decide +kernel
theorem d_M_drill_31 : decode y_M_drill.2.1 31 = .ok (.getfield 275, 3) := by decide +kernel
theorem d_M_drill_34 : decode y_M_drill.2.1 34 = .ok (.bipush 10, 2) := by decide +kernel
theorem d_M_drill_36 : decode y_M_drill.2.1 36 = .ok (.if_icmp .ne 5, 3) := by decide +kernel
theorem d_M_drill_39 : decode y_M_drill.2.1 39 = .ok (.iconst (-1), 1) := by decide +kernel
theorem d_M_drill_40 : decode y_M_drill.2.1 40 = .ok (.ireturn, 1) := by decide +kernel
theorem d_M_drill_41 : decode y_M_drill.2.1 41 = .ok (.aload_n 0, 1) := by decide +kernel
theorem d_M_drill_42 : decode y_M_drill.2.1 42 = .ok (.bipush 12, 2) := by decide +kernel
theorem d_M_drill_44 : decode y_M_drill.2.1 44 = .ok (.iload_n 1, 1) := by decide +kernel
theorem d_M_drill_45 : decode y_M_drill.2.1 45 = .ok (.iload_n 2, 1) := by decide +kernel
theorem d_M_drill_46 : decode y_M_drill.2.1 46 = .ok (.iconst 0, 1) := by decide +kernel
theorem d_M_drill_47 : decode y_M_drill.2.1 47 = .ok (.iconst 0, 1) := by decide +kernel
theorem d_M_drill_48 : decode y_M_drill.2.1 48 = .ok (.iconst 0, 1) := by decide +kernel
theorem d_M_drill_49 : decode y_M_drill.2.1 49 = .ok (.iconst 0, 1) := by decide +kernel
theorem d_M_drill_50 : decode y_M_drill.2.1 50 = .ok (.invokevirtual 289, 3) := by decide +kernel
theorem d_M_drill_53 : decode y_M_drill.2.1 53 = .ok (.aload_n 0, 1) := by decide +kernel
theorem d_M_drill_54 : decode y_M_drill.2.1 54 = .ok (.getfield 275, 3) := by decide +kernel
theorem d_M_drill_57 : decode y_M_drill.2.1 57 = .ok (.iconst 1, 1) := by decide +kernel
theorem d_M_drill_58 : decode y_M_drill.2.1 58 = .ok (.isub, 1) := by decide +kernel
theorem d_M_drill_59 : decode y_M_drill.2.1 59 = .ok (.ireturn, 1) := by decide +kernel
theorem d_M_fit_0 : decode y_M_fit.2.1 0 = .ok (.aload_n 0, 1) := by decide +kernel
theorem d_M_fit_1 : decode y_M_fit.2.1 1 = .ok (.iconst 0, 1) := by decide +kernel
theorem d_M_fit_2 : decode y_M_fit.2.1 2 = .ok (.putfield 217, 3) := by decide +kernel
theorem d_M_fit_5 : decode y_M_fit.2.1 5 = .ok (.aload_n 0, 1) := by decide +kernel
theorem d_M_fit_6 : decode y_M_fit.2.1 6 = .ok (.iconst 0, 1) := by decide +kernel
theorem d_M_fit_7 : decode y_M_fit.2.1 7 = .ok (.iconst 0, 1) := by decide +kernel
theorem d_M_fit_8 : decode y_M_fit.2.1 8 = .ok (.iconst 0, 1) := by decide +kernel
theorem d_M_fit_9 : decode y_M_fit.2.1 9 = .ok (.iconst (-1), 1) := by decide +kernel
theorem d_M_fit_10 : decode y_M_fit.2.1 10 = .ok (.invokevirtual 369, 3) := by decide +kernel
theorem d_M_fit_13 : decode y_M_fit.2.1 13 = .ok (.iconst 0, 1) := by decide +kernel
theorem d_M_fit_14 : decode y_M_fit.2.1 14 = .ok (.istore_n 1, 1) := by decide +kernel
theorem d_M_fit_15 : decode y_M_fit.2.1 15 = .ok (.iconst 1, 1) := by decide +kernel
theorem d_M_fit_16 : decode y_M_fit.2.1 16 = .ok (.istore_n 2, 1) := by decide +kernel
theorem d_M_fit_17 : decode y_M_fit.2.1 17 = .ok (.iload_n 2, 1) := by decide +kernel
theorem d_M_fit_18 : decode y_M_fit.2.1 18 = .ok (.iconst 3, 1) := by decide +kernel
theorem d_M_fit_19 : decode y_M_fit.2.1 19 = .ok (.if_icmp .gt 81, 3) := by decide +kernel
theorem d_M_fit_22 : decode y_M_fit.2.1 22 = .ok (.iconst 1, 1) := by decide +kernel
theorem d_M_fit_23 : decode y_M_fit.2.1 23 = .ok (.istore_n 3, 1) := by decide +kernel
theorem d_M_fit_24 : decode y_M_fit.2.1 24 = .ok (.iconst 0, 1) := by decide +kernel
theorem d_M_fit_25 : decode y_M_fit.2.1 25 = .ok (.istore 4, 2) := by decide +kernel
theorem d_M_fit_27 : decode y_M_fit.2.1 27 = .ok (.iload 4, 2) := by decide +kernel
theorem d_M_fit_29 : decode y_M_fit.2.1 29 = .ok (.aload_n 0, 1) := by decide +kernel
theorem d_M_fit_30 : decode y_M_fit.2.1 30 = .ok (.getfield 275, 3) := by decide +kernel
theorem d_M_fit_33 : decode y_M_fit.2.1 33 = .ok (.if_icmp .ge 45, 3) := by decide +kernel
theorem d_M_fit_36 : decode y_M_fit.2.1 36 = .ok (.iload_n 3, 1) := by decide +kernel
theorem d_M_fit_37 : decode y_M_fit.2.1 37 = .ok (.ifCond .eq 41, 3) := by decide +kernel
theorem d_M_fit_40 : decode y_M_fit.2.1 40 = .ok (.aload_n 0, 1) := by decide +kernel
theorem d_M_fit_41 : decode y_M_fit.2.1 41 = .ok (.aload_n 0, 1) := by decide +kernel
theorem d_M_fit_42 : decode y_M_fit.2.1 42 = .ok (.getfield 111, 3) := by decide +kernel
theorem d_M_fit_45 : decode y_M_fit.2.1 45 = .ok (.iload 4, 2) := by decide +kernel
theorem d_M_fit_47 : decode y_M_fit.2.1 47 = .ok (.iaload, 1) := by decide +kernel
theorem d_M_fit_48 : decode y_M_fit.2.1 48 = .ok (.iload_n 2, 1) := by decide +kernel
theorem d_M_fit_49 : decode y_M_fit.2.1 49 = .ok (.aload_n 0, 1) := by decide +kernel
theorem d_M_fit_50 : decode y_M_fit.2.1 50 = .ok (.invokevirtual 405, 3) := by decide +kernel
theorem d_M_fit_53 : decode y_M_fit.2.1 53 = .ok (.invokevirtual 408, 3) := by decide +kernel
theorem d_M_fit_56 : decode y_M_fit.2.1 56 = .ok (.aload_n 0, 1) := by decide +kernel
theorem d_M_fit_57 : decode y_M_fit.2.1 57 = .ok (.getfield 114, 3) := by decide +kernel
theorem d_M_fit_60 : decode y_M_fit.2.1 60 = .ok (.iload 4, 2) := by decide +kernel
theorem d_M_fit_62 : decode y_M_fit.2.1 62 = .ok (.iaload, 1) := by decide +kernel
theorem d_M_fit_63 : decode y_M_fit.2.1 63 = .ok (.if_icmp .lt 7, 3) := by decide +kernel
theorem d_M_fit_66 : decode y_M_fit.2.1 66 = .ok (.iconst 1, 1) := by decide +kernel
theorem d_M_fit_67 : decode y_M_fit.2.1 67 = .ok (.goto 4, 3) := by decide +kernel
theorem d_M_fit_70 : decode y_M_fit.2.1 70 = .ok (.iconst 0, 1) := by decide +kernel
theorem d_M_fit_71 : decode y_M_fit.2.1 71 = .ok (.istore_n 3, 1) := by decide +kernel
theorem d_M_fit_72 : decode y_M_fit.2.1 72 = .ok (.iinc 4 1, 3) := by decide +kernel
theorem d_M_fit_75 : decode y_M_fit.2.1 75 = .ok (.goto (-48), 3) := by decide +kernel
theorem d_M_fit_78 : decode y_M_fit.2.1 78 = .ok (.iload_n 1, 1) := by decide +kernel
theorem d_M_fit_79 : decode y_M_fit.2.1 79 = .ok (.iload_n 3, 1) := by decide +kernel
theorem d_M_fit_80 : decode y_M_fit.2.1 80 = .ok (.ifCond .eq 11, 3) := by decide +kernel
theorem d_M_fit_83 : decode y_M_fit.2.1 83 = .ok (.iconst 1, 1) := by decide +kernel
theorem d_M_fit_84 : decode y_M_fit.2.1 84 = .ok (.iload_n 2, 1) := by decide +kernel
theorem d_M_fit_85 : decode y_M_fit.2.1 85 = .ok (.iconst 1, 1) := by decide +kernel
theorem d_M_fit_86 : decode y_M_fit.2.1 86 = .ok (.isub, 1) := by decide +kernel
theorem d_M_fit_87 : decode y_M_fit.2.1 87 = .ok (.ishl, 1) := by decide +kernel
theorem d_M_fit_88 : decode y_M_fit.2.1 88 = .ok (.goto 4, 3) := by decide +kernel
theorem d_M_fit_91 : decode y_M_fit.2.1 91 = .ok (.iconst 0, 1) := by decide +kernel
theorem d_M_fit_92 : decode y_M_fit.2.1 92 = .ok (.ior, 1) := by decide +kernel
theorem d_M_fit_93 : decode y_M_fit.2.1 93 = .ok (.istore_n 1, 1) := by decide +kernel
theorem d_M_fit_94 : decode y_M_fit.2.1 94 = .ok (.iinc 2 1, 3) := by decide +kernel
theorem d_M_fit_97 : decode y_M_fit.2.1 97 = .ok (.goto (-80), 3) := by decide +kernel
theorem d_M_fit_100 : decode y_M_fit.2.1 100 = .ok (.iload_n 1, 1) := by decide +kernel
theorem d_M_fit_101 : decode y_M_fit.2.1 101 = .ok (.ireturn, 1) := by decide +kernel
theorem d_M_tries_0 : decode y_M_tries.2.1 0 = .ok (.lload_n 3, 1) := by decide +kernel
theorem d_M_tries_1 : decode y_M_tries.2.1 1 = .ok (.aload_n 0, 1) := by decide +kernel
theorem d_M_tries_2 : decode y_M_tries.2.1 2 = .ok (.getfield 192, 3) := by decide +kernel
theorem d_M_tries_5 : decode y_M_tries.2.1 5 = .ok (.iload_n 1, 1) := by decide +kernel
theorem d_M_tries_6 : decode y_M_tries.2.1 6 = .ok (.laload, 1) := by decide +kernel
theorem d_M_tries_7 : decode y_M_tries.2.1 7 = .ok (.lcmp, 1) := by decide +kernel
theorem d_M_tries_8 : decode y_M_tries.2.1 8 = .ok (.ifCond .gt 25, 3) := by decide +kernel
theorem d_M_tries_11 : decode y_M_tries.2.1 11 = .ok (.lload_n 3, 1) := by decide +kernel
theorem d_M_tries_12 : decode y_M_tries.2.1 12 = .ok (.aload_n 0, 1) := by decide +kernel
theorem d_M_tries_13 : decode y_M_tries.2.1 13 = .ok (.getfield 192, 3) := by decide +kernel
theorem d_M_tries_16 : decode y_M_tries.2.1 16 = .ok (.iload_n 1, 1) := by decide +kernel
theorem d_M_tries_17 : decode y_M_tries.2.1 17 = .ok (.laload, 1) := by decide +kernel
theorem d_M_tries_18 : decode y_M_tries.2.1 18 = .ok (.lcmp, 1) := by decide +kernel
theorem d_M_tries_19 : decode y_M_tries.2.1 19 = .ok (.ifCond .ne 15, 3) := by decide +kernel
theorem d_M_tries_22 : decode y_M_tries.2.1 22 = .ok (.iload 5, 2) := by decide +kernel
theorem d_M_tries_24 : decode y_M_tries.2.1 24 = .ok (.aload_n 0, 1) := by decide +kernel
theorem d_M_tries_25 : decode y_M_tries.2.1 25 = .ok (.getfield 196, 3) := by decide +kernel
theorem d_M_tries_28 : decode y_M_tries.2.1 28 = .ok (.iload_n 1, 1) := by decide +kernel
theorem d_M_tries_29 : decode y_M_tries.2.1 29 = .ok (.iaload, 1) := by decide +kernel
theorem d_M_tries_30 : decode y_M_tries.2.1 30 = .ok (.if_icmp .lt 4, 3) := by decide +kernel
theorem d_M_tries_33 : decode y_M_tries.2.1 33 = .ok (.return_, 1) := by decide +kernel
theorem d_M_tries_34 : decode y_M_tries.2.1 34 = .ok (.aload_n 0, 1) := by decide +kernel
theorem d_M_tries_35 : decode y_M_tries.2.1 35 = .ok (.getfield 192, 3) := by decide +kernel
theorem d_M_tries_38 : decode y_M_tries.2.1 38 = .ok (.iload_n 1, 1) := by decide +kernel
theorem d_M_tries_39 : decode y_M_tries.2.1 39 = .ok (.lload_n 3, 1) := by decide +kernel
theorem d_M_tries_40 : decode y_M_tries.2.1 40 = .ok (.lastore, 1) := by decide +kernel
theorem d_M_tries_41 : decode y_M_tries.2.1 41 = .ok (.aload_n 0, 1) := by decide +kernel
theorem d_M_tries_42 : decode y_M_tries.2.1 42 = .ok (.getfield 196, 3) := by decide +kernel
theorem d_M_tries_45 : decode y_M_tries.2.1 45 = .ok (.iload_n 1, 1) := by decide +kernel
theorem d_M_tries_46 : decode y_M_tries.2.1 46 = .ok (.iload 5, 2) := by decide +kernel
theorem d_M_tries_48 : decode y_M_tries.2.1 48 = .ok (.iastore, 1) := by decide +kernel
theorem d_M_tries_49 : decode y_M_tries.2.1 49 = .ok (.aload_n 0, 1) := by decide +kernel
theorem d_M_tries_50 : decode y_M_tries.2.1 50 = .ok (.getfield 199, 3) := by decide +kernel
theorem d_M_tries_53 : decode y_M_tries.2.1 53 = .ok (.iload_n 1, 1) := by decide +kernel
theorem d_M_tries_54 : decode y_M_tries.2.1 54 = .ok (.iload_n 2, 1) := by decide +kernel
theorem d_M_tries_55 : decode y_M_tries.2.1 55 = .ok (.iastore, 1) := by decide +kernel
theorem d_M_tries_56 : decode y_M_tries.2.1 56 = .ok (.return_, 1) := by decide +kernel
theorem d_M_goesAlone_0 : decode y_M_goesAlone.2.1 0 = .ok (.bipush 8, 2) := by decide +kernel
theorem d_M_goesAlone_2 : decode y_M_goesAlone.2.1 2 = .ok (.iload_n 2, 1) := by decide +kernel
theorem d_M_goesAlone_3 : decode y_M_goesAlone.2.1 3 = .ok (.imul, 1) := by decide +kernel
theorem d_M_goesAlone_4 : decode y_M_goesAlone.2.1 4 = .ok (.iload_n 1, 1) := by decide +kernel
theorem d_M_goesAlone_5 : decode y_M_goesAlone.2.1 5 = .ok (.iadd, 1) := by decide +kernel
theorem d_M_goesAlone_6 : decode y_M_goesAlone.2.1 6 = .ok (.istore_n 3, 1) := by decide +kernel
theorem d_M_goesAlone_7 : decode y_M_goesAlone.2.1 7 = .ok (.aload_n 0, 1) := by decide +kernel
theorem d_M_goesAlone_8 : decode y_M_goesAlone.2.1 8 = .ok (.getfield 192, 3) := by decide +kernel
theorem d_M_goesAlone_11 : decode y_M_goesAlone.2.1 11 = .ok (.iload_n 3, 1) := by decide +kernel
theorem d_M_goesAlone_12 : decode y_M_goesAlone.2.1 12 = .ok (.ldc2_w 466, 3) := by decide +kernel
theorem d_M_goesAlone_15 : decode y_M_goesAlone.2.1 15 = .ok (.lastore, 1) := by decide +kernel
theorem d_M_goesAlone_16 : decode y_M_goesAlone.2.1 16 = .ok (.aload_n 0, 1) := by decide +kernel
theorem d_M_goesAlone_17 : decode y_M_goesAlone.2.1 17 = .ok (.getfield 196, 3) := by decide +kernel
theorem d_M_goesAlone_20 : decode y_M_goesAlone.2.1 20 = .ok (.iload_n 3, 1) := by decide +kernel
theorem d_M_goesAlone_21 : decode y_M_goesAlone.2.1 21 = .ok (.bipush 21, 2) := by decide +kernel
theorem d_M_goesAlone_23 : decode y_M_goesAlone.2.1 23 = .ok (.iastore, 1) := by decide +kernel
theorem d_M_goesAlone_24 : decode y_M_goesAlone.2.1 24 = .ok (.aload_n 0, 1) := by decide +kernel
theorem d_M_goesAlone_25 : decode y_M_goesAlone.2.1 25 = .ok (.getfield 199, 3) := by decide +kernel
theorem d_M_goesAlone_28 : decode y_M_goesAlone.2.1 28 = .ok (.iload_n 3, 1) := by decide +kernel
theorem d_M_goesAlone_29 : decode y_M_goesAlone.2.1 29 = .ok (.iconst (-1), 1) := by decide +kernel
theorem d_M_goesAlone_30 : decode y_M_goesAlone.2.1 30 = .ok (.iastore, 1) := by decide +kernel
theorem d_M_goesAlone_31 : decode y_M_goesAlone.2.1 31 = .ok (.aload_n 0, 1) := by decide +kernel
theorem d_M_goesAlone_32 : decode y_M_goesAlone.2.1 32 = .ok (.iload_n 1, 1) := by decide +kernel
theorem d_M_goesAlone_33 : decode y_M_goesAlone.2.1 33 = .ok (.iload_n 2, 1) := by decide +kernel
theorem d_M_goesAlone_34 : decode y_M_goesAlone.2.1 34 = .ok (.invokevirtual 372, 3) := by decide +kernel
theorem d_M_goesAlone_37 : decode y_M_goesAlone.2.1 37 = .ok (.ifCond .ne 9, 3) := by decide +kernel
theorem d_M_goesAlone_40 : decode y_M_goesAlone.2.1 40 = .ok (.iload_n 2, 1) := by decide +kernel
theorem d_M_goesAlone_41 : decode y_M_goesAlone.2.1 41 = .ok (.bipush 20, 2) := by decide +kernel
theorem d_M_goesAlone_43 : decode y_M_goesAlone.2.1 43 = .ok (.if_icmp .ne 4, 3) := by decide +kernel
theorem d_M_goesAlone_46 : decode y_M_goesAlone.2.1 46 = .ok (.return_, 1) := by decide +kernel
theorem d_M_goesAlone_47 : decode y_M_goesAlone.2.1 47 = .ok (.aload_n 0, 1) := by decide +kernel
theorem d_M_goesAlone_48 : decode y_M_goesAlone.2.1 48 = .ok (.iload_n 1, 1) := by decide +kernel
theorem d_M_goesAlone_49 : decode y_M_goesAlone.2.1 49 = .ok (.aload_n 0, 1) := by decide +kernel
theorem d_M_goesAlone_50 : decode y_M_goesAlone.2.1 50 = .ok (.invokevirtual 405, 3) := by decide +kernel
theorem d_M_goesAlone_53 : decode y_M_goesAlone.2.1 53 = .ok (.invokevirtual 388, 3) := by decide +kernel
theorem d_M_goesAlone_56 : decode y_M_goesAlone.2.1 56 = .ok (.ifCond .le 19, 3) := by decide +kernel
theorem d_M_goesAlone_59 : decode y_M_goesAlone.2.1 59 = .ok (.aload_n 0, 1) := by decide +kernel
theorem d_M_goesAlone_60 : decode y_M_goesAlone.2.1 60 = .ok (.iload_n 3, 1) := by decide +kernel
theorem d_M_goesAlone_61 : decode y_M_goesAlone.2.1 61 = .ok (.iconst 0, 1) := by decide +kernel
theorem d_M_goesAlone_62 : decode y_M_goesAlone.2.1 62 = .ok (.aload_n 0, 1) := by decide +kernel
theorem d_M_goesAlone_63 : decode y_M_goesAlone.2.1 63 = .ok (.getfield 132, 3) := by decide +kernel
theorem d_M_goesAlone_66 : decode y_M_goesAlone.2.1 66 = .ok (.iload_n 3, 1) := by decide +kernel
theorem d_M_goesAlone_67 : decode y_M_goesAlone.2.1 67 = .ok (.iaload, 1) := by decide +kernel
theorem d_M_goesAlone_68 : decode y_M_goesAlone.2.1 68 = .ok (.i2l, 1) := by decide +kernel
theorem d_M_goesAlone_69 : decode y_M_goesAlone.2.1 69 = .ok (.iload_n 2, 1) := by decide +kernel
theorem d_M_goesAlone_70 : decode y_M_goesAlone.2.1 70 = .ok (.iconst 1, 1) := by decide +kernel
theorem d_M_goesAlone_71 : decode y_M_goesAlone.2.1 71 = .ok (.iadd, 1) := by decide +kernel
theorem d_M_goesAlone_72 : decode y_M_goesAlone.2.1 72 = .ok (.invokevirtual 468, 3) := by decide +kernel
theorem d_M_goesAlone_75 : decode y_M_goesAlone.2.1 75 = .ok (.aload_n 0, 1) := by decide +kernel
theorem d_M_goesAlone_76 : decode y_M_goesAlone.2.1 76 = .ok (.iload_n 3, 1) := by decide +kernel
theorem d_M_goesAlone_77 : decode y_M_goesAlone.2.1 77 = .ok (.iconst 1, 1) := by decide +kernel
theorem d_M_goesAlone_78 : decode y_M_goesAlone.2.1 78 = .ok (.aload_n 0, 1) := by decide +kernel
theorem d_M_goesAlone_79 : decode y_M_goesAlone.2.1 79 = .ok (.getfield 132, 3) := by decide +kernel
theorem d_M_goesAlone_82 : decode y_M_goesAlone.2.1 82 = .ok (.iload_n 3, 1) := by decide +kernel
theorem d_M_goesAlone_83 : decode y_M_goesAlone.2.1 83 = .ok (.iaload, 1) := by decide +kernel
theorem d_M_goesAlone_84 : decode y_M_goesAlone.2.1 84 = .ok (.i2l, 1) := by decide +kernel
theorem d_M_goesAlone_85 : decode y_M_goesAlone.2.1 85 = .ok (.aload_n 0, 1) := by decide +kernel
theorem d_M_goesAlone_86 : decode y_M_goesAlone.2.1 86 = .ok (.getfield 192, 3) := by decide +kernel
theorem d_M_goesAlone_89 : decode y_M_goesAlone.2.1 89 = .ok (.iload_n 3, 1) := by decide +kernel
theorem d_M_goesAlone_90 : decode y_M_goesAlone.2.1 90 = .ok (.bipush 8, 2) := by decide +kernel
theorem d_M_goesAlone_92 : decode y_M_goesAlone.2.1 92 = .ok (.iadd, 1) := by decide +kernel
theorem d_M_goesAlone_93 : decode y_M_goesAlone.2.1 93 = .ok (.laload, 1) := by decide +kernel
theorem d_M_goesAlone_94 : decode y_M_goesAlone.2.1 94 = .ok (.ladd, 1) := by decide +kernel
theorem d_M_goesAlone_95 : decode y_M_goesAlone.2.1 95 = .ok (.aload_n 0, 1) := by decide +kernel
theorem d_M_goesAlone_96 : decode y_M_goesAlone.2.1 96 = .ok (.getfield 196, 3) := by decide +kernel
theorem d_M_goesAlone_99 : decode y_M_goesAlone.2.1 99 = .ok (.iload_n 3, 1) := by decide +kernel
theorem d_M_goesAlone_100 : decode y_M_goesAlone.2.1 100 = .ok (.bipush 8, 2) := by decide +kernel
theorem d_M_goesAlone_102 : decode y_M_goesAlone.2.1 102 = .ok (.iadd, 1) := by decide +kernel
theorem d_M_goesAlone_103 : decode y_M_goesAlone.2.1 103 = .ok (.iaload, 1) := by decide +kernel
theorem d_M_goesAlone_104 : decode y_M_goesAlone.2.1 104 = .ok (.invokevirtual 468, 3) := by decide +kernel
theorem d_M_goesAlone_107 : decode y_M_goesAlone.2.1 107 = .ok (.iconst 0, 1) := by decide +kernel
theorem d_M_goesAlone_108 : decode y_M_goesAlone.2.1 108 = .ok (.istore 4, 2) := by decide +kernel
theorem d_M_goesAlone_110 : decode y_M_goesAlone.2.1 110 = .ok (.iload 4, 2) := by decide +kernel
theorem d_M_goesAlone_112 : decode y_M_goesAlone.2.1 112 = .ok (.aload_n 0, 1) := by decide +kernel
theorem d_M_goesAlone_113 : decode y_M_goesAlone.2.1 113 = .ok (.getfield 250, 3) := by decide +kernel
theorem d_M_goesAlone_116 : decode y_M_goesAlone.2.1 116 = .ok (.if_icmp .ge 91, 3) := by decide +kernel
theorem d_M_goesAlone_119 : decode y_M_goesAlone.2.1 119 = .ok (.iload_n 2, 1) := by decide +kernel
theorem d_M_goesAlone_120 : decode y_M_goesAlone.2.1 120 = .ok (.aload_n 0, 1) := by decide +kernel
theorem d_M_goesAlone_121 : decode y_M_goesAlone.2.1 121 = .ok (.getfield 38, 3) := by decide +kernel
theorem d_M_goesAlone_124 : decode y_M_goesAlone.2.1 124 = .ok (.iload 4, 2) := by decide +kernel
theorem d_M_goesAlone_126 : decode y_M_goesAlone.2.1 126 = .ok (.iaload, 1) := by decide +kernel
theorem d_M_goesAlone_127 : decode y_M_goesAlone.2.1 127 = .ok (.aload_n 0, 1) := by decide +kernel
theorem d_M_goesAlone_128 : decode y_M_goesAlone.2.1 128 = .ok (.getfield 13, 3) := by decide +kernel
theorem d_M_goesAlone_131 : decode y_M_goesAlone.2.1 131 = .ok (.imul, 1) := by decide +kernel
theorem d_M_goesAlone_132 : decode y_M_goesAlone.2.1 132 = .ok (.iadd, 1) := by decide +kernel
theorem d_M_goesAlone_133 : decode y_M_goesAlone.2.1 133 = .ok (.istore 5, 2) := by decide +kernel
theorem d_M_goesAlone_135 : decode y_M_goesAlone.2.1 135 = .ok (.aload_n 0, 1) := by decide +kernel
theorem d_M_goesAlone_136 : decode y_M_goesAlone.2.1 136 = .ok (.iload_n 1, 1) := by decide +kernel
theorem d_M_goesAlone_137 : decode y_M_goesAlone.2.1 137 = .ok (.iload 4, 2) := by decide +kernel
theorem d_M_goesAlone_139 : decode y_M_goesAlone.2.1 139 = .ok (.invokevirtual 332, 3) := by decide +kernel
theorem d_M_goesAlone_142 : decode y_M_goesAlone.2.1 142 = .ok (.ifCond .eq 59, 3) := by decide +kernel
theorem d_M_goesAlone_145 : decode y_M_goesAlone.2.1 145 = .ok (.iload 5, 2) := by decide +kernel
theorem d_M_goesAlone_147 : decode y_M_goesAlone.2.1 147 = .ok (.bipush 20, 2) := by decide +kernel
theorem d_M_goesAlone_149 : decode y_M_goesAlone.2.1 149 = .ok (.if_icmp .le 6, 3) := by decide +kernel
theorem d_M_goesAlone_152 : decode y_M_goesAlone.2.1 152 = .ok (.goto 49, 3) := by decide +kernel
theorem d_M_goesAlone_155 : decode y_M_goesAlone.2.1 155 = .ok (.bipush 8, 2) := by decide +kernel
theorem d_M_goesAlone_157 : decode y_M_goesAlone.2.1 157 = .ok (.iload 5, 2) := by decide +kernel
theorem d_M_goesAlone_159 : decode y_M_goesAlone.2.1 159 = .ok (.imul, 1) := by decide +kernel
theorem d_M_goesAlone_160 : decode y_M_goesAlone.2.1 160 = .ok (.aload_n 0, 1) := by decide +kernel
theorem d_M_goesAlone_161 : decode y_M_goesAlone.2.1 161 = .ok (.iload_n 1, 1) := by decide +kernel
theorem d_M_goesAlone_162 : decode y_M_goesAlone.2.1 162 = .ok (.iload 4, 2) := by decide +kernel
theorem d_M_goesAlone_164 : decode y_M_goesAlone.2.1 164 = .ok (.invokevirtual 342, 3) := by decide +kernel
theorem d_M_goesAlone_167 : decode y_M_goesAlone.2.1 167 = .ok (.iadd, 1) := by decide +kernel
theorem d_M_goesAlone_168 : decode y_M_goesAlone.2.1 168 = .ok (.istore 6, 2) := by decide +kernel
theorem d_M_goesAlone_170 : decode y_M_goesAlone.2.1 170 = .ok (.aload_n 0, 1) := by decide +kernel
theorem d_M_goesAlone_171 : decode y_M_goesAlone.2.1 171 = .ok (.iload_n 3, 1) := by decide +kernel
theorem d_M_goesAlone_172 : decode y_M_goesAlone.2.1 172 = .ok (.iconst 2, 1) := by decide +kernel
theorem d_M_goesAlone_173 : decode y_M_goesAlone.2.1 173 = .ok (.iload 4, 2) := by decide +kernel
theorem d_M_goesAlone_175 : decode y_M_goesAlone.2.1 175 = .ok (.iadd, 1) := by decide +kernel
theorem d_M_goesAlone_176 : decode y_M_goesAlone.2.1 176 = .ok (.aload_n 0, 1) := by decide +kernel
theorem d_M_goesAlone_177 : decode y_M_goesAlone.2.1 177 = .ok (.getfield 132, 3) := by decide +kernel
theorem d_M_goesAlone_180 : decode y_M_goesAlone.2.1 180 = .ok (.iload_n 3, 1) := by decide +kernel
theorem d_M_goesAlone_181 : decode y_M_goesAlone.2.1 181 = .ok (.iaload, 1) := by decide +kernel
theorem d_M_goesAlone_182 : decode y_M_goesAlone.2.1 182 = .ok (.i2l, 1) := by decide +kernel
theorem d_M_goesAlone_183 : decode y_M_goesAlone.2.1 183 = .ok (.aload_n 0, 1) := by decide +kernel
theorem d_M_goesAlone_184 : decode y_M_goesAlone.2.1 184 = .ok (.getfield 192, 3) := by decide +kernel
theorem d_M_goesAlone_187 : decode y_M_goesAlone.2.1 187 = .ok (.iload 6, 2) := by decide +kernel
theorem d_M_goesAlone_189 : decode y_M_goesAlone.2.1 189 = .ok (.laload, 1) := by decide +kernel
theorem d_M_goesAlone_190 : decode y_M_goesAlone.2.1 190 = .ok (.ladd, 1) := by decide +kernel
theorem d_M_goesAlone_191 : decode y_M_goesAlone.2.1 191 = .ok (.aload_n 0, 1) := by decide +kernel
theorem d_M_goesAlone_192 : decode y_M_goesAlone.2.1 192 = .ok (.getfield 196, 3) := by decide +kernel
theorem d_M_goesAlone_195 : decode y_M_goesAlone.2.1 195 = .ok (.iload 6, 2) := by decide +kernel
theorem d_M_goesAlone_197 : decode y_M_goesAlone.2.1 197 = .ok (.iaload, 1) := by decide +kernel
theorem d_M_goesAlone_198 : decode y_M_goesAlone.2.1 198 = .ok (.invokevirtual 468, 3) := by decide +kernel
theorem d_M_goesAlone_201 : decode y_M_goesAlone.2.1 201 = .ok (.iinc 4 1, 3) := by decide +kernel
theorem d_M_goesAlone_204 : decode y_M_goesAlone.2.1 204 = .ok (.goto (-94), 3) := by decide +kernel
theorem d_M_goesAlone_207 : decode y_M_goesAlone.2.1 207 = .ok (.return_, 1) := by decide +kernel
theorem d_M_alone_0 : decode y_M_alone.2.1 0 = .ok (.aload_n 0, 1) := by decide +kernel
theorem d_M_alone_1 : decode y_M_alone.2.1 1 = .ok (.iload_n 1, 1) := by decide +kernel
theorem d_M_alone_2 : decode y_M_alone.2.1 2 = .ok (.iload_n 2, 1) := by decide +kernel
theorem d_M_alone_3 : decode y_M_alone.2.1 3 = .ok (.iload_n 3, 1) := by decide +kernel
theorem d_M_alone_4 : decode y_M_alone.2.1 4 = .ok (.iload 4, 2) := by decide +kernel
theorem d_M_alone_6 : decode y_M_alone.2.1 6 = .ok (.invokevirtual 369, 3) := by decide +kernel
theorem d_M_alone_9 : decode y_M_alone.2.1 9 = .ok (.bipush 20, 2) := by decide +kernel
theorem d_M_alone_11 : decode y_M_alone.2.1 11 = .ok (.istore 5, 2) := by decide +kernel
theorem d_M_alone_13 : decode y_M_alone.2.1 13 = .ok (.iload 5, 2) := by decide +kernel
theorem d_M_alone_15 : decode y_M_alone.2.1 15 = .ok (.ifCond .lt 35, 3) := by decide +kernel
theorem d_M_alone_18 : decode y_M_alone.2.1 18 = .ok (.iconst 0, 1) := by decide +kernel
theorem d_M_alone_19 : decode y_M_alone.2.1 19 = .ok (.istore 6, 2) := by decide +kernel
theorem d_M_alone_21 : decode y_M_alone.2.1 21 = .ok (.iload 6, 2) := by decide +kernel
theorem d_M_alone_23 : decode y_M_alone.2.1 23 = .ok (.aload_n 0, 1) := by decide +kernel
theorem d_M_alone_24 : decode y_M_alone.2.1 24 = .ok (.getfield 228, 3) := by decide +kernel
theorem d_M_alone_27 : decode y_M_alone.2.1 27 = .ok (.if_icmp .ge 17, 3) := by decide +kernel
theorem d_M_alone_30 : decode y_M_alone.2.1 30 = .ok (.aload_n 0, 1) := by decide +kernel
theorem d_M_alone_31 : decode y_M_alone.2.1 31 = .ok (.iload 6, 2) := by decide +kernel
theorem d_M_alone_33 : decode y_M_alone.2.1 33 = .ok (.iload 5, 2) := by decide +kernel
theorem d_M_alone_35 : decode y_M_alone.2.1 35 = .ok (.invokevirtual 472, 3) := by decide +kernel
theorem d_M_alone_38 : decode y_M_alone.2.1 38 = .ok (.iinc 6 1, 3) := by decide +kernel
theorem d_M_alone_41 : decode y_M_alone.2.1 41 = .ok (.goto (-20), 3) := by decide +kernel
theorem d_M_alone_44 : decode y_M_alone.2.1 44 = .ok (.iinc 5 (-1), 3) := by decide +kernel
theorem d_M_alone_47 : decode y_M_alone.2.1 47 = .ok (.goto (-34), 3) := by decide +kernel
theorem d_M_alone_50 : decode y_M_alone.2.1 50 = .ok (.return_, 1) := by decide +kernel
theorem d_M_refuses_0 : decode y_M_refuses.2.1 0 = .ok (.aload_n 0, 1) := by decide +kernel
theorem d_M_refuses_1 : decode y_M_refuses.2.1 1 = .ok (.iload 4, 2) := by decide +kernel
theorem d_M_refuses_3 : decode y_M_refuses.2.1 3 = .ok (.invokevirtual 362, 3) := by decide +kernel
theorem d_M_refuses_6 : decode y_M_refuses.2.1 6 = .ok (.ifCond .eq 12, 3) := by decide +kernel
theorem d_M_refuses_9 : decode y_M_refuses.2.1 9 = .ok (.aload_n 0, 1) := by decide +kernel
theorem d_M_refuses_10 : decode y_M_refuses.2.1 10 = .ok (.iload 5, 2) := by decide +kernel
theorem d_M_refuses_12 : decode y_M_refuses.2.1 12 = .ok (.invokevirtual 293, 3) := by decide +kernel
theorem d_M_refuses_15 : decode y_M_refuses.2.1 15 = .ok (.ifCond .ne 7, 3) := by decide +kernel
theorem d_M_refuses_18 : decode y_M_refuses.2.1 18 = .ok (.iconst 1, 1) := by decide +kernel
theorem d_M_refuses_19 : decode y_M_refuses.2.1 19 = .ok (.goto 25, 3) := by decide +kernel
theorem d_M_refuses_22 : decode y_M_refuses.2.1 22 = .ok (.iload_n 1, 1) := by decide +kernel
theorem d_M_refuses_23 : decode y_M_refuses.2.1 23 = .ok (.iload_n 2, 1) := by decide +kernel
theorem d_M_refuses_24 : decode y_M_refuses.2.1 24 = .ok (.iload_n 3, 1) := by decide +kernel
theorem d_M_refuses_25 : decode y_M_refuses.2.1 25 = .ok (.invokestatic 365, 3) := by decide +kernel
theorem d_M_refuses_28 : decode y_M_refuses.2.1 28 = .ok (.ifCond .eq 11, 3) := by decide +kernel
theorem d_M_refuses_31 : decode y_M_refuses.2.1 31 = .ok (.iload 6, 2) := by decide +kernel
theorem d_M_refuses_33 : decode y_M_refuses.2.1 33 = .ok (.invokestatic 305, 3) := by decide +kernel
theorem d_M_refuses_36 : decode y_M_refuses.2.1 36 = .ok (.ifCond .ne 7, 3) := by decide +kernel
theorem d_M_refuses_39 : decode y_M_refuses.2.1 39 = .ok (.iconst 2, 1) := by decide +kernel
theorem d_M_refuses_40 : decode y_M_refuses.2.1 40 = .ok (.goto 4, 3) := by decide +kernel
theorem d_M_refuses_43 : decode y_M_refuses.2.1 43 = .ok (.iconst 0, 1) := by decide +kernel
theorem d_M_refuses_44 : decode y_M_refuses.2.1 44 = .ok (.ireturn, 1) := by decide +kernel
theorem d_M_dose_0 : decode y_M_dose.2.1 0 = .ok (.aload_n 0, 1) := by decide +kernel
theorem d_M_dose_1 : decode y_M_dose.2.1 1 = .ok (.aload_n 0, 1) := by decide +kernel
theorem d_M_dose_2 : decode y_M_dose.2.1 2 = .ok (.iload_n 1, 1) := by decide +kernel
theorem d_M_dose_3 : decode y_M_dose.2.1 3 = .ok (.iload_n 2, 1) := by decide +kernel
theorem d_M_dose_4 : decode y_M_dose.2.1 4 = .ok (.iload_n 3, 1) := by decide +kernel
theorem d_M_dose_5 : decode y_M_dose.2.1 5 = .ok (.iload 4, 2) := by decide +kernel
theorem d_M_dose_7 : decode y_M_dose.2.1 7 = .ok (.iload 5, 2) := by decide +kernel
theorem d_M_dose_9 : decode y_M_dose.2.1 9 = .ok (.iload 6, 2) := by decide +kernel
theorem d_M_dose_11 : decode y_M_dose.2.1 11 = .ok (.invokevirtual 475, 3) := by decide +kernel
theorem d_M_dose_14 : decode y_M_dose.2.1 14 = .ok (.putfield 217, 3) := by decide +kernel
theorem d_M_dose_17 : decode y_M_dose.2.1 17 = .ok (.aload_n 0, 1) := by decide +kernel
theorem d_M_dose_18 : decode y_M_dose.2.1 18 = .ok (.getfield 217, 3) := by decide +kernel
theorem d_M_dose_21 : decode y_M_dose.2.1 21 = .ok (.ifCond .le 5, 3) := by decide +kernel
theorem d_M_dose_24 : decode y_M_dose.2.1 24 = .ok (.lconst 0, 1) := by decide +kernel
theorem d_M_dose_25 : decode y_M_dose.2.1 25 = .ok (.lreturn, 1) := by decide +kernel
theorem d_M_dose_26 : decode y_M_dose.2.1 26 = .ok (.aload_n 0, 1) := by decide +kernel
theorem d_M_dose_27 : decode y_M_dose.2.1 27 = .ok (.iload_n 1, 1) := by decide +kernel
theorem d_M_dose_28 : decode y_M_dose.2.1 28 = .ok (.iload_n 2, 1) := by decide +kernel
theorem d_M_dose_29 : decode y_M_dose.2.1 29 = .ok (.iload_n 3, 1) := by decide +kernel
theorem d_M_dose_30 : decode y_M_dose.2.1 30 = .ok (.iload 4, 2) := by decide +kernel
theorem d_M_dose_32 : decode y_M_dose.2.1 32 = .ok (.invokevirtual 479, 3) := by decide +kernel
theorem d_M_dose_35 : decode y_M_dose.2.1 35 = .ok (.aload_n 0, 1) := by decide +kernel
theorem d_M_dose_36 : decode y_M_dose.2.1 36 = .ok (.getfield 192, 3) := by decide +kernel
theorem d_M_dose_39 : decode y_M_dose.2.1 39 = .ok (.bipush 8, 2) := by decide +kernel
theorem d_M_dose_41 : decode y_M_dose.2.1 41 = .ok (.iload 6, 2) := by decide +kernel
theorem d_M_dose_43 : decode y_M_dose.2.1 43 = .ok (.imul, 1) := by decide +kernel
theorem d_M_dose_44 : decode y_M_dose.2.1 44 = .ok (.iload 5, 2) := by decide +kernel
theorem d_M_dose_46 : decode y_M_dose.2.1 46 = .ok (.iadd, 1) := by decide +kernel
theorem d_M_dose_47 : decode y_M_dose.2.1 47 = .ok (.laload, 1) := by decide +kernel
theorem d_M_dose_48 : decode y_M_dose.2.1 48 = .ok (.ldc2_w 466, 3) := by decide +kernel
theorem d_M_dose_51 : decode y_M_dose.2.1 51 = .ok (.lcmp, 1) := by decide +kernel
theorem d_M_dose_52 : decode y_M_dose.2.1 52 = .ok (.ifCond .ge 19, 3) := by decide +kernel
theorem d_M_dose_55 : decode y_M_dose.2.1 55 = .ok (.aload_n 0, 1) := by decide +kernel
theorem d_M_dose_56 : decode y_M_dose.2.1 56 = .ok (.getfield 192, 3) := by decide +kernel
theorem d_M_dose_59 : decode y_M_dose.2.1 59 = .ok (.bipush 8, 2) := by decide +kernel
theorem d_M_dose_61 : decode y_M_dose.2.1 61 = .ok (.iload 6, 2) := by decide +kernel
theorem d_M_dose_63 : decode y_M_dose.2.1 63 = .ok (.imul, 1) := by decide +kernel
theorem d_M_dose_64 : decode y_M_dose.2.1 64 = .ok (.iload 5, 2) := by decide +kernel
theorem d_M_dose_66 : decode y_M_dose.2.1 66 = .ok (.iadd, 1) := by decide +kernel
theorem d_M_dose_67 : decode y_M_dose.2.1 67 = .ok (.laload, 1) := by decide +kernel
theorem d_M_dose_68 : decode y_M_dose.2.1 68 = .ok (.goto 6, 3) := by decide +kernel
theorem d_M_dose_71 : decode y_M_dose.2.1 71 = .ok (.ldc2_w 317, 3) := by decide +kernel
theorem d_M_dose_74 : decode y_M_dose.2.1 74 = .ok (.lreturn, 1) := by decide +kernel
theorem d_M_outAt_0 : decode y_M_outAt.2.1 0 = .ok (.aload_n 0, 1) := by decide +kernel
theorem d_M_outAt_1 : decode y_M_outAt.2.1 1 = .ok (.aload_n 0, 1) := by decide +kernel
theorem d_M_outAt_2 : decode y_M_outAt.2.1 2 = .ok (.iload_n 1, 1) := by decide +kernel
theorem d_M_outAt_3 : decode y_M_outAt.2.1 3 = .ok (.iload_n 2, 1) := by decide +kernel
theorem d_M_outAt_4 : decode y_M_outAt.2.1 4 = .ok (.iload_n 3, 1) := by decide +kernel
theorem d_M_outAt_5 : decode y_M_outAt.2.1 5 = .ok (.iload 4, 2) := by decide +kernel
theorem d_M_outAt_7 : decode y_M_outAt.2.1 7 = .ok (.iload 5, 2) := by decide +kernel
theorem d_M_outAt_9 : decode y_M_outAt.2.1 9 = .ok (.iload 6, 2) := by decide +kernel
theorem d_M_outAt_11 : decode y_M_outAt.2.1 11 = .ok (.invokevirtual 475, 3) := by decide +kernel
theorem d_M_outAt_14 : decode y_M_outAt.2.1 14 = .ok (.putfield 217, 3) := by decide +kernel
theorem d_M_outAt_17 : decode y_M_outAt.2.1 17 = .ok (.aload_n 0, 1) := by decide +kernel
theorem d_M_outAt_18 : decode y_M_outAt.2.1 18 = .ok (.getfield 217, 3) := by decide +kernel
theorem d_M_outAt_21 : decode y_M_outAt.2.1 21 = .ok (.ifCond .le 5, 3) := by decide +kernel
theorem d_M_outAt_24 : decode y_M_outAt.2.1 24 = .ok (.iconst 0, 1) := by decide +kernel
theorem d_M_outAt_25 : decode y_M_outAt.2.1 25 = .ok (.ireturn, 1) := by decide +kernel
theorem d_M_outAt_26 : decode y_M_outAt.2.1 26 = .ok (.aload_n 0, 1) := by decide +kernel
theorem d_M_outAt_27 : decode y_M_outAt.2.1 27 = .ok (.iload_n 1, 1) := by decide +kernel
theorem d_M_outAt_28 : decode y_M_outAt.2.1 28 = .ok (.iload_n 2, 1) := by decide +kernel
theorem d_M_outAt_29 : decode y_M_outAt.2.1 29 = .ok (.iload_n 3, 1) := by decide +kernel
theorem d_M_outAt_30 : decode y_M_outAt.2.1 30 = .ok (.iload 4, 2) := by decide +kernel
theorem d_M_outAt_32 : decode y_M_outAt.2.1 32 = .ok (.invokevirtual 479, 3) := by decide +kernel
theorem d_M_outAt_35 : decode y_M_outAt.2.1 35 = .ok (.aload_n 0, 1) := by decide +kernel
theorem d_M_outAt_36 : decode y_M_outAt.2.1 36 = .ok (.getfield 192, 3) := by decide +kernel
theorem d_M_outAt_39 : decode y_M_outAt.2.1 39 = .ok (.bipush 8, 2) := by decide +kernel
theorem d_M_outAt_41 : decode y_M_outAt.2.1 41 = .ok (.iload 6, 2) := by decide +kernel
theorem d_M_outAt_43 : decode y_M_outAt.2.1 43 = .ok (.imul, 1) := by decide +kernel
theorem d_M_outAt_44 : decode y_M_outAt.2.1 44 = .ok (.iload 5, 2) := by decide +kernel
theorem d_M_outAt_46 : decode y_M_outAt.2.1 46 = .ok (.iadd, 1) := by decide +kernel
theorem d_M_outAt_47 : decode y_M_outAt.2.1 47 = .ok (.laload, 1) := by decide +kernel
theorem d_M_outAt_48 : decode y_M_outAt.2.1 48 = .ok (.ldc2_w 466, 3) := by decide +kernel
theorem d_M_outAt_51 : decode y_M_outAt.2.1 51 = .ok (.lcmp, 1) := by decide +kernel
theorem d_M_outAt_52 : decode y_M_outAt.2.1 52 = .ok (.ifCond .ge 19, 3) := by decide +kernel
theorem d_M_outAt_55 : decode y_M_outAt.2.1 55 = .ok (.aload_n 0, 1) := by decide +kernel
theorem d_M_outAt_56 : decode y_M_outAt.2.1 56 = .ok (.getfield 196, 3) := by decide +kernel
theorem d_M_outAt_59 : decode y_M_outAt.2.1 59 = .ok (.bipush 8, 2) := by decide +kernel
theorem d_M_outAt_61 : decode y_M_outAt.2.1 61 = .ok (.iload 6, 2) := by decide +kernel
theorem d_M_outAt_63 : decode y_M_outAt.2.1 63 = .ok (.imul, 1) := by decide +kernel
theorem d_M_outAt_64 : decode y_M_outAt.2.1 64 = .ok (.iload 5, 2) := by decide +kernel
theorem d_M_outAt_66 : decode y_M_outAt.2.1 66 = .ok (.iadd, 1) := by decide +kernel
theorem d_M_outAt_67 : decode y_M_outAt.2.1 67 = .ok (.iaload, 1) := by decide +kernel
theorem d_M_outAt_68 : decode y_M_outAt.2.1 68 = .ok (.goto 4, 3) := by decide +kernel
theorem d_M_outAt_71 : decode y_M_outAt.2.1 71 = .ok (.iconst (-1), 1) := by decide +kernel
theorem d_M_outAt_72 : decode y_M_outAt.2.1 72 = .ok (.ireturn, 1) := by decide +kernel
theorem d_M_whereAt_0 : decode y_M_whereAt.2.1 0 = .ok (.aload_n 0, 1) := by decide +kernel
theorem d_M_whereAt_1 : decode y_M_whereAt.2.1 1 = .ok (.aload_n 0, 1) := by decide +kernel
theorem d_M_whereAt_2 : decode y_M_whereAt.2.1 2 = .ok (.iload_n 1, 1) := by decide +kernel
theorem d_M_whereAt_3 : decode y_M_whereAt.2.1 3 = .ok (.iload_n 2, 1) := by decide +kernel
theorem d_M_whereAt_4 : decode y_M_whereAt.2.1 4 = .ok (.iload_n 3, 1) := by decide +kernel
theorem d_M_whereAt_5 : decode y_M_whereAt.2.1 5 = .ok (.iload 4, 2) := by decide +kernel
theorem d_M_whereAt_7 : decode y_M_whereAt.2.1 7 = .ok (.iload 5, 2) := by decide +kernel
theorem d_M_whereAt_9 : decode y_M_whereAt.2.1 9 = .ok (.iload 6, 2) := by decide +kernel
theorem d_M_whereAt_11 : decode y_M_whereAt.2.1 11 = .ok (.invokevirtual 475, 3) := by decide +kernel
theorem d_M_whereAt_14 : decode y_M_whereAt.2.1 14 = .ok (.putfield 217, 3) := by decide +kernel
theorem d_M_whereAt_17 : decode y_M_whereAt.2.1 17 = .ok (.aload_n 0, 1) := by decide +kernel
theorem d_M_whereAt_18 : decode y_M_whereAt.2.1 18 = .ok (.getfield 217, 3) := by decide +kernel
theorem d_M_whereAt_21 : decode y_M_whereAt.2.1 21 = .ok (.ifCond .ne 16, 3) := by decide +kernel
theorem d_M_whereAt_24 : decode y_M_whereAt.2.1 24 = .ok (.iload 7, 2) := by decide +kernel
theorem d_M_whereAt_26 : decode y_M_whereAt.2.1 26 = .ok (.invokestatic 305, 3) := by decide +kernel
theorem d_M_whereAt_29 : decode y_M_whereAt.2.1 29 = .ok (.ifCond .ne 8, 3) := by decide +kernel
theorem d_M_whereAt_32 : decode y_M_whereAt.2.1 32 = .ok (.aload_n 0, 1) := by decide +kernel
theorem d_M_whereAt_33 : decode y_M_whereAt.2.1 33 = .ok (.iconst 2, 1) := by decide +kernel
theorem d_M_whereAt_34 : decode y_M_whereAt.2.1 34 = .ok (.putfield 217, 3) := by decide +kernel
theorem d_M_whereAt_37 : decode y_M_whereAt.2.1 37 = .ok (.aload_n 0, 1) := by decide +kernel
theorem d_M_whereAt_38 : decode y_M_whereAt.2.1 38 = .ok (.getfield 217, 3) := by decide +kernel
theorem d_M_whereAt_41 : decode y_M_whereAt.2.1 41 = .ok (.ifCond .le 5, 3) := by decide +kernel
theorem d_M_whereAt_44 : decode y_M_whereAt.2.1 44 = .ok (.iconst 0, 1) := by decide +kernel
theorem d_M_whereAt_45 : decode y_M_whereAt.2.1 45 = .ok (.ireturn, 1) := by decide +kernel
theorem d_M_whereAt_46 : decode y_M_whereAt.2.1 46 = .ok (.aload_n 0, 1) := by decide +kernel
theorem d_M_whereAt_47 : decode y_M_whereAt.2.1 47 = .ok (.iload_n 1, 1) := by decide +kernel
theorem d_M_whereAt_48 : decode y_M_whereAt.2.1 48 = .ok (.iload_n 2, 1) := by decide +kernel
theorem d_M_whereAt_49 : decode y_M_whereAt.2.1 49 = .ok (.iload_n 3, 1) := by decide +kernel
theorem d_M_whereAt_50 : decode y_M_whereAt.2.1 50 = .ok (.iload 4, 2) := by decide +kernel
theorem d_M_whereAt_52 : decode y_M_whereAt.2.1 52 = .ok (.invokevirtual 479, 3) := by decide +kernel
theorem d_M_whereAt_55 : decode y_M_whereAt.2.1 55 = .ok (.iconst 0, 1) := by decide +kernel
theorem d_M_whereAt_56 : decode y_M_whereAt.2.1 56 = .ok (.istore 8, 2) := by decide +kernel
theorem d_M_whereAt_58 : decode y_M_whereAt.2.1 58 = .ok (.iload 8, 2) := by decide +kernel
theorem d_M_whereAt_60 : decode y_M_whereAt.2.1 60 = .ok (.bipush 20, 2) := by decide +kernel
theorem d_M_whereAt_62 : decode y_M_whereAt.2.1 62 = .ok (.if_icmp .gt 17, 3) := by decide +kernel
theorem d_M_whereAt_65 : decode y_M_whereAt.2.1 65 = .ok (.aload_n 0, 1) := by decide +kernel
theorem d_M_whereAt_66 : decode y_M_whereAt.2.1 66 = .ok (.getfield 202, 3) := by decide +kernel
theorem d_M_whereAt_69 : decode y_M_whereAt.2.1 69 = .ok (.iload 8, 2) := by decide +kernel
theorem d_M_whereAt_71 : decode y_M_whereAt.2.1 71 = .ok (.iconst (-1), 1) := by decide +kernel
theorem d_M_whereAt_72 : decode y_M_whereAt.2.1 72 = .ok (.iastore, 1) := by decide +kernel
theorem d_M_whereAt_73 : decode y_M_whereAt.2.1 73 = .ok (.iinc 8 1, 3) := by decide +kernel
theorem d_M_whereAt_76 : decode y_M_whereAt.2.1 76 = .ok (.goto (-18), 3) := by decide +kernel
theorem d_M_whereAt_79 : decode y_M_whereAt.2.1 79 = .ok (.iload 5, 2) := by decide +kernel
theorem d_M_whereAt_81 : decode y_M_whereAt.2.1 81 = .ok (.istore 8, 2) := by decide +kernel
theorem d_M_whereAt_83 : decode y_M_whereAt.2.1 83 = .ok (.iload 6, 2) := by decide +kernel
theorem d_M_whereAt_85 : decode y_M_whereAt.2.1 85 = .ok (.istore 9, 2) := by decide +kernel
theorem d_M_whereAt_87 : decode y_M_whereAt.2.1 87 = .ok (.aload_n 0, 1) := by decide +kernel
theorem d_M_whereAt_88 : decode y_M_whereAt.2.1 88 = .ok (.getfield 192, 3) := by decide +kernel
theorem d_M_whereAt_91 : decode y_M_whereAt.2.1 91 = .ok (.bipush 8, 2) := by decide +kernel
theorem d_M_whereAt_93 : decode y_M_whereAt.2.1 93 = .ok (.iload 6, 2) := by decide +kernel
theorem d_M_whereAt_95 : decode y_M_whereAt.2.1 95 = .ok (.imul, 1) := by decide +kernel
theorem d_M_whereAt_96 : decode y_M_whereAt.2.1 96 = .ok (.iload 5, 2) := by decide +kernel
theorem d_M_whereAt_98 : decode y_M_whereAt.2.1 98 = .ok (.iadd, 1) := by decide +kernel
theorem d_M_whereAt_99 : decode y_M_whereAt.2.1 99 = .ok (.laload, 1) := by decide +kernel
theorem d_M_whereAt_100 : decode y_M_whereAt.2.1 100 = .ok (.ldc2_w 466, 3) := by decide +kernel
theorem d_M_whereAt_103 : decode y_M_whereAt.2.1 103 = .ok (.lcmp, 1) := by decide +kernel
theorem d_M_whereAt_104 : decode y_M_whereAt.2.1 104 = .ok (.ifCond .ge 7, 3) := by decide +kernel
theorem d_M_whereAt_107 : decode y_M_whereAt.2.1 107 = .ok (.iconst 1, 1) := by decide +kernel
theorem d_M_whereAt_108 : decode y_M_whereAt.2.1 108 = .ok (.goto 4, 3) := by decide +kernel
theorem d_M_whereAt_111 : decode y_M_whereAt.2.1 111 = .ok (.iconst 0, 1) := by decide +kernel
theorem d_M_whereAt_112 : decode y_M_whereAt.2.1 112 = .ok (.istore 10, 2) := by decide +kernel
theorem d_M_whereAt_114 : decode y_M_whereAt.2.1 114 = .ok (.iload 10, 2) := by decide +kernel
theorem d_M_whereAt_116 : decode y_M_whereAt.2.1 116 = .ok (.ifCond .eq 91, 3) := by decide +kernel
theorem d_M_whereAt_119 : decode y_M_whereAt.2.1 119 = .ok (.aload_n 0, 1) := by decide +kernel
theorem d_M_whereAt_120 : decode y_M_whereAt.2.1 120 = .ok (.getfield 199, 3) := by decide +kernel
theorem d_M_whereAt_123 : decode y_M_whereAt.2.1 123 = .ok (.bipush 8, 2) := by decide +kernel
theorem d_M_whereAt_125 : decode y_M_whereAt.2.1 125 = .ok (.iload 9, 2) := by decide +kernel
theorem d_M_whereAt_127 : decode y_M_whereAt.2.1 127 = .ok (.imul, 1) := by decide +kernel
theorem d_M_whereAt_128 : decode y_M_whereAt.2.1 128 = .ok (.iload 8, 2) := by decide +kernel
theorem d_M_whereAt_130 : decode y_M_whereAt.2.1 130 = .ok (.iadd, 1) := by decide +kernel
theorem d_M_whereAt_131 : decode y_M_whereAt.2.1 131 = .ok (.iaload, 1) := by decide +kernel
theorem d_M_whereAt_132 : decode y_M_whereAt.2.1 132 = .ok (.istore 11, 2) := by decide +kernel
theorem d_M_whereAt_134 : decode y_M_whereAt.2.1 134 = .ok (.aload_n 0, 1) := by decide +kernel
theorem d_M_whereAt_135 : decode y_M_whereAt.2.1 135 = .ok (.getfield 202, 3) := by decide +kernel
theorem d_M_whereAt_138 : decode y_M_whereAt.2.1 138 = .ok (.iload 9, 2) := by decide +kernel
theorem d_M_whereAt_140 : decode y_M_whereAt.2.1 140 = .ok (.iload 8, 2) := by decide +kernel
theorem d_M_whereAt_142 : decode y_M_whereAt.2.1 142 = .ok (.iastore, 1) := by decide +kernel
theorem d_M_whereAt_143 : decode y_M_whereAt.2.1 143 = .ok (.iload 11, 2) := by decide +kernel
theorem d_M_whereAt_145 : decode y_M_whereAt.2.1 145 = .ok (.ifCond .le 7, 3) := by decide +kernel
theorem d_M_whereAt_148 : decode y_M_whereAt.2.1 148 = .ok (.iconst 1, 1) := by decide +kernel
theorem d_M_whereAt_149 : decode y_M_whereAt.2.1 149 = .ok (.goto 4, 3) := by decide +kernel
theorem d_M_whereAt_152 : decode y_M_whereAt.2.1 152 = .ok (.iconst 0, 1) := by decide +kernel
theorem d_M_whereAt_153 : decode y_M_whereAt.2.1 153 = .ok (.istore 10, 2) := by decide +kernel
theorem d_M_whereAt_155 : decode y_M_whereAt.2.1 155 = .ok (.iload 11, 2) := by decide +kernel
theorem d_M_whereAt_157 : decode y_M_whereAt.2.1 157 = .ok (.iconst 1, 1) := by decide +kernel
theorem d_M_whereAt_158 : decode y_M_whereAt.2.1 158 = .ok (.if_icmp .ne 9, 3) := by decide +kernel
theorem d_M_whereAt_161 : decode y_M_whereAt.2.1 161 = .ok (.iinc 9 1, 3) := by decide +kernel
theorem d_M_whereAt_164 : decode y_M_whereAt.2.1 164 = .ok (.goto 40, 3) := by decide +kernel
theorem d_M_whereAt_167 : decode y_M_whereAt.2.1 167 = .ok (.iload 11, 2) := by decide +kernel
theorem d_M_whereAt_169 : decode y_M_whereAt.2.1 169 = .ok (.iconst 1, 1) := by decide +kernel
theorem d_M_whereAt_170 : decode y_M_whereAt.2.1 170 = .ok (.if_icmp .le 34, 3) := by decide +kernel
theorem d_M_whereAt_173 : decode y_M_whereAt.2.1 173 = .ok (.iload 9, 2) := by decide +kernel
theorem d_M_whereAt_175 : decode y_M_whereAt.2.1 175 = .ok (.aload_n 0, 1) := by decide +kernel
theorem d_M_whereAt_176 : decode y_M_whereAt.2.1 176 = .ok (.getfield 38, 3) := by decide +kernel
theorem d_M_whereAt_179 : decode y_M_whereAt.2.1 179 = .ok (.iload 11, 2) := by decide +kernel
theorem d_M_whereAt_181 : decode y_M_whereAt.2.1 181 = .ok (.iconst 2, 1) := by decide +kernel
theorem d_M_whereAt_182 : decode y_M_whereAt.2.1 182 = .ok (.isub, 1) := by decide +kernel
theorem d_M_whereAt_183 : decode y_M_whereAt.2.1 183 = .ok (.iaload, 1) := by decide +kernel
theorem d_M_whereAt_184 : decode y_M_whereAt.2.1 184 = .ok (.aload_n 0, 1) := by decide +kernel
theorem d_M_whereAt_185 : decode y_M_whereAt.2.1 185 = .ok (.getfield 13, 3) := by decide +kernel
theorem d_M_whereAt_188 : decode y_M_whereAt.2.1 188 = .ok (.imul, 1) := by decide +kernel
theorem d_M_whereAt_189 : decode y_M_whereAt.2.1 189 = .ok (.iadd, 1) := by decide +kernel
theorem d_M_whereAt_190 : decode y_M_whereAt.2.1 190 = .ok (.istore 9, 2) := by decide +kernel
theorem d_M_whereAt_192 : decode y_M_whereAt.2.1 192 = .ok (.aload_n 0, 1) := by decide +kernel
theorem d_M_whereAt_193 : decode y_M_whereAt.2.1 193 = .ok (.iload 8, 2) := by decide +kernel
theorem d_M_whereAt_195 : decode y_M_whereAt.2.1 195 = .ok (.iload 11, 2) := by decide +kernel
theorem d_M_whereAt_197 : decode y_M_whereAt.2.1 197 = .ok (.iconst 2, 1) := by decide +kernel
theorem d_M_whereAt_198 : decode y_M_whereAt.2.1 198 = .ok (.isub, 1) := by decide +kernel
theorem d_M_whereAt_199 : decode y_M_whereAt.2.1 199 = .ok (.invokevirtual 342, 3) := by decide +kernel
theorem d_M_whereAt_202 : decode y_M_whereAt.2.1 202 = .ok (.istore 8, 2) := by decide +kernel
theorem d_M_whereAt_204 : decode y_M_whereAt.2.1 204 = .ok (.goto (-90), 3) := by decide +kernel
theorem d_M_whereAt_207 : decode y_M_whereAt.2.1 207 = .ok (.aload_n 0, 1) := by decide +kernel
theorem d_M_whereAt_208 : decode y_M_whereAt.2.1 208 = .ok (.getfield 202, 3) := by decide +kernel
theorem d_M_whereAt_211 : decode y_M_whereAt.2.1 211 = .ok (.iload 7, 2) := by decide +kernel
theorem d_M_whereAt_213 : decode y_M_whereAt.2.1 213 = .ok (.iaload, 1) := by decide +kernel
theorem d_M_whereAt_214 : decode y_M_whereAt.2.1 214 = .ok (.ireturn, 1) := by decide +kernel
theorem d_M_reading_0 : decode y_M_reading.2.1 0 = .ok (.aload_n 0, 1) := by decide +kernel
theorem d_M_reading_1 : decode y_M_reading.2.1 1 = .ok (.iconst 0, 1) := by decide +kernel
theorem d_M_reading_2 : decode y_M_reading.2.1 2 = .ok (.putfield 217, 3) := by decide +kernel
theorem d_M_reading_5 : decode y_M_reading.2.1 5 = .ok (.aload_n 0, 1) := by decide +kernel
theorem d_M_reading_6 : decode y_M_reading.2.1 6 = .ok (.iload_n 1, 1) := by decide +kernel
theorem d_M_reading_7 : decode y_M_reading.2.1 7 = .ok (.invokevirtual 293, 3) := by decide +kernel
theorem d_M_reading_10 : decode y_M_reading.2.1 10 = .ok (.ifCond .ne 9, 3) := by decide +kernel
theorem d_M_reading_13 : decode y_M_reading.2.1 13 = .ok (.aload_n 0, 1) := by decide +kernel
theorem d_M_reading_14 : decode y_M_reading.2.1 14 = .ok (.iconst 1, 1) := by decide +kernel
theorem d_M_reading_15 : decode y_M_reading.2.1 15 = .ok (.invokevirtual 285, 3) := by decide +kernel
theorem d_M_reading_18 : decode y_M_reading.2.1 18 = .ok (.ireturn, 1) := by decide +kernel
theorem d_M_reading_19 : decode y_M_reading.2.1 19 = .ok (.iload_n 2, 1) := by decide +kernel
theorem d_M_reading_20 : decode y_M_reading.2.1 20 = .ok (.invokestatic 305, 3) := by decide +kernel
theorem d_M_reading_23 : decode y_M_reading.2.1 23 = .ok (.ifCond .ne 9, 3) := by decide +kernel
theorem d_M_reading_26 : decode y_M_reading.2.1 26 = .ok (.aload_n 0, 1) := by decide +kernel
theorem d_M_reading_27 : decode y_M_reading.2.1 27 = .ok (.iconst 2, 1) := by decide +kernel
theorem d_M_reading_28 : decode y_M_reading.2.1 28 = .ok (.invokevirtual 285, 3) := by decide +kernel
theorem d_M_reading_31 : decode y_M_reading.2.1 31 = .ok (.ireturn, 1) := by decide +kernel
theorem d_M_reading_32 : decode y_M_reading.2.1 32 = .ok (.aload_n 0, 1) := by decide +kernel
theorem d_M_reading_33 : decode y_M_reading.2.1 33 = .ok (.getfield 278, 3) := by decide +kernel
theorem d_M_reading_36 : decode y_M_reading.2.1 36 = .ok (.bipush 40, 2) := by decide +kernel
theorem d_M_reading_38 : decode y_M_reading.2.1 38 = .ok (.if_icmp .ne 5, 3) := by decide +kernel
theorem d_M_reading_41 : decode y_M_reading.2.1 41 = .ok (.iconst (-1), 1) := by decide +kernel
theorem d_M_reading_42 : decode y_M_reading.2.1 42 = .ok (.ireturn, 1) := by decide +kernel
theorem d_M_reading_43 : decode y_M_reading.2.1 43 = .ok (.aload_n 0, 1) := by decide +kernel
theorem d_M_reading_44 : decode y_M_reading.2.1 44 = .ok (.bipush 13, 2) := by decide +kernel
theorem d_M_reading_46 : decode y_M_reading.2.1 46 = .ok (.iload_n 1, 1) := by decide +kernel
theorem d_M_reading_47 : decode y_M_reading.2.1 47 = .ok (.iload_n 2, 1) := by decide +kernel
theorem d_M_reading_48 : decode y_M_reading.2.1 48 = .ok (.iload_n 3, 1) := by decide +kernel
theorem d_M_reading_49 : decode y_M_reading.2.1 49 = .ok (.ifCond .eq 7, 3) := by decide +kernel
theorem d_M_reading_52 : decode y_M_reading.2.1 52 = .ok (.iconst 1, 1) := by decide +kernel
theorem d_M_reading_53 : decode y_M_reading.2.1 53 = .ok (.goto 4, 3) := by decide +kernel
theorem d_M_reading_56 : decode y_M_reading.2.1 56 = .ok (.iconst 0, 1) := by decide +kernel
theorem d_M_reading_57 : decode y_M_reading.2.1 57 = .ok (.iconst 0, 1) := by decide +kernel
theorem d_M_reading_58 : decode y_M_reading.2.1 58 = .ok (.iconst 0, 1) := by decide +kernel
theorem d_M_reading_59 : decode y_M_reading.2.1 59 = .ok (.iconst 0, 1) := by decide +kernel
theorem d_M_reading_60 : decode y_M_reading.2.1 60 = .ok (.invokevirtual 289, 3) := by decide +kernel
theorem d_M_reading_63 : decode y_M_reading.2.1 63 = .ok (.aload_n 0, 1) := by decide +kernel
theorem d_M_reading_64 : decode y_M_reading.2.1 64 = .ok (.getfield 278, 3) := by decide +kernel
theorem d_M_reading_67 : decode y_M_reading.2.1 67 = .ok (.iconst 1, 1) := by decide +kernel
theorem d_M_reading_68 : decode y_M_reading.2.1 68 = .ok (.isub, 1) := by decide +kernel
theorem d_M_reading_69 : decode y_M_reading.2.1 69 = .ok (.ireturn, 1) := by decide +kernel
theorem d_M_fitting_0 : decode y_M_fitting.2.1 0 = .ok (.iconst 0, 1) := by decide +kernel
theorem d_M_fitting_1 : decode y_M_fitting.2.1 1 = .ok (.istore_n 2, 1) := by decide +kernel
theorem d_M_fitting_2 : decode y_M_fitting.2.1 2 = .ok (.iconst 0, 1) := by decide +kernel
theorem d_M_fitting_3 : decode y_M_fitting.2.1 3 = .ok (.istore_n 3, 1) := by decide +kernel
theorem d_M_fitting_4 : decode y_M_fitting.2.1 4 = .ok (.iload_n 3, 1) := by decide +kernel
theorem d_M_fitting_5 : decode y_M_fitting.2.1 5 = .ok (.iconst 5, 1) := by decide +kernel
theorem d_M_fitting_6 : decode y_M_fitting.2.1 6 = .ok (.if_icmp .ge 195, 3) := by decide +kernel
theorem d_M_fitting_9 : decode y_M_fitting.2.1 9 = .ok (.iload_n 3, 1) := by decide +kernel
theorem d_M_fitting_10 : decode y_M_fitting.2.1 10 = .ok (.iconst 4, 1) := by decide +kernel
theorem d_M_fitting_11 : decode y_M_fitting.2.1 11 = .ok (.if_icmp .ge 14, 3) := by decide +kernel
theorem d_M_fitting_14 : decode y_M_fitting.2.1 14 = .ok (.iload_n 3, 1) := by decide +kernel
theorem d_M_fitting_15 : decode y_M_fitting.2.1 15 = .ok (.aload_n 0, 1) := by decide +kernel
theorem d_M_fitting_16 : decode y_M_fitting.2.1 16 = .ok (.getfield 253, 3) := by decide +kernel
theorem d_M_fitting_19 : decode y_M_fitting.2.1 19 = .ok (.if_icmp .lt 6, 3) := by decide +kernel
theorem d_M_fitting_22 : decode y_M_fitting.2.1 22 = .ok (.goto 173, 3) := by decide +kernel
theorem d_M_fitting_25 : decode y_M_fitting.2.1 25 = .ok (.aload_n 0, 1) := by decide +kernel
theorem d_M_fitting_26 : decode y_M_fitting.2.1 26 = .ok (.iload_n 1, 1) := by decide +kernel
theorem d_M_fitting_27 : decode y_M_fitting.2.1 27 = .ok (.iload_n 1, 1) := by decide +kernel
theorem d_M_fitting_28 : decode y_M_fitting.2.1 28 = .ok (.iconst 0, 1) := by decide +kernel
theorem d_M_fitting_29 : decode y_M_fitting.2.1 29 = .ok (.iload_n 3, 1) := by decide +kernel
theorem d_M_fitting_30 : decode y_M_fitting.2.1 30 = .ok (.iconst 4, 1) := by decide +kernel
theorem d_M_fitting_31 : decode y_M_fitting.2.1 31 = .ok (.if_icmp .ne 7, 3) := by decide +kernel
theorem d_M_fitting_34 : decode y_M_fitting.2.1 34 = .ok (.iconst (-1), 1) := by decide +kernel
theorem d_M_fitting_35 : decode y_M_fitting.2.1 35 = .ok (.goto 4, 3) := by decide +kernel
theorem d_M_fitting_38 : decode y_M_fitting.2.1 38 = .ok (.iload_n 3, 1) := by decide +kernel
theorem d_M_fitting_39 : decode y_M_fitting.2.1 39 = .ok (.invokevirtual 369, 3) := by decide +kernel
theorem d_M_fitting_42 : decode y_M_fitting.2.1 42 = .ok (.iconst 0, 1) := by decide +kernel
theorem d_M_fitting_43 : decode y_M_fitting.2.1 43 = .ok (.istore 4, 2) := by decide +kernel
theorem d_M_fitting_45 : decode y_M_fitting.2.1 45 = .ok (.iload 4, 2) := by decide +kernel
theorem d_M_fitting_47 : decode y_M_fitting.2.1 47 = .ok (.sipush 168, 3) := by decide +kernel
theorem d_M_fitting_50 : decode y_M_fitting.2.1 50 = .ok (.if_icmp .ge 49, 3) := by decide +kernel
theorem d_M_fitting_53 : decode y_M_fitting.2.1 53 = .ok (.aload_n 0, 1) := by decide +kernel
theorem d_M_fitting_54 : decode y_M_fitting.2.1 54 = .ok (.getfield 205, 3) := by decide +kernel
theorem d_M_fitting_57 : decode y_M_fitting.2.1 57 = .ok (.sipush 168, 3) := by decide +kernel
theorem d_M_fitting_60 : decode y_M_fitting.2.1 60 = .ok (.iload_n 3, 1) := by decide +kernel
theorem d_M_fitting_61 : decode y_M_fitting.2.1 61 = .ok (.imul, 1) := by decide +kernel
theorem d_M_fitting_62 : decode y_M_fitting.2.1 62 = .ok (.iload 4, 2) := by decide +kernel
theorem d_M_fitting_64 : decode y_M_fitting.2.1 64 = .ok (.iadd, 1) := by decide +kernel
theorem d_M_fitting_65 : decode y_M_fitting.2.1 65 = .ok (.aload_n 0, 1) := by decide +kernel
theorem d_M_fitting_66 : decode y_M_fitting.2.1 66 = .ok (.getfield 129, 3) := by decide +kernel
theorem d_M_fitting_69 : decode y_M_fitting.2.1 69 = .ok (.iload 4, 2) := by decide +kernel
theorem d_M_fitting_71 : decode y_M_fitting.2.1 71 = .ok (.iaload, 1) := by decide +kernel
theorem d_M_fitting_72 : decode y_M_fitting.2.1 72 = .ok (.aload_n 0, 1) := by decide +kernel
theorem d_M_fitting_73 : decode y_M_fitting.2.1 73 = .ok (.getfield 132, 3) := by decide +kernel
theorem d_M_fitting_76 : decode y_M_fitting.2.1 76 = .ok (.iload 4, 2) := by decide +kernel
theorem d_M_fitting_78 : decode y_M_fitting.2.1 78 = .ok (.iaload, 1) := by decide +kernel
theorem d_M_fitting_79 : decode y_M_fitting.2.1 79 = .ok (.iadd, 1) := by decide +kernel
theorem d_M_fitting_80 : decode y_M_fitting.2.1 80 = .ok (.aload_n 0, 1) := by decide +kernel
theorem d_M_fitting_81 : decode y_M_fitting.2.1 81 = .ok (.getfield 16, 3) := by decide +kernel
theorem d_M_fitting_84 : decode y_M_fitting.2.1 84 = .ok (.if_icmp .lt 7, 3) := by decide +kernel
theorem d_M_fitting_87 : decode y_M_fitting.2.1 87 = .ok (.iconst 1, 1) := by decide +kernel
theorem d_M_fitting_88 : decode y_M_fitting.2.1 88 = .ok (.goto 4, 3) := by decide +kernel
theorem d_M_fitting_91 : decode y_M_fitting.2.1 91 = .ok (.iconst 0, 1) := by decide +kernel
theorem d_M_fitting_92 : decode y_M_fitting.2.1 92 = .ok (.bastore, 1) := by decide +kernel
theorem d_M_fitting_93 : decode y_M_fitting.2.1 93 = .ok (.iinc 4 1, 3) := by decide +kernel
theorem d_M_fitting_96 : decode y_M_fitting.2.1 96 = .ok (.goto (-51), 3) := by decide +kernel
theorem d_M_fitting_99 : decode y_M_fitting.2.1 99 = .ok (.iconst 1, 1) := by decide +kernel
theorem d_M_fitting_100 : decode y_M_fitting.2.1 100 = .ok (.istore 4, 2) := by decide +kernel
theorem d_M_fitting_102 : decode y_M_fitting.2.1 102 = .ok (.iconst 0, 1) := by decide +kernel
theorem d_M_fitting_103 : decode y_M_fitting.2.1 103 = .ok (.istore 5, 2) := by decide +kernel
theorem d_M_fitting_105 : decode y_M_fitting.2.1 105 = .ok (.iload 5, 2) := by decide +kernel
theorem d_M_fitting_107 : decode y_M_fitting.2.1 107 = .ok (.aload_n 0, 1) := by decide +kernel
theorem d_M_fitting_108 : decode y_M_fitting.2.1 108 = .ok (.getfield 278, 3) := by decide +kernel
theorem d_M_fitting_111 : decode y_M_fitting.2.1 111 = .ok (.if_icmp .ge 69, 3) := by decide +kernel
theorem d_M_fitting_114 : decode y_M_fitting.2.1 114 = .ok (.iload 4, 2) := by decide +kernel
theorem d_M_fitting_116 : decode y_M_fitting.2.1 116 = .ok (.ifCond .eq 55, 3) := by decide +kernel
theorem d_M_fitting_119 : decode y_M_fitting.2.1 119 = .ok (.aload_n 0, 1) := by decide +kernel
theorem d_M_fitting_120 : decode y_M_fitting.2.1 120 = .ok (.getfield 205, 3) := by decide +kernel
theorem d_M_fitting_123 : decode y_M_fitting.2.1 123 = .ok (.sipush 168, 3) := by decide +kernel
theorem d_M_fitting_126 : decode y_M_fitting.2.1 126 = .ok (.iload_n 3, 1) := by decide +kernel
theorem d_M_fitting_127 : decode y_M_fitting.2.1 127 = .ok (.imul, 1) := by decide +kernel
theorem d_M_fitting_128 : decode y_M_fitting.2.1 128 = .ok (.bipush 8, 2) := by decide +kernel
theorem d_M_fitting_130 : decode y_M_fitting.2.1 130 = .ok (.aload_n 0, 1) := by decide +kernel
theorem d_M_fitting_131 : decode y_M_fitting.2.1 131 = .ok (.getfield 120, 3) := by decide +kernel
theorem d_M_fitting_134 : decode y_M_fitting.2.1 134 = .ok (.iload 5, 2) := by decide +kernel
theorem d_M_fitting_136 : decode y_M_fitting.2.1 136 = .ok (.iaload, 1) := by decide +kernel
theorem d_M_fitting_137 : decode y_M_fitting.2.1 137 = .ok (.imul, 1) := by decide +kernel
theorem d_M_fitting_138 : decode y_M_fitting.2.1 138 = .ok (.iadd, 1) := by decide +kernel
theorem d_M_fitting_139 : decode y_M_fitting.2.1 139 = .ok (.aload_n 0, 1) := by decide +kernel
theorem d_M_fitting_140 : decode y_M_fitting.2.1 140 = .ok (.getfield 117, 3) := by decide +kernel
theorem d_M_fitting_143 : decode y_M_fitting.2.1 143 = .ok (.iload 5, 2) := by decide +kernel
theorem d_M_fitting_145 : decode y_M_fitting.2.1 145 = .ok (.iaload, 1) := by decide +kernel
theorem d_M_fitting_146 : decode y_M_fitting.2.1 146 = .ok (.iadd, 1) := by decide +kernel
theorem d_M_fitting_147 : decode y_M_fitting.2.1 147 = .ok (.baload, 1) := by decide +kernel
theorem d_M_fitting_148 : decode y_M_fitting.2.1 148 = .ok (.aload_n 0, 1) := by decide +kernel
theorem d_M_fitting_149 : decode y_M_fitting.2.1 149 = .ok (.getfield 123, 3) := by decide +kernel
theorem d_M_fitting_152 : decode y_M_fitting.2.1 152 = .ok (.iload 5, 2) := by decide +kernel
theorem d_M_fitting_154 : decode y_M_fitting.2.1 154 = .ok (.iaload, 1) := by decide +kernel
theorem d_M_fitting_155 : decode y_M_fitting.2.1 155 = .ok (.iconst 1, 1) := by decide +kernel
theorem d_M_fitting_156 : decode y_M_fitting.2.1 156 = .ok (.if_icmp .ne 7, 3) := by decide +kernel
theorem d_M_fitting_159 : decode y_M_fitting.2.1 159 = .ok (.iconst 1, 1) := by decide +kernel
theorem d_M_fitting_160 : decode y_M_fitting.2.1 160 = .ok (.goto 4, 3) := by decide +kernel
theorem d_M_fitting_163 : decode y_M_fitting.2.1 163 = .ok (.iconst 0, 1) := by decide +kernel
theorem d_M_fitting_164 : decode y_M_fitting.2.1 164 = .ok (.if_icmp .ne 7, 3) := by decide +kernel
theorem d_M_fitting_167 : decode y_M_fitting.2.1 167 = .ok (.iconst 1, 1) := by decide +kernel
theorem d_M_fitting_168 : decode y_M_fitting.2.1 168 = .ok (.goto 4, 3) := by decide +kernel
theorem d_M_fitting_171 : decode y_M_fitting.2.1 171 = .ok (.iconst 0, 1) := by decide +kernel
theorem d_M_fitting_172 : decode y_M_fitting.2.1 172 = .ok (.istore 4, 2) := by decide +kernel
theorem d_M_fitting_174 : decode y_M_fitting.2.1 174 = .ok (.iinc 5 1, 3) := by decide +kernel
theorem d_M_fitting_177 : decode y_M_fitting.2.1 177 = .ok (.goto (-72), 3) := by decide +kernel
theorem d_M_fitting_180 : decode y_M_fitting.2.1 180 = .ok (.iload_n 2, 1) := by decide +kernel
theorem d_M_fitting_181 : decode y_M_fitting.2.1 181 = .ok (.iload 4, 2) := by decide +kernel
theorem d_M_fitting_183 : decode y_M_fitting.2.1 183 = .ok (.ifCond .eq 9, 3) := by decide +kernel
theorem d_M_fitting_186 : decode y_M_fitting.2.1 186 = .ok (.iconst 1, 1) := by decide +kernel
theorem d_M_fitting_187 : decode y_M_fitting.2.1 187 = .ok (.iload_n 3, 1) := by decide +kernel
theorem d_M_fitting_188 : decode y_M_fitting.2.1 188 = .ok (.ishl, 1) := by decide +kernel
theorem d_M_fitting_189 : decode y_M_fitting.2.1 189 = .ok (.goto 4, 3) := by decide +kernel
theorem d_M_fitting_192 : decode y_M_fitting.2.1 192 = .ok (.iconst 0, 1) := by decide +kernel
theorem d_M_fitting_193 : decode y_M_fitting.2.1 193 = .ok (.ior, 1) := by decide +kernel
theorem d_M_fitting_194 : decode y_M_fitting.2.1 194 = .ok (.istore_n 2, 1) := by decide +kernel
theorem d_M_fitting_195 : decode y_M_fitting.2.1 195 = .ok (.iinc 3 1, 3) := by decide +kernel
theorem d_M_fitting_198 : decode y_M_fitting.2.1 198 = .ok (.goto (-194), 3) := by decide +kernel
theorem d_M_fitting_201 : decode y_M_fitting.2.1 201 = .ok (.iload_n 2, 1) := by decide +kernel
theorem d_M_fitting_202 : decode y_M_fitting.2.1 202 = .ok (.ireturn, 1) := by decide +kernel
theorem d_M_fits_0 : decode y_M_fits.2.1 0 = .ok (.aload_n 0, 1) := by decide +kernel
theorem d_M_fits_1 : decode y_M_fits.2.1 1 = .ok (.iconst 0, 1) := by decide +kernel
theorem d_M_fits_2 : decode y_M_fits.2.1 2 = .ok (.putfield 217, 3) := by decide +kernel
theorem d_M_fits_5 : decode y_M_fits.2.1 5 = .ok (.iload_n 1, 1) := by decide +kernel
theorem d_M_fits_6 : decode y_M_fits.2.1 6 = .ok (.invokestatic 314, 3) := by decide +kernel
theorem d_M_fits_9 : decode y_M_fits.2.1 9 = .ok (.ifCond .eq 11, 3) := by decide +kernel
theorem d_M_fits_12 : decode y_M_fits.2.1 12 = .ok (.aload_n 0, 1) := by decide +kernel
theorem d_M_fits_13 : decode y_M_fits.2.1 13 = .ok (.iload_n 1, 1) := by decide +kernel
theorem d_M_fits_14 : decode y_M_fits.2.1 14 = .ok (.invokevirtual 482, 3) := by decide +kernel
theorem d_M_fits_17 : decode y_M_fits.2.1 17 = .ok (.goto 8, 3) := by decide +kernel
theorem d_M_fits_20 : decode y_M_fits.2.1 20 = .ok (.aload_n 0, 1) := by decide +kernel
theorem d_M_fits_21 : decode y_M_fits.2.1 21 = .ok (.iconst 1, 1) := by decide +kernel
theorem d_M_fits_22 : decode y_M_fits.2.1 22 = .ok (.invokevirtual 285, 3) := by decide +kernel
theorem d_M_fits_25 : decode y_M_fits.2.1 25 = .ok (.ireturn, 1) := by decide +kernel
theorem d_M_next_0 : decode y_M_next.2.1 0 = .ok (.aload_n 0, 1) := by decide +kernel
theorem d_M_next_1 : decode y_M_next.2.1 1 = .ok (.iconst 0, 1) := by decide +kernel
theorem d_M_next_2 : decode y_M_next.2.1 2 = .ok (.putfield 217, 3) := by decide +kernel
theorem d_M_next_5 : decode y_M_next.2.1 5 = .ok (.iload_n 1, 1) := by decide +kernel
theorem d_M_next_6 : decode y_M_next.2.1 6 = .ok (.invokestatic 314, 3) := by decide +kernel
theorem d_M_next_9 : decode y_M_next.2.1 9 = .ok (.ifCond .ne 9, 3) := by decide +kernel
theorem d_M_next_12 : decode y_M_next.2.1 12 = .ok (.aload_n 0, 1) := by decide +kernel
theorem d_M_next_13 : decode y_M_next.2.1 13 = .ok (.iconst 1, 1) := by decide +kernel
theorem d_M_next_14 : decode y_M_next.2.1 14 = .ok (.invokevirtual 285, 3) := by decide +kernel
theorem d_M_next_17 : decode y_M_next.2.1 17 = .ok (.ireturn, 1) := by decide +kernel
theorem d_M_next_18 : decode y_M_next.2.1 18 = .ok (.aload_n 0, 1) := by decide +kernel
theorem d_M_next_19 : decode y_M_next.2.1 19 = .ok (.iload_n 1, 1) := by decide +kernel
theorem d_M_next_20 : decode y_M_next.2.1 20 = .ok (.invokevirtual 482, 3) := by decide +kernel
theorem d_M_next_23 : decode y_M_next.2.1 23 = .ok (.istore_n 2, 1) := by decide +kernel
theorem d_M_next_24 : decode y_M_next.2.1 24 = .ok (.iload_n 2, 1) := by decide +kernel
theorem d_M_next_25 : decode y_M_next.2.1 25 = .ok (.invokestatic 435, 3) := by decide +kernel
theorem d_M_next_28 : decode y_M_next.2.1 28 = .ok (.istore_n 3, 1) := by decide +kernel
theorem d_M_next_29 : decode y_M_next.2.1 29 = .ok (.iload_n 3, 1) := by decide +kernel
theorem d_M_next_30 : decode y_M_next.2.1 30 = .ok (.iconst 2, 1) := by decide +kernel
theorem d_M_next_31 : decode y_M_next.2.1 31 = .ok (.if_icmp .lt 10, 3) := by decide +kernel
theorem d_M_next_34 : decode y_M_next.2.1 34 = .ok (.aload_n 0, 1) := by decide +kernel
theorem d_M_next_35 : decode y_M_next.2.1 35 = .ok (.getfield 272, 3) := by decide +kernel
theorem d_M_next_38 : decode y_M_next.2.1 38 = .ok (.ifCond .ne 5, 3) := by decide +kernel
theorem d_M_next_41 : decode y_M_next.2.1 41 = .ok (.iconst (-1), 1) := by decide +kernel
theorem d_M_next_42 : decode y_M_next.2.1 42 = .ok (.ireturn, 1) := by decide +kernel
theorem d_M_next_43 : decode y_M_next.2.1 43 = .ok (.iconst (-1), 1) := by decide +kernel
theorem d_M_next_44 : decode y_M_next.2.1 44 = .ok (.istore 4, 2) := by decide +kernel
theorem d_M_next_46 : decode y_M_next.2.1 46 = .ok (.iconst 0, 1) := by decide +kernel
theorem d_M_next_47 : decode y_M_next.2.1 47 = .ok (.istore 5, 2) := by decide +kernel
theorem d_M_next_49 : decode y_M_next.2.1 49 = .ok (.iconst 0, 1) := by decide +kernel
theorem d_M_next_50 : decode y_M_next.2.1 50 = .ok (.istore 6, 2) := by decide +kernel
theorem d_M_next_52 : decode y_M_next.2.1 52 = .ok (.iload 6, 2) := by decide +kernel
theorem d_M_next_54 : decode y_M_next.2.1 54 = .ok (.sipush 168, 3) := by decide +kernel
theorem d_M_next_57 : decode y_M_next.2.1 57 = .ok (.if_icmp .ge 117, 3) := by decide +kernel
theorem d_M_next_60 : decode y_M_next.2.1 60 = .ok (.aload_n 0, 1) := by decide +kernel
theorem d_M_next_61 : decode y_M_next.2.1 61 = .ok (.getfield 272, 3) := by decide +kernel
theorem d_M_next_64 : decode y_M_next.2.1 64 = .ok (.iload 6, 2) := by decide +kernel
theorem d_M_next_66 : decode y_M_next.2.1 66 = .ok (.bipush 8, 2) := by decide +kernel
theorem d_M_next_68 : decode y_M_next.2.1 68 = .ok (.irem, 1) := by decide +kernel
theorem d_M_next_69 : decode y_M_next.2.1 69 = .ok (.ishr, 1) := by decide +kernel
theorem d_M_next_70 : decode y_M_next.2.1 70 = .ok (.iconst 1, 1) := by decide +kernel
theorem d_M_next_71 : decode y_M_next.2.1 71 = .ok (.iand, 1) := by decide +kernel
theorem d_M_next_72 : decode y_M_next.2.1 72 = .ok (.ifCond .ne 6, 3) := by decide +kernel
theorem d_M_next_75 : decode y_M_next.2.1 75 = .ok (.goto 93, 3) := by decide +kernel
theorem d_M_next_78 : decode y_M_next.2.1 78 = .ok (.iconst 0, 1) := by decide +kernel
theorem d_M_next_79 : decode y_M_next.2.1 79 = .ok (.istore 7, 2) := by decide +kernel
theorem d_M_next_81 : decode y_M_next.2.1 81 = .ok (.iconst 0, 1) := by decide +kernel
theorem d_M_next_82 : decode y_M_next.2.1 82 = .ok (.istore 8, 2) := by decide +kernel
theorem d_M_next_84 : decode y_M_next.2.1 84 = .ok (.iload 8, 2) := by decide +kernel
theorem d_M_next_86 : decode y_M_next.2.1 86 = .ok (.iconst 5, 1) := by decide +kernel
theorem d_M_next_87 : decode y_M_next.2.1 87 = .ok (.if_icmp .ge 46, 3) := by decide +kernel
theorem d_M_next_90 : decode y_M_next.2.1 90 = .ok (.iload 7, 2) := by decide +kernel
theorem d_M_next_92 : decode y_M_next.2.1 92 = .ok (.iload_n 2, 1) := by decide +kernel
theorem d_M_next_93 : decode y_M_next.2.1 93 = .ok (.iload 8, 2) := by decide +kernel
theorem d_M_next_95 : decode y_M_next.2.1 95 = .ok (.ishr, 1) := by decide +kernel
theorem d_M_next_96 : decode y_M_next.2.1 96 = .ok (.iconst 1, 1) := by decide +kernel
theorem d_M_next_97 : decode y_M_next.2.1 97 = .ok (.iand, 1) := by decide +kernel
theorem d_M_next_98 : decode y_M_next.2.1 98 = .ok (.iconst 1, 1) := by decide +kernel
theorem d_M_next_99 : decode y_M_next.2.1 99 = .ok (.if_icmp .ne 24, 3) := by decide +kernel
theorem d_M_next_102 : decode y_M_next.2.1 102 = .ok (.aload_n 0, 1) := by decide +kernel
theorem d_M_next_103 : decode y_M_next.2.1 103 = .ok (.getfield 205, 3) := by decide +kernel
theorem d_M_next_106 : decode y_M_next.2.1 106 = .ok (.sipush 168, 3) := by decide +kernel
theorem d_M_next_109 : decode y_M_next.2.1 109 = .ok (.iload 8, 2) := by decide +kernel
theorem d_M_next_111 : decode y_M_next.2.1 111 = .ok (.imul, 1) := by decide +kernel
theorem d_M_next_112 : decode y_M_next.2.1 112 = .ok (.iload 6, 2) := by decide +kernel
theorem d_M_next_114 : decode y_M_next.2.1 114 = .ok (.iadd, 1) := by decide +kernel
theorem d_M_next_115 : decode y_M_next.2.1 115 = .ok (.baload, 1) := by decide +kernel
theorem d_M_next_116 : decode y_M_next.2.1 116 = .ok (.ifCond .eq 7, 3) := by decide +kernel
theorem d_M_next_119 : decode y_M_next.2.1 119 = .ok (.iconst 1, 1) := by decide +kernel
theorem d_M_next_120 : decode y_M_next.2.1 120 = .ok (.goto 4, 3) := by decide +kernel
theorem d_M_next_123 : decode y_M_next.2.1 123 = .ok (.iconst 0, 1) := by decide +kernel
theorem d_M_next_124 : decode y_M_next.2.1 124 = .ok (.iadd, 1) := by decide +kernel
theorem d_M_next_125 : decode y_M_next.2.1 125 = .ok (.istore 7, 2) := by decide +kernel
theorem d_M_next_127 : decode y_M_next.2.1 127 = .ok (.iinc 8 1, 3) := by decide +kernel
theorem d_M_next_130 : decode y_M_next.2.1 130 = .ok (.goto (-46), 3) := by decide +kernel
theorem d_M_next_133 : decode y_M_next.2.1 133 = .ok (.iload 7, 2) := by decide +kernel
theorem d_M_next_135 : decode y_M_next.2.1 135 = .ok (.iload_n 3, 1) := by decide +kernel
theorem d_M_next_136 : decode y_M_next.2.1 136 = .ok (.iload 7, 2) := by decide +kernel
theorem d_M_next_138 : decode y_M_next.2.1 138 = .ok (.isub, 1) := by decide +kernel
theorem d_M_next_139 : decode y_M_next.2.1 139 = .ok (.invokestatic 244, 3) := by decide +kernel
theorem d_M_next_142 : decode y_M_next.2.1 142 = .ok (.istore 8, 2) := by decide +kernel
theorem d_M_next_144 : decode y_M_next.2.1 144 = .ok (.iload 4, 2) := by decide +kernel
theorem d_M_next_146 : decode y_M_next.2.1 146 = .ok (.iconst (-1), 1) := by decide +kernel
theorem d_M_next_147 : decode y_M_next.2.1 147 = .ok (.if_icmp .eq 13, 3) := by decide +kernel
theorem d_M_next_150 : decode y_M_next.2.1 150 = .ok (.iload 8, 2) := by decide +kernel
theorem d_M_next_152 : decode y_M_next.2.1 152 = .ok (.iload 5, 2) := by decide +kernel
theorem d_M_next_154 : decode y_M_next.2.1 154 = .ok (.if_icmp .lt 6, 3) := by decide +kernel
theorem d_M_next_157 : decode y_M_next.2.1 157 = .ok (.goto 11, 3) := by decide +kernel
theorem d_M_next_160 : decode y_M_next.2.1 160 = .ok (.iload 6, 2) := by decide +kernel
theorem d_M_next_162 : decode y_M_next.2.1 162 = .ok (.istore 4, 2) := by decide +kernel
theorem d_M_next_164 : decode y_M_next.2.1 164 = .ok (.iload 8, 2) := by decide +kernel
theorem d_M_next_166 : decode y_M_next.2.1 166 = .ok (.istore 5, 2) := by decide +kernel
theorem d_M_next_168 : decode y_M_next.2.1 168 = .ok (.iinc 6 1, 3) := by decide +kernel
theorem d_M_next_171 : decode y_M_next.2.1 171 = .ok (.goto (-119), 3) := by decide +kernel
theorem d_M_next_174 : decode y_M_next.2.1 174 = .ok (.iload 4, 2) := by decide +kernel
theorem d_M_next_176 : decode y_M_next.2.1 176 = .ok (.ireturn, 1) := by decide +kernel
theorem d_M_isRow_0 : decode y_M_isRow.2.1 0 = .ok (.iload_n 0, 1) := by decide +kernel
theorem d_M_isRow_1 : decode y_M_isRow.2.1 1 = .ok (.i2l, 1) := by decide +kernel
theorem d_M_isRow_2 : decode y_M_isRow.2.1 2 = .ok (.lconst 0, 1) := by decide +kernel
theorem d_M_isRow_3 : decode y_M_isRow.2.1 3 = .ok (.ldc2_w 226, 3) := by decide +kernel
theorem d_M_isRow_6 : decode y_M_isRow.2.1 6 = .ok (.invokestatic 222, 3) := by decide +kernel
theorem d_M_isRow_9 : decode y_M_isRow.2.1 9 = .ok (.ireturn, 1) := by decide +kernel
theorem d_M_row_0 : decode y_M_row.2.1 0 = .ok (.aload_n 0, 1) := by decide +kernel
theorem d_M_row_1 : decode y_M_row.2.1 1 = .ok (.iload_n 1, 1) := by decide +kernel
theorem d_M_row_2 : decode y_M_row.2.1 2 = .ok (.invokestatic 427, 3) := by decide +kernel
theorem d_M_row_5 : decode y_M_row.2.1 5 = .ok (.ifCond .ne 7, 3) := by decide +kernel
theorem d_M_row_8 : decode y_M_row.2.1 8 = .ok (.iconst 1, 1) := by decide +kernel
theorem d_M_row_9 : decode y_M_row.2.1 9 = .ok (.goto 32, 3) := by decide +kernel
theorem d_M_row_12 : decode y_M_row.2.1 12 = .ok (.iload_n 2, 1) := by decide +kernel
theorem d_M_row_13 : decode y_M_row.2.1 13 = .ok (.i2l, 1) := by decide +kernel
theorem d_M_row_14 : decode y_M_row.2.1 14 = .ok (.lconst 0, 1) := by decide +kernel
theorem d_M_row_15 : decode y_M_row.2.1 15 = .ok (.ldc2_w 226, 3) := by decide +kernel
theorem d_M_row_18 : decode y_M_row.2.1 18 = .ok (.invokestatic 222, 3) := by decide +kernel
theorem d_M_row_21 : decode y_M_row.2.1 21 = .ok (.ifCond .eq 15, 3) := by decide +kernel
theorem d_M_row_24 : decode y_M_row.2.1 24 = .ok (.iload_n 3, 1) := by decide +kernel
theorem d_M_row_25 : decode y_M_row.2.1 25 = .ok (.i2l, 1) := by decide +kernel
theorem d_M_row_26 : decode y_M_row.2.1 26 = .ok (.lconst 0, 1) := by decide +kernel
theorem d_M_row_27 : decode y_M_row.2.1 27 = .ok (.ldc2_w 485, 3) := by decide +kernel
theorem d_M_row_30 : decode y_M_row.2.1 30 = .ok (.invokestatic 222, 3) := by decide +kernel
theorem d_M_row_33 : decode y_M_row.2.1 33 = .ok (.ifCond .ne 7, 3) := by decide +kernel
theorem d_M_row_36 : decode y_M_row.2.1 36 = .ok (.iconst 2, 1) := by decide +kernel
theorem d_M_row_37 : decode y_M_row.2.1 37 = .ok (.goto 4, 3) := by decide +kernel
theorem d_M_row_40 : decode y_M_row.2.1 40 = .ok (.iconst 0, 1) := by decide +kernel
theorem d_M_row_41 : decode y_M_row.2.1 41 = .ok (.putfield 217, 3) := by decide +kernel
theorem d_M_row_44 : decode y_M_row.2.1 44 = .ok (.aload_n 0, 1) := by decide +kernel
theorem d_M_row_45 : decode y_M_row.2.1 45 = .ok (.getfield 217, 3) := by decide +kernel
theorem d_M_row_48 : decode y_M_row.2.1 48 = .ok (.ifCond .le 4, 3) := by decide +kernel
theorem d_M_row_51 : decode y_M_row.2.1 51 = .ok (.return_, 1) := by decide +kernel
theorem d_M_row_52 : decode y_M_row.2.1 52 = .ok (.aload_n 0, 1) := by decide +kernel
theorem d_M_row_53 : decode y_M_row.2.1 53 = .ok (.getfield 208, 3) := by decide +kernel
theorem d_M_row_56 : decode y_M_row.2.1 56 = .ok (.iload_n 1, 1) := by decide +kernel
theorem d_M_row_57 : decode y_M_row.2.1 57 = .ok (.iload_n 2, 1) := by decide +kernel
theorem d_M_row_58 : decode y_M_row.2.1 58 = .ok (.iastore, 1) := by decide +kernel
theorem d_M_row_59 : decode y_M_row.2.1 59 = .ok (.aload_n 0, 1) := by decide +kernel
theorem d_M_row_60 : decode y_M_row.2.1 60 = .ok (.getfield 211, 3) := by decide +kernel
theorem d_M_row_63 : decode y_M_row.2.1 63 = .ok (.iload_n 1, 1) := by decide +kernel
theorem d_M_row_64 : decode y_M_row.2.1 64 = .ok (.iload_n 3, 1) := by decide +kernel
theorem d_M_row_65 : decode y_M_row.2.1 65 = .ok (.iastore, 1) := by decide +kernel
theorem d_M_row_66 : decode y_M_row.2.1 66 = .ok (.iconst 0, 1) := by decide +kernel
theorem d_M_row_67 : decode y_M_row.2.1 67 = .ok (.istore 4, 2) := by decide +kernel
theorem d_M_row_69 : decode y_M_row.2.1 69 = .ok (.iload 4, 2) := by decide +kernel
theorem d_M_row_71 : decode y_M_row.2.1 71 = .ok (.bipush 30, 2) := by decide +kernel
theorem d_M_row_73 : decode y_M_row.2.1 73 = .ok (.if_icmp .ge 22, 3) := by decide +kernel
theorem d_M_row_76 : decode y_M_row.2.1 76 = .ok (.aload_n 0, 1) := by decide +kernel
theorem d_M_row_77 : decode y_M_row.2.1 77 = .ok (.getfield 214, 3) := by decide +kernel
theorem d_M_row_80 : decode y_M_row.2.1 80 = .ok (.bipush 30, 2) := by decide +kernel
theorem d_M_row_82 : decode y_M_row.2.1 82 = .ok (.iload_n 1, 1) := by decide +kernel
theorem d_M_row_83 : decode y_M_row.2.1 83 = .ok (.imul, 1) := by decide +kernel
theorem d_M_row_84 : decode y_M_row.2.1 84 = .ok (.iload 4, 2) := by decide +kernel
theorem d_M_row_86 : decode y_M_row.2.1 86 = .ok (.iadd, 1) := by decide +kernel
theorem d_M_row_87 : decode y_M_row.2.1 87 = .ok (.lconst 0, 1) := by decide +kernel
theorem d_M_row_88 : decode y_M_row.2.1 88 = .ok (.lastore, 1) := by decide +kernel
theorem d_M_row_89 : decode y_M_row.2.1 89 = .ok (.iinc 4 1, 3) := by decide +kernel
theorem d_M_row_92 : decode y_M_row.2.1 92 = .ok (.goto (-23), 3) := by decide +kernel
theorem d_M_row_95 : decode y_M_row.2.1 95 = .ok (.return_, 1) := by decide +kernel
theorem d_M_puts_0 : decode y_M_puts.2.1 0 = .ok (.bipush 64, 2) := by decide +kernel
theorem d_M_puts_2 : decode y_M_puts.2.1 2 = .ok (.bipush 8, 2) := by decide +kernel
theorem d_M_puts_4 : decode y_M_puts.2.1 4 = .ok (.aload_n 0, 1) := by decide +kernel
theorem d_M_puts_5 : decode y_M_puts.2.1 5 = .ok (.getfield 208, 3) := by decide +kernel
theorem d_M_puts_8 : decode y_M_puts.2.1 8 = .ok (.iload_n 1, 1) := by decide +kernel
theorem d_M_puts_9 : decode y_M_puts.2.1 9 = .ok (.iaload, 1) := by decide +kernel
theorem d_M_puts_10 : decode y_M_puts.2.1 10 = .ok (.ishl, 1) := by decide +kernel
theorem d_M_puts_11 : decode y_M_puts.2.1 11 = .ok (.isub, 1) := by decide +kernel
theorem d_M_puts_12 : decode y_M_puts.2.1 12 = .ok (.istore 5, 2) := by decide +kernel
theorem d_M_puts_14 : decode y_M_puts.2.1 14 = .ok (.aload_n 0, 1) := by decide +kernel
theorem d_M_puts_15 : decode y_M_puts.2.1 15 = .ok (.getfield 214, 3) := by decide +kernel
theorem d_M_puts_18 : decode y_M_puts.2.1 18 = .ok (.bipush 30, 2) := by decide +kernel
theorem d_M_puts_20 : decode y_M_puts.2.1 20 = .ok (.iload_n 1, 1) := by decide +kernel
theorem d_M_puts_21 : decode y_M_puts.2.1 21 = .ok (.imul, 1) := by decide +kernel
theorem d_M_puts_22 : decode y_M_puts.2.1 22 = .ok (.iload_n 2, 1) := by decide +kernel
theorem d_M_puts_23 : decode y_M_puts.2.1 23 = .ok (.iadd, 1) := by decide +kernel
theorem d_M_puts_24 : decode y_M_puts.2.1 24 = .ok (.lload_n 3, 1) := by decide +kernel
theorem d_M_puts_25 : decode y_M_puts.2.1 25 = .ok (.iload 5, 2) := by decide +kernel
theorem d_M_puts_27 : decode y_M_puts.2.1 27 = .ok (.lshl, 1) := by decide +kernel
theorem d_M_puts_28 : decode y_M_puts.2.1 28 = .ok (.iload 5, 2) := by decide +kernel
theorem d_M_puts_30 : decode y_M_puts.2.1 30 = .ok (.lshr, 1) := by decide +kernel
theorem d_M_puts_31 : decode y_M_puts.2.1 31 = .ok (.lastore, 1) := by decide +kernel
theorem d_M_puts_32 : decode y_M_puts.2.1 32 = .ok (.aload_n 0, 1) := by decide +kernel
theorem d_M_puts_33 : decode y_M_puts.2.1 33 = .ok (.getfield 214, 3) := by decide +kernel
theorem d_M_puts_36 : decode y_M_puts.2.1 36 = .ok (.bipush 30, 2) := by decide +kernel
theorem d_M_puts_38 : decode y_M_puts.2.1 38 = .ok (.iload_n 1, 1) := by decide +kernel
theorem d_M_puts_39 : decode y_M_puts.2.1 39 = .ok (.imul, 1) := by decide +kernel
theorem d_M_puts_40 : decode y_M_puts.2.1 40 = .ok (.iload_n 2, 1) := by decide +kernel
theorem d_M_puts_41 : decode y_M_puts.2.1 41 = .ok (.iadd, 1) := by decide +kernel
theorem d_M_puts_42 : decode y_M_puts.2.1 42 = .ok (.laload, 1) := by decide +kernel
theorem d_M_puts_43 : decode y_M_puts.2.1 43 = .ok (.lreturn, 1) := by decide +kernel
theorem d_M_write_0 : decode y_M_write.2.1 0 = .ok (.aload_n 0, 1) := by decide +kernel
theorem d_M_write_1 : decode y_M_write.2.1 1 = .ok (.iconst 0, 1) := by decide +kernel
theorem d_M_write_2 : decode y_M_write.2.1 2 = .ok (.putfield 217, 3) := by decide +kernel
theorem d_M_write_5 : decode y_M_write.2.1 5 = .ok (.iload_n 1, 1) := by decide +kernel
theorem d_M_write_6 : decode y_M_write.2.1 6 = .ok (.invokestatic 427, 3) := by decide +kernel
theorem d_M_write_9 : decode y_M_write.2.1 9 = .ok (.ifCond .ne 10, 3) := by decide +kernel
theorem d_M_write_12 : decode y_M_write.2.1 12 = .ok (.aload_n 0, 1) := by decide +kernel
theorem d_M_write_13 : decode y_M_write.2.1 13 = .ok (.iconst 1, 1) := by decide +kernel
theorem d_M_write_14 : decode y_M_write.2.1 14 = .ok (.invokevirtual 285, 3) := by decide +kernel
theorem d_M_write_17 : decode y_M_write.2.1 17 = .ok (.i2l, 1) := by decide +kernel
theorem d_M_write_18 : decode y_M_write.2.1 18 = .ok (.lreturn, 1) := by decide +kernel
theorem d_M_write_19 : decode y_M_write.2.1 19 = .ok (.aload_n 0, 1) := by decide +kernel
theorem d_M_write_20 : decode y_M_write.2.1 20 = .ok (.getfield 208, 3) := by decide +kernel
theorem d_M_write_23 : decode y_M_write.2.1 23 = .ok (.iload_n 1, 1) := by decide +kernel
theorem d_M_write_24 : decode y_M_write.2.1 24 = .ok (.iaload, 1) := by decide +kernel
theorem d_M_write_25 : decode y_M_write.2.1 25 = .ok (.iconst (-1), 1) := by decide +kernel
theorem d_M_write_26 : decode y_M_write.2.1 26 = .ok (.if_icmp .ne 10, 3) := by decide +kernel
theorem d_M_write_29 : decode y_M_write.2.1 29 = .ok (.aload_n 0, 1) := by decide +kernel
theorem d_M_write_30 : decode y_M_write.2.1 30 = .ok (.iconst 2, 1) := by decide +kernel
theorem d_M_write_31 : decode y_M_write.2.1 31 = .ok (.invokevirtual 285, 3) := by decide +kernel
theorem d_M_write_34 : decode y_M_write.2.1 34 = .ok (.i2l, 1) := by decide +kernel
theorem d_M_write_35 : decode y_M_write.2.1 35 = .ok (.lreturn, 1) := by decide +kernel
theorem d_M_write_36 : decode y_M_write.2.1 36 = .ok (.iload_n 2, 1) := by decide +kernel
theorem d_M_write_37 : decode y_M_write.2.1 37 = .ok (.i2l, 1) := by decide +kernel
theorem d_M_write_38 : decode y_M_write.2.1 38 = .ok (.lconst 0, 1) := by decide +kernel
theorem d_M_write_39 : decode y_M_write.2.1 39 = .ok (.aload_n 0, 1) := by decide +kernel
theorem d_M_write_40 : decode y_M_write.2.1 40 = .ok (.getfield 211, 3) := by decide +kernel
theorem d_M_write_43 : decode y_M_write.2.1 43 = .ok (.iload_n 1, 1) := by decide +kernel
theorem d_M_write_44 : decode y_M_write.2.1 44 = .ok (.iaload, 1) := by decide +kernel
theorem d_M_write_45 : decode y_M_write.2.1 45 = .ok (.iconst 1, 1) := by decide +kernel
theorem d_M_write_46 : decode y_M_write.2.1 46 = .ok (.isub, 1) := by decide +kernel
theorem d_M_write_47 : decode y_M_write.2.1 47 = .ok (.i2l, 1) := by decide +kernel
theorem d_M_write_48 : decode y_M_write.2.1 48 = .ok (.invokestatic 222, 3) := by decide +kernel
theorem d_M_write_51 : decode y_M_write.2.1 51 = .ok (.ifCond .eq 13, 3) := by decide +kernel
theorem d_M_write_54 : decode y_M_write.2.1 54 = .ok (.aload_n 0, 1) := by decide +kernel
theorem d_M_write_55 : decode y_M_write.2.1 55 = .ok (.iload_n 1, 1) := by decide +kernel
theorem d_M_write_56 : decode y_M_write.2.1 56 = .ok (.iload_n 2, 1) := by decide +kernel
theorem d_M_write_57 : decode y_M_write.2.1 57 = .ok (.lload_n 3, 1) := by decide +kernel
theorem d_M_write_58 : decode y_M_write.2.1 58 = .ok (.invokevirtual 487, 3) := by decide +kernel
theorem d_M_write_61 : decode y_M_write.2.1 61 = .ok (.goto 9, 3) := by decide +kernel
theorem d_M_write_64 : decode y_M_write.2.1 64 = .ok (.aload_n 0, 1) := by decide +kernel
theorem d_M_write_65 : decode y_M_write.2.1 65 = .ok (.iconst 3, 1) := by decide +kernel
theorem d_M_write_66 : decode y_M_write.2.1 66 = .ok (.invokevirtual 285, 3) := by decide +kernel
theorem d_M_write_69 : decode y_M_write.2.1 69 = .ok (.i2l, 1) := by decide +kernel
theorem d_M_write_70 : decode y_M_write.2.1 70 = .ok (.lreturn, 1) := by decide +kernel
theorem d_M_lay_0 : decode y_M_lay.2.1 0 = .ok (.aload_n 0, 1) := by decide +kernel
theorem d_M_lay_1 : decode y_M_lay.2.1 1 = .ok (.iconst 0, 1) := by decide +kernel
theorem d_M_lay_2 : decode y_M_lay.2.1 2 = .ok (.putfield 217, 3) := by decide +kernel
theorem d_M_lay_5 : decode y_M_lay.2.1 5 = .ok (.aload_n 0, 1) := by decide +kernel
theorem d_M_lay_6 : decode y_M_lay.2.1 6 = .ok (.iload 4, 2) := by decide +kernel
theorem d_M_lay_8 : decode y_M_lay.2.1 8 = .ok (.invokevirtual 362, 3) := by decide +kernel
theorem d_M_lay_11 : decode y_M_lay.2.1 11 = .ok (.ifCond .eq 11, 3) := by decide +kernel
theorem d_M_lay_14 : decode y_M_lay.2.1 14 = .ok (.iload 6, 2) := by decide +kernel
theorem d_M_lay_16 : decode y_M_lay.2.1 16 = .ok (.invokestatic 427, 3) := by decide +kernel
theorem d_M_lay_19 : decode y_M_lay.2.1 19 = .ok (.ifCond .ne 9, 3) := by decide +kernel
theorem d_M_lay_22 : decode y_M_lay.2.1 22 = .ok (.aload_n 0, 1) := by decide +kernel
theorem d_M_lay_23 : decode y_M_lay.2.1 23 = .ok (.iconst 1, 1) := by decide +kernel
theorem d_M_lay_24 : decode y_M_lay.2.1 24 = .ok (.invokevirtual 285, 3) := by decide +kernel
theorem d_M_lay_27 : decode y_M_lay.2.1 27 = .ok (.ireturn, 1) := by decide +kernel
theorem d_M_lay_28 : decode y_M_lay.2.1 28 = .ok (.iload_n 1, 1) := by decide +kernel
theorem d_M_lay_29 : decode y_M_lay.2.1 29 = .ok (.iload_n 2, 1) := by decide +kernel
theorem d_M_lay_30 : decode y_M_lay.2.1 30 = .ok (.iload_n 3, 1) := by decide +kernel
theorem d_M_lay_31 : decode y_M_lay.2.1 31 = .ok (.invokestatic 365, 3) := by decide +kernel
theorem d_M_lay_34 : decode y_M_lay.2.1 34 = .ok (.ifCond .eq 11, 3) := by decide +kernel
theorem d_M_lay_37 : decode y_M_lay.2.1 37 = .ok (.iload 5, 2) := by decide +kernel
theorem d_M_lay_39 : decode y_M_lay.2.1 39 = .ok (.invokestatic 305, 3) := by decide +kernel
theorem d_M_lay_42 : decode y_M_lay.2.1 42 = .ok (.ifCond .ne 9, 3) := by decide +kernel
theorem d_M_lay_45 : decode y_M_lay.2.1 45 = .ok (.aload_n 0, 1) := by decide +kernel
theorem d_M_lay_46 : decode y_M_lay.2.1 46 = .ok (.iconst 2, 1) := by decide +kernel
theorem d_M_lay_47 : decode y_M_lay.2.1 47 = .ok (.invokevirtual 285, 3) := by decide +kernel
theorem d_M_lay_50 : decode y_M_lay.2.1 50 = .ok (.ireturn, 1) := by decide +kernel
theorem d_M_lay_51 : decode y_M_lay.2.1 51 = .ok (.aload_n 0, 1) := by decide +kernel
theorem d_M_lay_52 : decode y_M_lay.2.1 52 = .ok (.getfield 208, 3) := by decide +kernel
theorem d_M_lay_55 : decode y_M_lay.2.1 55 = .ok (.iload 6, 2) := by decide +kernel
theorem d_M_lay_57 : decode y_M_lay.2.1 57 = .ok (.iaload, 1) := by decide +kernel
theorem d_M_lay_58 : decode y_M_lay.2.1 58 = .ok (.iconst (-1), 1) := by decide +kernel
theorem d_M_lay_59 : decode y_M_lay.2.1 59 = .ok (.if_icmp .ne 9, 3) := by decide +kernel
theorem d_M_lay_62 : decode y_M_lay.2.1 62 = .ok (.aload_n 0, 1) := by decide +kernel
theorem d_M_lay_63 : decode y_M_lay.2.1 63 = .ok (.iconst 3, 1) := by decide +kernel
theorem d_M_lay_64 : decode y_M_lay.2.1 64 = .ok (.invokevirtual 285, 3) := by decide +kernel
theorem d_M_lay_67 : decode y_M_lay.2.1 67 = .ok (.ireturn, 1) := by decide +kernel
theorem d_M_lay_68 : decode y_M_lay.2.1 68 = .ok (.aload_n 0, 1) := by decide +kernel
theorem d_M_lay_69 : decode y_M_lay.2.1 69 = .ok (.getfield 211, 3) := by decide +kernel
theorem d_M_lay_72 : decode y_M_lay.2.1 72 = .ok (.iload 6, 2) := by decide +kernel
theorem d_M_lay_74 : decode y_M_lay.2.1 74 = .ok (.iaload, 1) := by decide +kernel
theorem d_M_lay_75 : decode y_M_lay.2.1 75 = .ok (.iload 5, 2) := by decide +kernel
theorem d_M_lay_77 : decode y_M_lay.2.1 77 = .ok (.if_icmp .gt 9, 3) := by decide +kernel
theorem d_M_lay_80 : decode y_M_lay.2.1 80 = .ok (.aload_n 0, 1) := by decide +kernel
theorem d_M_lay_81 : decode y_M_lay.2.1 81 = .ok (.iconst 4, 1) := by decide +kernel
theorem d_M_lay_82 : decode y_M_lay.2.1 82 = .ok (.invokevirtual 285, 3) := by decide +kernel
theorem d_M_lay_85 : decode y_M_lay.2.1 85 = .ok (.ireturn, 1) := by decide +kernel
theorem d_M_lay_86 : decode y_M_lay.2.1 86 = .ok (.aload_n 0, 1) := by decide +kernel
theorem d_M_lay_87 : decode y_M_lay.2.1 87 = .ok (.iload_n 1, 1) := by decide +kernel
theorem d_M_lay_88 : decode y_M_lay.2.1 88 = .ok (.iload_n 2, 1) := by decide +kernel
theorem d_M_lay_89 : decode y_M_lay.2.1 89 = .ok (.iload_n 3, 1) := by decide +kernel
theorem d_M_lay_90 : decode y_M_lay.2.1 90 = .ok (.iload 4, 2) := by decide +kernel
theorem d_M_lay_92 : decode y_M_lay.2.1 92 = .ok (.iload 5, 2) := by decide +kernel
theorem d_M_lay_94 : decode y_M_lay.2.1 94 = .ok (.invokevirtual 411, 3) := by decide +kernel
theorem d_M_lay_97 : decode y_M_lay.2.1 97 = .ok (.istore 7, 2) := by decide +kernel
theorem d_M_lay_99 : decode y_M_lay.2.1 99 = .ok (.aload_n 0, 1) := by decide +kernel
theorem d_M_lay_100 : decode y_M_lay.2.1 100 = .ok (.iload 5, 2) := by decide +kernel
theorem d_M_lay_102 : decode y_M_lay.2.1 102 = .ok (.invokevirtual 418, 3) := by decide +kernel
theorem d_M_lay_105 : decode y_M_lay.2.1 105 = .ok (.iconst 0, 1) := by decide +kernel
theorem d_M_lay_106 : decode y_M_lay.2.1 106 = .ok (.istore 8, 2) := by decide +kernel
theorem d_M_lay_108 : decode y_M_lay.2.1 108 = .ok (.iload 8, 2) := by decide +kernel
theorem d_M_lay_110 : decode y_M_lay.2.1 110 = .ok (.iload 5, 2) := by decide +kernel
theorem d_M_lay_112 : decode y_M_lay.2.1 112 = .ok (.if_icmp .gt 27, 3) := by decide +kernel
theorem d_M_lay_115 : decode y_M_lay.2.1 115 = .ok (.aload_n 0, 1) := by decide +kernel
theorem d_M_lay_116 : decode y_M_lay.2.1 116 = .ok (.iload 6, 2) := by decide +kernel
theorem d_M_lay_118 : decode y_M_lay.2.1 118 = .ok (.iload 8, 2) := by decide +kernel
theorem d_M_lay_120 : decode y_M_lay.2.1 120 = .ok (.aload_n 0, 1) := by decide +kernel
theorem d_M_lay_121 : decode y_M_lay.2.1 121 = .ok (.getfield 174, 3) := by decide +kernel
theorem d_M_lay_124 : decode y_M_lay.2.1 124 = .ok (.iload 8, 2) := by decide +kernel
theorem d_M_lay_126 : decode y_M_lay.2.1 126 = .ok (.iaload, 1) := by decide +kernel
theorem d_M_lay_127 : decode y_M_lay.2.1 127 = .ok (.i2l, 1) := by decide +kernel
theorem d_M_lay_128 : decode y_M_lay.2.1 128 = .ok (.invokevirtual 487, 3) := by decide +kernel
theorem d_M_lay_131 : decode y_M_lay.2.1 131 = .ok (.lstore 9, 2) := by decide +kernel
theorem d_M_lay_133 : decode y_M_lay.2.1 133 = .ok (.iinc 8 1, 3) := by decide +kernel
theorem d_M_lay_136 : decode y_M_lay.2.1 136 = .ok (.goto (-28), 3) := by decide +kernel
theorem d_M_lay_139 : decode y_M_lay.2.1 139 = .ok (.iload 5, 2) := by decide +kernel
theorem d_M_lay_141 : decode y_M_lay.2.1 141 = .ok (.iconst 1, 1) := by decide +kernel
theorem d_M_lay_142 : decode y_M_lay.2.1 142 = .ok (.iadd, 1) := by decide +kernel
theorem d_M_lay_143 : decode y_M_lay.2.1 143 = .ok (.ireturn, 1) := by decide +kernel
theorem d_M_count_0 : decode y_M_count.2.1 0 = .ok (.aload_n 0, 1) := by decide +kernel
theorem d_M_count_1 : decode y_M_count.2.1 1 = .ok (.iconst 0, 1) := by decide +kernel
theorem d_M_count_2 : decode y_M_count.2.1 2 = .ok (.putfield 217, 3) := by decide +kernel
theorem d_M_count_5 : decode y_M_count.2.1 5 = .ok (.iload_n 1, 1) := by decide +kernel
theorem d_M_count_6 : decode y_M_count.2.1 6 = .ok (.tableswitch 144 0 12 #[66, 71, 76, 81, 86, 91, 96, 101, 106, 114, 119, 124, 134], 66) := by decide +kernel
theorem d_M_count_72 : decode y_M_count.2.1 72 = .ok (.aload_n 0, 1) := by decide +kernel
theorem d_M_count_73 : decode y_M_count.2.1 73 = .ok (.getfield 228, 3) := by decide +kernel
theorem d_M_count_76 : decode y_M_count.2.1 76 = .ok (.ireturn, 1) := by decide +kernel
theorem d_M_count_77 : decode y_M_count.2.1 77 = .ok (.aload_n 0, 1) := by decide +kernel
theorem d_M_count_78 : decode y_M_count.2.1 78 = .ok (.getfield 250, 3) := by decide +kernel
theorem d_M_count_81 : decode y_M_count.2.1 81 = .ok (.ireturn, 1) := by decide +kernel
theorem d_M_count_82 : decode y_M_count.2.1 82 = .ok (.aload_n 0, 1) := by decide +kernel
theorem d_M_count_83 : decode y_M_count.2.1 83 = .ok (.getfield 253, 3) := by decide +kernel
theorem d_M_count_86 : decode y_M_count.2.1 86 = .ok (.ireturn, 1) := by decide +kernel
theorem d_M_count_87 : decode y_M_count.2.1 87 = .ok (.aload_n 0, 1) := by decide +kernel
theorem d_M_count_88 : decode y_M_count.2.1 88 = .ok (.getfield 256, 3) := by decide +kernel
theorem d_M_count_91 : decode y_M_count.2.1 91 = .ok (.ireturn, 1) := by decide +kernel
theorem d_M_count_92 : decode y_M_count.2.1 92 = .ok (.aload_n 0, 1) := by decide +kernel
theorem d_M_count_93 : decode y_M_count.2.1 93 = .ok (.getfield 259, 3) := by decide +kernel
theorem d_M_count_96 : decode y_M_count.2.1 96 = .ok (.ireturn, 1) := by decide +kernel
theorem d_M_count_97 : decode y_M_count.2.1 97 = .ok (.aload_n 0, 1) := by decide +kernel
theorem d_M_count_98 : decode y_M_count.2.1 98 = .ok (.getfield 262, 3) := by decide +kernel
theorem d_M_count_101 : decode y_M_count.2.1 101 = .ok (.ireturn, 1) := by decide +kernel
theorem d_M_count_102 : decode y_M_count.2.1 102 = .ok (.aload_n 0, 1) := by decide +kernel
theorem d_M_count_103 : decode y_M_count.2.1 103 = .ok (.invokevirtual 415, 3) := by decide +kernel
theorem d_M_count_106 : decode y_M_count.2.1 106 = .ok (.ireturn, 1) := by decide +kernel
theorem d_M_count_107 : decode y_M_count.2.1 107 = .ok (.aload_n 0, 1) := by decide +kernel
theorem d_M_count_108 : decode y_M_count.2.1 108 = .ok (.getfield 269, 3) := by decide +kernel
theorem d_M_count_111 : decode y_M_count.2.1 111 = .ok (.ireturn, 1) := by decide +kernel
theorem d_M_count_112 : decode y_M_count.2.1 112 = .ok (.aload_n 0, 1) := by decide +kernel
theorem d_M_count_113 : decode y_M_count.2.1 113 = .ok (.invokevirtual 405, 3) := by decide +kernel
theorem d_M_count_116 : decode y_M_count.2.1 116 = .ok (.invokestatic 435, 3) := by decide +kernel
theorem d_M_count_119 : decode y_M_count.2.1 119 = .ok (.ireturn, 1) := by decide +kernel
theorem d_M_count_120 : decode y_M_count.2.1 120 = .ok (.aload_n 0, 1) := by decide +kernel
theorem d_M_count_121 : decode y_M_count.2.1 121 = .ok (.getfield 275, 3) := by decide +kernel
theorem d_M_count_124 : decode y_M_count.2.1 124 = .ok (.ireturn, 1) := by decide +kernel
theorem d_M_count_125 : decode y_M_count.2.1 125 = .ok (.aload_n 0, 1) := by decide +kernel
theorem d_M_count_126 : decode y_M_count.2.1 126 = .ok (.getfield 278, 3) := by decide +kernel
theorem d_M_count_129 : decode y_M_count.2.1 129 = .ok (.ireturn, 1) := by decide +kernel
theorem d_M_count_130 : decode y_M_count.2.1 130 = .ok (.aload_n 0, 1) := by decide +kernel
theorem d_M_count_131 : decode y_M_count.2.1 131 = .ok (.getfield 231, 3) := by decide +kernel
theorem d_M_count_134 : decode y_M_count.2.1 134 = .ok (.aload_n 0, 1) := by decide +kernel
theorem d_M_count_135 : decode y_M_count.2.1 135 = .ok (.getfield 241, 3) := by decide +kernel
theorem d_M_count_138 : decode y_M_count.2.1 138 = .ok (.isub, 1) := by decide +kernel
theorem d_M_count_139 : decode y_M_count.2.1 139 = .ok (.ireturn, 1) := by decide +kernel
theorem d_M_count_140 : decode y_M_count.2.1 140 = .ok (.aload_n 0, 1) := by decide +kernel
theorem d_M_count_141 : decode y_M_count.2.1 141 = .ok (.getfield 238, 3) := by decide +kernel
theorem d_M_count_144 : decode y_M_count.2.1 144 = .ok (.aload_n 0, 1) := by decide +kernel
theorem d_M_count_145 : decode y_M_count.2.1 145 = .ok (.getfield 231, 3) := by decide +kernel
theorem d_M_count_148 : decode y_M_count.2.1 148 = .ok (.isub, 1) := by decide +kernel
theorem d_M_count_149 : decode y_M_count.2.1 149 = .ok (.ireturn, 1) := by decide +kernel
theorem d_M_count_150 : decode y_M_count.2.1 150 = .ok (.iconst (-1), 1) := by decide +kernel
theorem d_M_count_151 : decode y_M_count.2.1 151 = .ok (.ireturn, 1) := by decide +kernel
