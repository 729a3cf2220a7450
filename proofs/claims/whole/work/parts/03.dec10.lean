theorem dX11_next_27 : decode cX11_next 27 = .ok (.bipush 32, 2) := by decide +kernel
theorem dX11_next_29 : decode cX11_next 29 = .ok (.if_icmp .eq 16, 3) := by decide +kernel
theorem dX11_next_32 : decode cX11_next 32 = .ok (.aload_n 0, 1) := by decide +kernel
theorem dX11_next_33 : decode cX11_next 33 = .ok (.aload_n 0, 1) := by decide +kernel
theorem dX11_next_34 : decode cX11_next 34 = .ok (.getfield 198, 3) := by decide +kernel
theorem dX11_next_37 : decode cX11_next 37 = .ok (.invokevirtual 201, 3) := by decide +kernel
theorem dX11_next_40 : decode cX11_next 40 = .ok (.bipush 10, 2) := by decide +kernel
theorem dX11_next_42 : decode cX11_next 42 = .ok (.if_icmp .ne 16, 3) := by decide +kernel
theorem dX11_next_45 : decode cX11_next 45 = .ok (.aload_n 0, 1) := by decide +kernel
theorem dX11_next_46 : decode cX11_next 46 = .ok (.dup, 1) := by decide +kernel
theorem dX11_next_47 : decode cX11_next 47 = .ok (.getfield 198, 3) := by decide +kernel
theorem dX11_next_50 : decode cX11_next 50 = .ok (.iconst 1, 1) := by decide +kernel
theorem dX11_next_51 : decode cX11_next 51 = .ok (.iadd, 1) := by decide +kernel
theorem dX11_next_52 : decode cX11_next 52 = .ok (.putfield 198, 3) := by decide +kernel
theorem dX11_next_55 : decode cX11_next 55 = .ok (.goto (-47), 3) := by decide +kernel
theorem dX11_next_58 : decode cX11_next 58 = .ok (.aload_n 0, 1) := by decide +kernel
theorem dX11_next_59 : decode cX11_next 59 = .ok (.aload_n 0, 1) := by decide +kernel
theorem dX11_next_60 : decode cX11_next 60 = .ok (.getfield 198, 3) := by decide +kernel
theorem dX11_next_63 : decode cX11_next 63 = .ok (.invokevirtual 201, 3) := by decide +kernel
theorem dX11_next_66 : decode cX11_next 66 = .ok (.istore_n 1, 1) := by decide +kernel
theorem dX11_next_67 : decode cX11_next 67 = .ok (.aload_n 0, 1) := by decide +kernel
theorem dX11_next_68 : decode cX11_next 68 = .ok (.aload_n 0, 1) := by decide +kernel
theorem dX11_next_69 : decode cX11_next 69 = .ok (.getfield 198, 3) := by decide +kernel
theorem dX11_next_72 : decode cX11_next 72 = .ok (.iconst 1, 1) := by decide +kernel
theorem dX11_next_73 : decode cX11_next 73 = .ok (.iadd, 1) := by decide +kernel
theorem dX11_next_74 : decode cX11_next 74 = .ok (.putfield 195, 3) := by decide +kernel
theorem dX11_next_77 : decode cX11_next 77 = .ok (.aload_n 0, 1) := by decide +kernel
theorem dX11_next_78 : decode cX11_next 78 = .ok (.getfield 198, 3) := by decide +kernel
theorem dX11_next_81 : decode cX11_next 81 = .ok (.aload_n 0, 1) := by decide +kernel
theorem dX11_next_82 : decode cX11_next 82 = .ok (.getfield 189, 3) := by decide +kernel
theorem dX11_next_85 : decode cX11_next 85 = .ok (.if_icmp .lt 27, 3) := by decide +kernel
theorem dX11_next_88 : decode cX11_next 88 = .ok (.aload_n 0, 1) := by decide +kernel
theorem dX11_next_89 : decode cX11_next 89 = .ok (.iconst 0, 1) := by decide +kernel
theorem dX11_next_90 : decode cX11_next 90 = .ok (.putfield 204, 3) := by decide +kernel
theorem dX11_next_93 : decode cX11_next 93 = .ok (.aload_n 0, 1) := by decide +kernel
theorem dX11_next_94 : decode cX11_next 94 = .ok (.aload_n 0, 1) := by decide +kernel
theorem dX11_next_95 : decode cX11_next 95 = .ok (.getfield 189, 3) := by decide +kernel
theorem dX11_next_98 : decode cX11_next 98 = .ok (.putfield 198, 3) := by decide +kernel
theorem dX11_next_101 : decode cX11_next 101 = .ok (.aload_n 0, 1) := by decide +kernel
theorem dX11_next_102 : decode cX11_next 102 = .ok (.aload_n 0, 1) := by decide +kernel
theorem dX11_next_103 : decode cX11_next 103 = .ok (.getfield 189, 3) := by decide +kernel
theorem dX11_next_106 : decode cX11_next 106 = .ok (.putfield 195, 3) := by decide +kernel
theorem dX11_next_109 : decode cX11_next 109 = .ok (.goto 400, 3) := by decide +kernel
theorem dX11_next_112 : decode cX11_next 112 = .ok (.iload_n 1, 1) := by decide +kernel
theorem dX11_next_113 : decode cX11_next 113 = .ok (.bipush 116, 2) := by decide +kernel
theorem dX11_next_115 : decode cX11_next 115 = .ok (.if_icmp .ne 100, 3) := by decide +kernel
theorem dX11_next_118 : decode cX11_next 118 = .ok (.aload_n 0, 1) := by decide +kernel
theorem dX11_next_119 : decode cX11_next 119 = .ok (.aload_n 0, 1) := by decide +kernel
theorem dX11_next_120 : decode cX11_next 120 = .ok (.getfield 198, 3) := by decide +kernel
theorem dX11_next_123 : decode cX11_next 123 = .ok (.iconst 1, 1) := by decide +kernel
theorem dX11_next_124 : decode cX11_next 124 = .ok (.iadd, 1) := by decide +kernel
theorem dX11_next_125 : decode cX11_next 125 = .ok (.invokevirtual 201, 3) := by decide +kernel
theorem dX11_next_128 : decode cX11_next 128 = .ok (.bipush 48, 2) := by decide +kernel
theorem dX11_next_130 : decode cX11_next 130 = .ok (.if_icmp .lt 85, 3) := by decide +kernel
theorem dX11_next_133 : decode cX11_next 133 = .ok (.aload_n 0, 1) := by decide +kernel
theorem dX11_next_134 : decode cX11_next 134 = .ok (.aload_n 0, 1) := by decide +kernel
theorem dX11_next_135 : decode cX11_next 135 = .ok (.getfield 198, 3) := by decide +kernel
theorem dX11_next_138 : decode cX11_next 138 = .ok (.iconst 1, 1) := by decide +kernel
theorem dX11_next_139 : decode cX11_next 139 = .ok (.iadd, 1) := by decide +kernel
theorem dX11_next_140 : decode cX11_next 140 = .ok (.invokevirtual 201, 3) := by decide +kernel
theorem dX11_next_143 : decode cX11_next 143 = .ok (.bipush 56, 2) := by decide +kernel
theorem dX11_next_145 : decode cX11_next 145 = .ok (.if_icmp .ge 70, 3) := by decide +kernel
theorem dX11_next_148 : decode cX11_next 148 = .ok (.aload_n 0, 1) := by decide +kernel
theorem dX11_next_149 : decode cX11_next 149 = .ok (.aload_n 0, 1) := by decide +kernel
theorem dX11_next_150 : decode cX11_next 150 = .ok (.getfield 198, 3) := by decide +kernel
theorem dX11_next_153 : decode cX11_next 153 = .ok (.iconst 2, 1) := by decide +kernel
theorem dX11_next_154 : decode cX11_next 154 = .ok (.iadd, 1) := by decide +kernel
theorem dX11_next_155 : decode cX11_next 155 = .ok (.invokevirtual 201, 3) := by decide +kernel
theorem dX11_next_158 : decode cX11_next 158 = .ok (.invokestatic 207, 3) := by decide +kernel
theorem dX11_next_161 : decode cX11_next 161 = .ok (.ifCond .ne 54, 3) := by decide +kernel
theorem dX11_next_164 : decode cX11_next 164 = .ok (.aload_n 0, 1) := by decide +kernel
theorem dX11_next_165 : decode cX11_next 165 = .ok (.aload_n 0, 1) := by decide +kernel
theorem dX11_next_166 : decode cX11_next 166 = .ok (.getfield 198, 3) := by decide +kernel
theorem dX11_next_169 : decode cX11_next 169 = .ok (.iconst 2, 1) := by decide +kernel
theorem dX11_next_170 : decode cX11_next 170 = .ok (.iadd, 1) := by decide +kernel
theorem dX11_next_171 : decode cX11_next 171 = .ok (.invokevirtual 201, 3) := by decide +kernel
theorem dX11_next_174 : decode cX11_next 174 = .ok (.invokestatic 210, 3) := by decide +kernel
theorem dX11_next_177 : decode cX11_next 177 = .ok (.ifCond .ne 38, 3) := by decide +kernel
theorem dX11_next_180 : decode cX11_next 180 = .ok (.aload_n 0, 1) := by decide +kernel
theorem dX11_next_181 : decode cX11_next 181 = .ok (.aload_n 0, 1) := by decide +kernel
theorem dX11_next_182 : decode cX11_next 182 = .ok (.aload_n 0, 1) := by decide +kernel
theorem dX11_next_183 : decode cX11_next 183 = .ok (.getfield 198, 3) := by decide +kernel
theorem dX11_next_186 : decode cX11_next 186 = .ok (.iconst 1, 1) := by decide +kernel
theorem dX11_next_187 : decode cX11_next 187 = .ok (.iadd, 1) := by decide +kernel
theorem dX11_next_188 : decode cX11_next 188 = .ok (.invokevirtual 201, 3) := by decide +kernel
theorem dX11_next_191 : decode cX11_next 191 = .ok (.bipush 48, 2) := by decide +kernel
theorem dX11_next_193 : decode cX11_next 193 = .ok (.isub, 1) := by decide +kernel
theorem dX11_next_194 : decode cX11_next 194 = .ok (.putfield 213, 3) := by decide +kernel
theorem dX11_next_197 : decode cX11_next 197 = .ok (.aload_n 0, 1) := by decide +kernel
theorem dX11_next_198 : decode cX11_next 198 = .ok (.aload_n 0, 1) := by decide +kernel
theorem dX11_next_199 : decode cX11_next 199 = .ok (.getfield 198, 3) := by decide +kernel
theorem dX11_next_202 : decode cX11_next 202 = .ok (.iconst 2, 1) := by decide +kernel
theorem dX11_next_203 : decode cX11_next 203 = .ok (.iadd, 1) := by decide +kernel
theorem dX11_next_204 : decode cX11_next 204 = .ok (.putfield 195, 3) := by decide +kernel
theorem dX11_next_207 : decode cX11_next 207 = .ok (.aload_n 0, 1) := by decide +kernel
theorem dX11_next_208 : decode cX11_next 208 = .ok (.iconst 4, 1) := by decide +kernel
theorem dX11_next_209 : decode cX11_next 209 = .ok (.putfield 204, 3) := by decide +kernel
theorem dX11_next_212 : decode cX11_next 212 = .ok (.goto 297, 3) := by decide +kernel
theorem dX11_next_215 : decode cX11_next 215 = .ok (.iload_n 1, 1) := by decide +kernel
theorem dX11_next_216 : decode cX11_next 216 = .ok (.invokestatic 207, 3) := by decide +kernel
theorem dX11_next_219 : decode cX11_next 219 = .ok (.ifCond .eq 109, 3) := by decide +kernel
theorem dX11_next_222 : decode cX11_next 222 = .ok (.aload_n 0, 1) := by decide +kernel
theorem dX11_next_223 : decode cX11_next 223 = .ok (.aload_n 0, 1) := by decide +kernel
theorem dX11_next_224 : decode cX11_next 224 = .ok (.getfield 195, 3) := by decide +kernel
theorem dX11_next_227 : decode cX11_next 227 = .ok (.invokevirtual 201, 3) := by decide +kernel
theorem dX11_next_230 : decode cX11_next 230 = .ok (.invokestatic 207, 3) := by decide +kernel
theorem dX11_next_233 : decode cX11_next 233 = .ok (.ifCond .eq 16, 3) := by decide +kernel
theorem dX11_next_236 : decode cX11_next 236 = .ok (.aload_n 0, 1) := by decide +kernel
theorem dX11_next_237 : decode cX11_next 237 = .ok (.dup, 1) := by decide +kernel
theorem dX11_next_238 : decode cX11_next 238 = .ok (.getfield 195, 3) := by decide +kernel
theorem dX11_next_241 : decode cX11_next 241 = .ok (.iconst 1, 1) := by decide +kernel
theorem dX11_next_242 : decode cX11_next 242 = .ok (.iadd, 1) := by decide +kernel
theorem dX11_next_243 : decode cX11_next 243 = .ok (.putfield 195, 3) := by decide +kernel
theorem dX11_next_246 : decode cX11_next 246 = .ok (.goto (-24), 3) := by decide +kernel
theorem dX11_next_249 : decode cX11_next 249 = .ok (.aload_n 0, 1) := by decide +kernel
theorem dX11_next_250 : decode cX11_next 250 = .ok (.lconst 0, 1) := by decide +kernel
theorem dX11_next_251 : decode cX11_next 251 = .ok (.putfield 216, 3) := by decide +kernel
theorem dX11_next_254 : decode cX11_next 254 = .ok (.aload_n 0, 1) := by decide +kernel
theorem dX11_next_255 : decode cX11_next 255 = .ok (.getfield 198, 3) := by decide +kernel
theorem dX11_next_258 : decode cX11_next 258 = .ok (.istore_n 2, 1) := by decide +kernel
theorem dX11_next_259 : decode cX11_next 259 = .ok (.iload_n 2, 1) := by decide +kernel
theorem dX11_next_260 : decode cX11_next 260 = .ok (.aload_n 0, 1) := by decide +kernel
theorem dX11_next_261 : decode cX11_next 261 = .ok (.getfield 195, 3) := by decide +kernel
theorem dX11_next_264 : decode cX11_next 264 = .ok (.if_icmp .ge 38, 3) := by decide +kernel
theorem dX11_next_267 : decode cX11_next 267 = .ok (.iload_n 2, 1) := by decide +kernel
theorem dX11_next_268 : decode cX11_next 268 = .ok (.aload_n 0, 1) := by decide +kernel
theorem dX11_next_269 : decode cX11_next 269 = .ok (.getfield 198, 3) := by decide +kernel
theorem dX11_next_272 : decode cX11_next 272 = .ok (.bipush 8, 2) := by decide +kernel
theorem dX11_next_274 : decode cX11_next 274 = .ok (.iadd, 1) := by decide +kernel
theorem dX11_next_275 : decode cX11_next 275 = .ok (.if_icmp .ge 27, 3) := by decide +kernel
theorem dX11_next_278 : decode cX11_next 278 = .ok (.aload_n 0, 1) := by decide +kernel
theorem dX11_next_279 : decode cX11_next 279 = .ok (.aload_n 0, 1) := by decide +kernel
theorem dX11_next_280 : decode cX11_next 280 = .ok (.getfield 216, 3) := by decide +kernel
theorem dX11_next_283 : decode cX11_next 283 = .ok (.bipush 8, 2) := by decide +kernel
theorem dX11_next_285 : decode cX11_next 285 = .ok (.lshl, 1) := by decide +kernel
theorem dX11_next_286 : decode cX11_next 286 = .ok (.aload_n 0, 1) := by decide +kernel
theorem dX11_next_287 : decode cX11_next 287 = .ok (.iload_n 2, 1) := by decide +kernel
theorem dX11_next_288 : decode cX11_next 288 = .ok (.invokevirtual 201, 3) := by decide +kernel
theorem dX11_next_291 : decode cX11_next 291 = .ok (.i2l, 1) := by decide +kernel
theorem dX11_next_292 : decode cX11_next 292 = .ok (.lor, 1) := by decide +kernel
theorem dX11_next_293 : decode cX11_next 293 = .ok (.putfield 216, 3) := by decide +kernel
theorem dX11_next_296 : decode cX11_next 296 = .ok (.iinc 2 1, 3) := by decide +kernel
theorem dX11_next_299 : decode cX11_next 299 = .ok (.goto (-40), 3) := by decide +kernel
theorem dX11_next_302 : decode cX11_next 302 = .ok (.aload_n 0, 1) := by decide +kernel
theorem dX11_next_303 : decode cX11_next 303 = .ok (.aload_n 0, 1) := by decide +kernel
theorem dX11_next_304 : decode cX11_next 304 = .ok (.getfield 195, 3) := by decide +kernel
theorem dX11_next_307 : decode cX11_next 307 = .ok (.aload_n 0, 1) := by decide +kernel
theorem dX11_next_308 : decode cX11_next 308 = .ok (.getfield 198, 3) := by decide +kernel
theorem dX11_next_311 : decode cX11_next 311 = .ok (.isub, 1) := by decide +kernel
theorem dX11_next_312 : decode cX11_next 312 = .ok (.bipush 8, 2) := by decide +kernel
theorem dX11_next_314 : decode cX11_next 314 = .ok (.if_icmp .le 7, 3) := by decide +kernel
theorem dX11_next_317 : decode cX11_next 317 = .ok (.iconst 1, 1) := by decide +kernel
theorem dX11_next_318 : decode cX11_next 318 = .ok (.goto 4, 3) := by decide +kernel
theorem dX11_next_321 : decode cX11_next 321 = .ok (.iconst 2, 1) := by decide +kernel
theorem dX11_next_322 : decode cX11_next 322 = .ok (.putfield 204, 3) := by decide +kernel
theorem dX11_next_325 : decode cX11_next 325 = .ok (.goto 184, 3) := by decide +kernel
theorem dX11_next_328 : decode cX11_next 328 = .ok (.iload_n 1, 1) := by decide +kernel
theorem dX11_next_329 : decode cX11_next 329 = .ok (.invokestatic 210, 3) := by decide +kernel
theorem dX11_next_332 : decode cX11_next 332 = .ok (.ifCond .eq 120, 3) := by decide +kernel
theorem dX11_next_335 : decode cX11_next 335 = .ok (.aload_n 0, 1) := by decide +kernel
theorem dX11_next_336 : decode cX11_next 336 = .ok (.iconst 0, 1) := by decide +kernel
theorem dX11_next_337 : decode cX11_next 337 = .ok (.putfield 213, 3) := by decide +kernel
theorem dX11_next_340 : decode cX11_next 340 = .ok (.aload_n 0, 1) := by decide +kernel
theorem dX11_next_341 : decode cX11_next 341 = .ok (.aload_n 0, 1) := by decide +kernel
theorem dX11_next_342 : decode cX11_next 342 = .ok (.getfield 198, 3) := by decide +kernel
theorem dX11_next_345 : decode cX11_next 345 = .ok (.putfield 195, 3) := by decide +kernel
theorem dX11_next_348 : decode cX11_next 348 = .ok (.aload_n 0, 1) := by decide +kernel
theorem dX11_next_349 : decode cX11_next 349 = .ok (.aload_n 0, 1) := by decide +kernel
theorem dX11_next_350 : decode cX11_next 350 = .ok (.getfield 195, 3) := by decide +kernel
theorem dX11_next_353 : decode cX11_next 353 = .ok (.invokevirtual 201, 3) := by decide +kernel
theorem dX11_next_356 : decode cX11_next 356 = .ok (.invokestatic 210, 3) := by decide +kernel
theorem dX11_next_359 : decode cX11_next 359 = .ok (.ifCond .eq 53, 3) := by decide +kernel
theorem dX11_next_362 : decode cX11_next 362 = .ok (.aload_n 0, 1) := by decide +kernel
theorem dX11_next_363 : decode cX11_next 363 = .ok (.getfield 195, 3) := by decide +kernel
theorem dX11_next_366 : decode cX11_next 366 = .ok (.aload_n 0, 1) := by decide +kernel
theorem dX11_next_367 : decode cX11_next 367 = .ok (.getfield 198, 3) := by decide +kernel
theorem dX11_next_370 : decode cX11_next 370 = .ok (.isub, 1) := by decide +kernel
theorem dX11_next_371 : decode cX11_next 371 = .ok (.bipush 6, 2) := by decide +kernel
theorem dX11_next_373 : decode cX11_next 373 = .ok (.if_icmp .ge 26, 3) := by decide +kernel
theorem dX11_next_376 : decode cX11_next 376 = .ok (.aload_n 0, 1) := by decide +kernel
theorem dX11_next_377 : decode cX11_next 377 = .ok (.bipush 10, 2) := by decide +kernel
theorem dX11_next_379 : decode cX11_next 379 = .ok (.aload_n 0, 1) := by decide +kernel
theorem dX11_next_380 : decode cX11_next 380 = .ok (.getfield 213, 3) := by decide +kernel
theorem dX11_next_383 : decode cX11_next 383 = .ok (.imul, 1) := by decide +kernel
theorem dX11_next_384 : decode cX11_next 384 = .ok (.aload_n 0, 1) := by decide +kernel
theorem dX11_next_385 : decode cX11_next 385 = .ok (.aload_n 0, 1) := by decide +kernel
theorem dX11_next_386 : decode cX11_next 386 = .ok (.getfield 195, 3) := by decide +kernel
theorem dX11_next_389 : decode cX11_next 389 = .ok (.invokevirtual 201, 3) := by decide +kernel
theorem dX11_next_392 : decode cX11_next 392 = .ok (.iadd, 1) := by decide +kernel
theorem dX11_next_393 : decode cX11_next 393 = .ok (.bipush 48, 2) := by decide +kernel
theorem dX11_next_395 : decode cX11_next 395 = .ok (.isub, 1) := by decide +kernel
theorem dX11_next_396 : decode cX11_next 396 = .ok (.putfield 213, 3) := by decide +kernel
theorem dX11_next_399 : decode cX11_next 399 = .ok (.aload_n 0, 1) := by decide +kernel
theorem dX11_next_400 : decode cX11_next 400 = .ok (.dup, 1) := by decide +kernel
theorem dX11_next_401 : decode cX11_next 401 = .ok (.getfield 195, 3) := by decide +kernel
theorem dX11_next_404 : decode cX11_next 404 = .ok (.iconst 1, 1) := by decide +kernel
theorem dX11_next_405 : decode cX11_next 405 = .ok (.iadd, 1) := by decide +kernel
theorem dX11_next_406 : decode cX11_next 406 = .ok (.putfield 195, 3) := by decide +kernel
theorem dX11_next_409 : decode cX11_next 409 = .ok (.goto (-61), 3) := by decide +kernel
theorem dX11_next_412 : decode cX11_next 412 = .ok (.aload_n 0, 1) := by decide +kernel
theorem dX11_next_413 : decode cX11_next 413 = .ok (.aload_n 0, 1) := by decide +kernel
theorem dX11_next_414 : decode cX11_next 414 = .ok (.getfield 195, 3) := by decide +kernel
theorem dX11_next_417 : decode cX11_next 417 = .ok (.aload_n 0, 1) := by decide +kernel
theorem dX11_next_418 : decode cX11_next 418 = .ok (.getfield 198, 3) := by decide +kernel
theorem dX11_next_421 : decode cX11_next 421 = .ok (.isub, 1) := by decide +kernel
theorem dX11_next_422 : decode cX11_next 422 = .ok (.bipush 6, 2) := by decide +kernel
theorem dX11_next_424 : decode cX11_next 424 = .ok (.if_icmp .gt 17, 3) := by decide +kernel
theorem dX11_next_427 : decode cX11_next 427 = .ok (.aload_n 0, 1) := by decide +kernel
theorem dX11_next_428 : decode cX11_next 428 = .ok (.aload_n 0, 1) := by decide +kernel
theorem dX11_next_429 : decode cX11_next 429 = .ok (.getfield 195, 3) := by decide +kernel
theorem dX11_next_432 : decode cX11_next 432 = .ok (.invokevirtual 201, 3) := by decide +kernel
theorem dX11_next_435 : decode cX11_next 435 = .ok (.invokestatic 207, 3) := by decide +kernel
theorem dX11_next_438 : decode cX11_next 438 = .ok (.ifCond .eq 7, 3) := by decide +kernel
theorem dX11_next_441 : decode cX11_next 441 = .ok (.iconst 1, 1) := by decide +kernel
theorem dX11_next_442 : decode cX11_next 442 = .ok (.goto 4, 3) := by decide +kernel
theorem dX11_next_445 : decode cX11_next 445 = .ok (.iconst 3, 1) := by decide +kernel
theorem dX11_next_446 : decode cX11_next 446 = .ok (.putfield 204, 3) := by decide +kernel
theorem dX11_next_449 : decode cX11_next 449 = .ok (.goto 60, 3) := by decide +kernel
theorem dX11_next_452 : decode cX11_next 452 = .ok (.aload_n 0, 1) := by decide +kernel
theorem dX11_next_453 : decode cX11_next 453 = .ok (.iload_n 1, 1) := by decide +kernel
theorem dX11_next_454 : decode cX11_next 454 = .ok (.bipush 59, 2) := by decide +kernel
theorem dX11_next_456 : decode cX11_next 456 = .ok (.if_icmp .eq 45, 3) := by decide +kernel
theorem dX11_next_459 : decode cX11_next 459 = .ok (.iload_n 1, 1) := by decide +kernel
theorem dX11_next_460 : decode cX11_next 460 = .ok (.bipush 40, 2) := by decide +kernel
theorem dX11_next_462 : decode cX11_next 462 = .ok (.if_icmp .eq 39, 3) := by decide +kernel
theorem dX11_next_465 : decode cX11_next 465 = .ok (.iload_n 1, 1) := by decide +kernel
theorem dX11_next_466 : decode cX11_next 466 = .ok (.bipush 41, 2) := by decide +kernel
theorem dX11_next_468 : decode cX11_next 468 = .ok (.if_icmp .eq 33, 3) := by decide +kernel
theorem dX11_next_471 : decode cX11_next 471 = .ok (.iload_n 1, 1) := by decide +kernel
theorem dX11_next_472 : decode cX11_next 472 = .ok (.bipush 60, 2) := by decide +kernel
theorem dX11_next_474 : decode cX11_next 474 = .ok (.if_icmp .eq 27, 3) := by decide +kernel
theorem dX11_next_477 : decode cX11_next 477 = .ok (.iload_n 1, 1) := by decide +kernel
theorem dX11_next_478 : decode cX11_next 478 = .ok (.bipush 62, 2) := by decide +kernel
theorem dX11_next_480 : decode cX11_next 480 = .ok (.if_icmp .eq 21, 3) := by decide +kernel
theorem dX11_next_483 : decode cX11_next 483 = .ok (.iload_n 1, 1) := by decide +kernel
theorem dX11_next_484 : decode cX11_next 484 = .ok (.bipush 61, 2) := by decide +kernel
theorem dX11_next_486 : decode cX11_next 486 = .ok (.if_icmp .eq 15, 3) := by decide +kernel
theorem dX11_next_489 : decode cX11_next 489 = .ok (.iload_n 1, 1) := by decide +kernel
theorem dX11_next_490 : decode cX11_next 490 = .ok (.bipush 43, 2) := by decide +kernel
theorem dX11_next_492 : decode cX11_next 492 = .ok (.if_icmp .eq 9, 3) := by decide +kernel
theorem dX11_next_495 : decode cX11_next 495 = .ok (.iload_n 1, 1) := by decide +kernel
theorem dX11_next_496 : decode cX11_next 496 = .ok (.bipush 45, 2) := by decide +kernel
theorem dX11_next_498 : decode cX11_next 498 = .ok (.if_icmp .ne 7, 3) := by decide +kernel
theorem dX11_next_501 : decode cX11_next 501 = .ok (.iconst 5, 1) := by decide +kernel
theorem dX11_next_502 : decode cX11_next 502 = .ok (.goto 4, 3) := by decide +kernel
theorem dX11_next_505 : decode cX11_next 505 = .ok (.iconst 1, 1) := by decide +kernel
theorem dX11_next_506 : decode cX11_next 506 = .ok (.putfield 204, 3) := by decide +kernel
theorem dX11_next_509 : decode cX11_next 509 = .ok (.return_, 1) := by decide +kernel
theorem dX11_is_0 : decode cX11_is 0 = .ok (.aload_n 0, 1) := by decide +kernel
theorem dX11_is_1 : decode cX11_is 1 = .ok (.getfield 204, 3) := by decide +kernel
theorem dX11_is_4 : decode cX11_is 4 = .ok (.iconst 5, 1) := by decide +kernel
theorem dX11_is_5 : decode cX11_is 5 = .ok (.if_icmp .ne 19, 3) := by decide +kernel
theorem dX11_is_8 : decode cX11_is 8 = .ok (.aload_n 0, 1) := by decide +kernel
theorem dX11_is_9 : decode cX11_is 9 = .ok (.aload_n 0, 1) := by decide +kernel
theorem dX11_is_10 : decode cX11_is 10 = .ok (.getfield 198, 3) := by decide +kernel
theorem dX11_is_13 : decode cX11_is 13 = .ok (.invokevirtual 201, 3) := by decide +kernel
theorem dX11_is_16 : decode cX11_is 16 = .ok (.iload_n 1, 1) := by decide +kernel
theorem dX11_is_17 : decode cX11_is 17 = .ok (.if_icmp .ne 7, 3) := by decide +kernel
theorem dX11_is_20 : decode cX11_is 20 = .ok (.iconst 1, 1) := by decide +kernel
theorem dX11_is_21 : decode cX11_is 21 = .ok (.goto 4, 3) := by decide +kernel
theorem dX11_is_24 : decode cX11_is 24 = .ok (.iconst 0, 1) := by decide +kernel
theorem dX11_is_25 : decode cX11_is 25 = .ok (.ireturn, 1) := by decide +kernel
theorem dX11_isWord_0 : decode cX11_isWord 0 = .ok (.aload_n 0, 1) := by decide +kernel
theorem dX11_isWord_1 : decode cX11_isWord 1 = .ok (.getfield 204, 3) := by decide +kernel
theorem dX11_isWord_4 : decode cX11_isWord 4 = .ok (.iconst 2, 1) := by decide +kernel
theorem dX11_isWord_5 : decode cX11_isWord 5 = .ok (.if_icmp .ne 16, 3) := by decide +kernel
theorem dX11_isWord_8 : decode cX11_isWord 8 = .ok (.aload_n 0, 1) := by decide +kernel
theorem dX11_isWord_9 : decode cX11_isWord 9 = .ok (.getfield 216, 3) := by decide +kernel
theorem dX11_isWord_12 : decode cX11_isWord 12 = .ok (.lload_n 1, 1) := by decide +kernel
theorem dX11_isWord_13 : decode cX11_isWord 13 = .ok (.lcmp, 1) := by decide +kernel
theorem dX11_isWord_14 : decode cX11_isWord 14 = .ok (.ifCond .ne 7, 3) := by decide +kernel
theorem dX11_isWord_17 : decode cX11_isWord 17 = .ok (.iconst 1, 1) := by decide +kernel
theorem dX11_isWord_18 : decode cX11_isWord 18 = .ok (.goto 4, 3) := by decide +kernel
theorem dX11_isWord_21 : decode cX11_isWord 21 = .ok (.iconst 0, 1) := by decide +kernel
theorem dX11_isWord_22 : decode cX11_isWord 22 = .ok (.ireturn, 1) := by decide +kernel
theorem dX11_wrong_0 : decode cX11_wrong 0 = .ok (.aload_n 0, 1) := by decide +kernel
theorem dX11_wrong_1 : decode cX11_wrong 1 = .ok (.aload_n 0, 1) := by decide +kernel
theorem dX11_wrong_2 : decode cX11_wrong 2 = .ok (.getfield 204, 3) := by decide +kernel
theorem dX11_wrong_5 : decode cX11_wrong 5 = .ok (.iconst 1, 1) := by decide +kernel
theorem dX11_wrong_6 : decode cX11_wrong 6 = .ok (.if_icmp .ne 7, 3) := by decide +kernel
theorem dX11_wrong_9 : decode cX11_wrong 9 = .ok (.iconst 1, 1) := by decide +kernel
theorem dX11_wrong_10 : decode cX11_wrong 10 = .ok (.goto 4, 3) := by decide +kernel
theorem dX11_wrong_13 : decode cX11_wrong 13 = .ok (.iconst 2, 1) := by decide +kernel
theorem dX11_wrong_14 : decode cX11_wrong 14 = .ok (.aload_n 0, 1) := by decide +kernel
theorem dX11_wrong_15 : decode cX11_wrong 15 = .ok (.getfield 198, 3) := by decide +kernel
theorem dX11_wrong_18 : decode cX11_wrong 18 = .ok (.invokevirtual 220, 3) := by decide +kernel
theorem dX11_wrong_21 : decode cX11_wrong 21 = .ok (.return_, 1) := by decide +kernel
theorem dX11_must_0 : decode cX11_must 0 = .ok (.aload_n 0, 1) := by decide +kernel
theorem dX11_must_1 : decode cX11_must 1 = .ok (.invokevirtual 224, 3) := by decide +kernel
theorem dX11_must_4 : decode cX11_must 4 = .ok (.ifCond .ne 4, 3) := by decide +kernel
theorem dX11_must_7 : decode cX11_must 7 = .ok (.return_, 1) := by decide +kernel
theorem dX11_must_8 : decode cX11_must 8 = .ok (.iload_n 1, 1) := by decide +kernel
theorem dX11_must_9 : decode cX11_must 9 = .ok (.ifCond .eq 10, 3) := by decide +kernel
theorem dX11_must_12 : decode cX11_must 12 = .ok (.aload_n 0, 1) := by decide +kernel
theorem dX11_must_13 : decode cX11_must 13 = .ok (.invokevirtual 228, 3) := by decide +kernel
theorem dX11_must_16 : decode cX11_must 16 = .ok (.goto 7, 3) := by decide +kernel
theorem dX11_must_19 : decode cX11_must 19 = .ok (.aload_n 0, 1) := by decide +kernel
theorem dX11_must_20 : decode cX11_must 20 = .ok (.invokevirtual 231, 3) := by decide +kernel
theorem dX11_must_23 : decode cX11_must 23 = .ok (.return_, 1) := by decide +kernel
theorem dX11_kindHere_0 : decode cX11_kindHere 0 = .ok (.aload_n 0, 1) := by decide +kernel
theorem dX11_kindHere_1 : decode cX11_kindHere 1 = .ok (.ldc2_w 234, 3) := by decide +kernel
theorem dX11_kindHere_4 : decode cX11_kindHere 4 = .ok (.invokevirtual 236, 3) := by decide +kernel
theorem dX11_kindHere_7 : decode cX11_kindHere 7 = .ok (.ifCond .eq 7, 3) := by decide +kernel
theorem dX11_kindHere_10 : decode cX11_kindHere 10 = .ok (.iconst 0, 1) := by decide +kernel
theorem dX11_kindHere_11 : decode cX11_kindHere 11 = .ok (.goto 32, 3) := by decide +kernel
theorem dX11_kindHere_14 : decode cX11_kindHere 14 = .ok (.aload_n 0, 1) := by decide +kernel
theorem dX11_kindHere_15 : decode cX11_kindHere 15 = .ok (.ldc2_w 240, 3) := by decide +kernel
theorem dX11_kindHere_18 : decode cX11_kindHere 18 = .ok (.invokevirtual 236, 3) := by decide +kernel
theorem dX11_kindHere_21 : decode cX11_kindHere 21 = .ok (.ifCond .eq 7, 3) := by decide +kernel
theorem dX11_kindHere_24 : decode cX11_kindHere 24 = .ok (.iconst 1, 1) := by decide +kernel
theorem dX11_kindHere_25 : decode cX11_kindHere 25 = .ok (.goto 18, 3) := by decide +kernel
theorem dX11_kindHere_28 : decode cX11_kindHere 28 = .ok (.aload_n 0, 1) := by decide +kernel
theorem dX11_kindHere_29 : decode cX11_kindHere 29 = .ok (.ldc2_w 242, 3) := by decide +kernel
theorem dX11_kindHere_32 : decode cX11_kindHere 32 = .ok (.invokevirtual 236, 3) := by decide +kernel
theorem dX11_kindHere_35 : decode cX11_kindHere 35 = .ok (.ifCond .eq 7, 3) := by decide +kernel
theorem dX11_kindHere_38 : decode cX11_kindHere 38 = .ok (.iconst 2, 1) := by decide +kernel
theorem dX11_kindHere_39 : decode cX11_kindHere 39 = .ok (.goto 4, 3) := by decide +kernel
theorem dX11_kindHere_42 : decode cX11_kindHere 42 = .ok (.iconst (-1), 1) := by decide +kernel
theorem dX11_kindHere_43 : decode cX11_kindHere 43 = .ok (.ireturn, 1) := by decide +kernel
theorem dX11_aKind_0 : decode cX11_aKind 0 = .ok (.aload_n 0, 1) := by decide +kernel
theorem dX11_aKind_1 : decode cX11_aKind 1 = .ok (.invokevirtual 244, 3) := by decide +kernel
theorem dX11_aKind_4 : decode cX11_aKind 4 = .ok (.istore_n 1, 1) := by decide +kernel
theorem dX11_aKind_5 : decode cX11_aKind 5 = .ok (.aload_n 0, 1) := by decide +kernel
theorem dX11_aKind_6 : decode cX11_aKind 6 = .ok (.iload_n 1, 1) := by decide +kernel
theorem dX11_aKind_7 : decode cX11_aKind 7 = .ok (.ifCond .lt 7, 3) := by decide +kernel
theorem dX11_aKind_10 : decode cX11_aKind 10 = .ok (.iconst 1, 1) := by decide +kernel
theorem dX11_aKind_11 : decode cX11_aKind 11 = .ok (.goto 4, 3) := by decide +kernel
theorem dX11_aKind_14 : decode cX11_aKind 14 = .ok (.iconst 0, 1) := by decide +kernel
theorem dX11_aKind_15 : decode cX11_aKind 15 = .ok (.invokevirtual 248, 3) := by decide +kernel
theorem dX11_aKind_18 : decode cX11_aKind 18 = .ok (.iload_n 1, 1) := by decide +kernel
theorem dX11_aKind_19 : decode cX11_aKind 19 = .ok (.ireturn, 1) := by decide +kernel
theorem dX11_aNumber_0 : decode cX11_aNumber 0 = .ok (.aload_n 0, 1) := by decide +kernel
theorem dX11_aNumber_1 : decode cX11_aNumber 1 = .ok (.getfield 213, 3) := by decide +kernel
theorem dX11_aNumber_4 : decode cX11_aNumber 4 = .ok (.istore_n 2, 1) := by decide +kernel
theorem dX11_aNumber_5 : decode cX11_aNumber 5 = .ok (.aload_n 0, 1) := by decide +kernel
theorem dX11_aNumber_6 : decode cX11_aNumber 6 = .ok (.aload_n 0, 1) := by decide +kernel
theorem dX11_aNumber_7 : decode cX11_aNumber 7 = .ok (.getfield 204, 3) := by decide +kernel
theorem dX11_aNumber_10 : decode cX11_aNumber 10 = .ok (.iload_n 1, 1) := by decide +kernel
theorem dX11_aNumber_11 : decode cX11_aNumber 11 = .ok (.if_icmp .ne 7, 3) := by decide +kernel
theorem dX11_aNumber_14 : decode cX11_aNumber 14 = .ok (.iconst 1, 1) := by decide +kernel
theorem dX11_aNumber_15 : decode cX11_aNumber 15 = .ok (.goto 4, 3) := by decide +kernel
theorem dX11_aNumber_18 : decode cX11_aNumber 18 = .ok (.iconst 0, 1) := by decide +kernel
theorem dX11_aNumber_19 : decode cX11_aNumber 19 = .ok (.invokevirtual 248, 3) := by decide +kernel
theorem dX11_aNumber_22 : decode cX11_aNumber 22 = .ok (.iload_n 2, 1) := by decide +kernel
theorem dX11_aNumber_23 : decode cX11_aNumber 23 = .ok (.ireturn, 1) := by decide +kernel
theorem dX11_orders_0 : decode cX11_orders 0 = .ok (.aload_n 0, 1) := by decide +kernel
theorem dX11_orders_1 : decode cX11_orders 1 = .ok (.iconst 0, 1) := by decide +kernel
theorem dX11_orders_2 : decode cX11_orders 2 = .ok (.putfield 192, 3) := by decide +kernel
theorem dX11_orders_5 : decode cX11_orders 5 = .ok (.aload_n 0, 1) := by decide +kernel
theorem dX11_orders_6 : decode cX11_orders 6 = .ok (.iconst (-1), 1) := by decide +kernel
theorem dX11_orders_7 : decode cX11_orders 7 = .ok (.putfield 38, 3) := by decide +kernel
theorem dX11_orders_10 : decode cX11_orders 10 = .ok (.aload_n 0, 1) := by decide +kernel
theorem dX11_orders_11 : decode cX11_orders 11 = .ok (.aload_n 0, 1) := by decide +kernel
theorem dX11_orders_12 : decode cX11_orders 12 = .ok (.getfield 252, 3) := by decide +kernel
theorem dX11_orders_15 : decode cX11_orders 15 = .ok (.putfield 189, 3) := by decide +kernel
theorem dX11_orders_18 : decode cX11_orders 18 = .ok (.iconst 0, 1) := by decide +kernel
theorem dX11_orders_19 : decode cX11_orders 19 = .ok (.istore_n 1, 1) := by decide +kernel
theorem dX11_orders_20 : decode cX11_orders 20 = .ok (.iload_n 1, 1) := by decide +kernel
theorem dX11_orders_21 : decode cX11_orders 21 = .ok (.aload_n 0, 1) := by decide +kernel
theorem dX11_orders_22 : decode cX11_orders 22 = .ok (.getfield 189, 3) := by decide +kernel
theorem dX11_orders_25 : decode cX11_orders 25 = .ok (.if_icmp .ge 21, 3) := by decide +kernel
theorem dX11_orders_28 : decode cX11_orders 28 = .ok (.aload_n 0, 1) := by decide +kernel
theorem dX11_orders_29 : decode cX11_orders 29 = .ok (.getfield 35, 3) := by decide +kernel
theorem dX11_orders_32 : decode cX11_orders 32 = .ok (.iload_n 1, 1) := by decide +kernel
theorem dX11_orders_33 : decode cX11_orders 33 = .ok (.aload_n 0, 1) := by decide +kernel
theorem dX11_orders_34 : decode cX11_orders 34 = .ok (.getfield 31, 3) := by decide +kernel
theorem dX11_orders_37 : decode cX11_orders 37 = .ok (.iload_n 1, 1) := by decide +kernel
theorem dX11_orders_38 : decode cX11_orders 38 = .ok (.baload, 1) := by decide +kernel
theorem dX11_orders_39 : decode cX11_orders 39 = .ok (.bastore, 1) := by decide +kernel
theorem dX11_orders_40 : decode cX11_orders 40 = .ok (.iinc 1 1, 3) := by decide +kernel
theorem dX11_orders_43 : decode cX11_orders 43 = .ok (.goto (-23), 3) := by decide +kernel
theorem dX11_orders_46 : decode cX11_orders 46 = .ok (.aload_n 0, 1) := by decide +kernel
theorem dX11_orders_47 : decode cX11_orders 47 = .ok (.iconst 0, 1) := by decide +kernel
theorem dX11_orders_48 : decode cX11_orders 48 = .ok (.putfield 252, 3) := by decide +kernel
theorem dX11_orders_51 : decode cX11_orders 51 = .ok (.aload_n 0, 1) := by decide +kernel
theorem dX11_orders_52 : decode cX11_orders 52 = .ok (.iconst 0, 1) := by decide +kernel
theorem dX11_orders_53 : decode cX11_orders 53 = .ok (.putfield 195, 3) := by decide +kernel
theorem dX11_orders_56 : decode cX11_orders 56 = .ok (.aload_n 0, 1) := by decide +kernel
theorem dX11_orders_57 : decode cX11_orders 57 = .ok (.iconst 1, 1) := by decide +kernel
theorem dX11_orders_58 : decode cX11_orders 58 = .ok (.aload_n 0, 1) := by decide +kernel
theorem dX11_orders_59 : decode cX11_orders 59 = .ok (.getfield 255, 3) := by decide +kernel
theorem dX11_orders_62 : decode cX11_orders 62 = .ok (.isub, 1) := by decide +kernel
theorem dX11_orders_63 : decode cX11_orders 63 = .ok (.putfield 258, 3) := by decide +kernel
theorem dX11_orders_66 : decode cX11_orders 66 = .ok (.aload_n 0, 1) := by decide +kernel
theorem dX11_orders_67 : decode cX11_orders 67 = .ok (.getfield 42, 3) := by decide +kernel
theorem dX11_orders_70 : decode cX11_orders 70 = .ok (.aload_n 0, 1) := by decide +kernel
theorem dX11_orders_71 : decode cX11_orders 71 = .ok (.getfield 258, 3) := by decide +kernel
theorem dX11_orders_74 : decode cX11_orders 74 = .ok (.iconst 0, 1) := by decide +kernel
theorem dX11_orders_75 : decode cX11_orders 75 = .ok (.iastore, 1) := by decide +kernel
theorem dX11_orders_76 : decode cX11_orders 76 = .ok (.aload_n 0, 1) := by decide +kernel
theorem dX11_orders_77 : decode cX11_orders 77 = .ok (.iconst 0, 1) := by decide +kernel
theorem dX11_orders_78 : decode cX11_orders 78 = .ok (.putfield 261, 3) := by decide +kernel
theorem dX11_orders_81 : decode cX11_orders 81 = .ok (.aload_n 0, 1) := by decide +kernel
theorem dX11_orders_82 : decode cX11_orders 82 = .ok (.iconst 0, 1) := by decide +kernel
theorem dX11_orders_83 : decode cX11_orders 83 = .ok (.putfield 264, 3) := by decide +kernel
theorem dX11_orders_86 : decode cX11_orders 86 = .ok (.aload_n 0, 1) := by decide +kernel
theorem dX11_orders_87 : decode cX11_orders 87 = .ok (.invokevirtual 228, 3) := by decide +kernel
theorem dX11_orders_90 : decode cX11_orders 90 = .ok (.aload_n 0, 1) := by decide +kernel
theorem dX11_orders_91 : decode cX11_orders 91 = .ok (.invokevirtual 224, 3) := by decide +kernel
theorem dX11_orders_94 : decode cX11_orders 94 = .ok (.ifCond .eq 17, 3) := by decide +kernel
theorem dX11_orders_97 : decode cX11_orders 97 = .ok (.aload_n 0, 1) := by decide +kernel
theorem dX11_orders_98 : decode cX11_orders 98 = .ok (.getfield 204, 3) := by decide +kernel
theorem dX11_orders_101 : decode cX11_orders 101 = .ok (.ifCond .eq 10, 3) := by decide +kernel
theorem dX11_orders_104 : decode cX11_orders 104 = .ok (.aload_n 0, 1) := by decide +kernel
theorem dX11_orders_105 : decode cX11_orders 105 = .ok (.invokevirtual 267, 3) := by decide +kernel
theorem dX11_orders_108 : decode cX11_orders 108 = .ok (.goto (-18), 3) := by decide +kernel
theorem dX11_orders_111 : decode cX11_orders 111 = .ok (.aload_n 0, 1) := by decide +kernel
theorem dX11_orders_112 : decode cX11_orders 112 = .ok (.invokevirtual 224, 3) := by decide +kernel
theorem dX11_orders_115 : decode cX11_orders 115 = .ok (.ifCond .ne 5, 3) := by decide +kernel
theorem dX11_orders_118 : decode cX11_orders 118 = .ok (.iconst (-1), 1) := by decide +kernel
theorem dX11_orders_119 : decode cX11_orders 119 = .ok (.ireturn, 1) := by decide +kernel
theorem dX11_orders_120 : decode cX11_orders 120 = .ok (.aload_n 0, 1) := by decide +kernel
theorem dX11_orders_121 : decode cX11_orders 121 = .ok (.aload_n 0, 1) := by decide +kernel
theorem dX11_orders_122 : decode cX11_orders 122 = .ok (.getfield 258, 3) := by decide +kernel
theorem dX11_orders_125 : decode cX11_orders 125 = .ok (.putfield 255, 3) := by decide +kernel
theorem dX11_orders_128 : decode cX11_orders 128 = .ok (.aload_n 0, 1) := by decide +kernel
theorem dX11_orders_129 : decode cX11_orders 129 = .ok (.getfield 42, 3) := by decide +kernel
theorem dX11_orders_132 : decode cX11_orders 132 = .ok (.aload_n 0, 1) := by decide +kernel
theorem dX11_orders_133 : decode cX11_orders 133 = .ok (.getfield 255, 3) := by decide +kernel
theorem dX11_orders_136 : decode cX11_orders 136 = .ok (.iaload, 1) := by decide +kernel
theorem dX11_orders_137 : decode cX11_orders 137 = .ok (.ireturn, 1) := by decide +kernel
theorem dX11_readLine_0 : decode cX11_readLine 0 = .ok (.aload_n 0, 1) := by decide +kernel
theorem dX11_readLine_1 : decode cX11_readLine 1 = .ok (.ldc2_w 270, 3) := by decide +kernel
theorem dX11_readLine_4 : decode cX11_readLine 4 = .ok (.invokevirtual 236, 3) := by decide +kernel
theorem dX11_readLine_7 : decode cX11_readLine 7 = .ok (.istore_n 1, 1) := by decide +kernel
theorem dX11_readLine_8 : decode cX11_readLine 8 = .ok (.iload_n 1, 1) := by decide +kernel
theorem dX11_readLine_9 : decode cX11_readLine 9 = .ok (.ifCond .ne 13, 3) := by decide +kernel
theorem dX11_readLine_12 : decode cX11_readLine 12 = .ok (.aload_n 0, 1) := by decide +kernel
theorem dX11_readLine_13 : decode cX11_readLine 13 = .ok (.ldc2_w 272, 3) := by decide +kernel
theorem dX11_readLine_16 : decode cX11_readLine 16 = .ok (.invokevirtual 236, 3) := by decide +kernel
theorem dX11_readLine_19 : decode cX11_readLine 19 = .ok (.ifCond .eq 17, 3) := by decide +kernel
theorem dX11_readLine_22 : decode cX11_readLine 22 = .ok (.aload_n 0, 1) := by decide +kernel
theorem dX11_readLine_23 : decode cX11_readLine 23 = .ok (.getfield 42, 3) := by decide +kernel
theorem dX11_readLine_26 : decode cX11_readLine 26 = .ok (.aload_n 0, 1) := by decide +kernel
theorem dX11_readLine_27 : decode cX11_readLine 27 = .ok (.getfield 258, 3) := by decide +kernel
theorem dX11_readLine_30 : decode cX11_readLine 30 = .ok (.iaload, 1) := by decide +kernel
theorem dX11_readLine_31 : decode cX11_readLine 31 = .ok (.bipush 12, 2) := by decide +kernel
theorem dX11_readLine_33 : decode cX11_readLine 33 = .ok (.if_icmp .ne 7, 3) := by decide +kernel
theorem dX11_readLine_36 : decode cX11_readLine 36 = .ok (.aload_n 0, 1) := by decide +kernel
theorem dX11_readLine_37 : decode cX11_readLine 37 = .ok (.invokevirtual 231, 3) := by decide +kernel
theorem dX11_readLine_40 : decode cX11_readLine 40 = .ok (.aload_n 0, 1) := by decide +kernel
theorem dX11_readLine_41 : decode cX11_readLine 41 = .ok (.invokevirtual 224, 3) := by decide +kernel
theorem dX11_readLine_44 : decode cX11_readLine 44 = .ok (.ifCond .ne 4, 3) := by decide +kernel
theorem dX11_readLine_47 : decode cX11_readLine 47 = .ok (.return_, 1) := by decide +kernel
theorem dX11_readLine_48 : decode cX11_readLine 48 = .ok (.bipush 12, 2) := by decide +kernel
theorem dX11_readLine_50 : decode cX11_readLine 50 = .ok (.aload_n 0, 1) := by decide +kernel
theorem dX11_readLine_51 : decode cX11_readLine 51 = .ok (.getfield 258, 3) := by decide +kernel
theorem dX11_readLine_54 : decode cX11_readLine 54 = .ok (.imul, 1) := by decide +kernel
theorem dX11_readLine_55 : decode cX11_readLine 55 = .ok (.aload_n 0, 1) := by decide +kernel
theorem dX11_readLine_56 : decode cX11_readLine 56 = .ok (.getfield 42, 3) := by decide +kernel
