theorem dL_holds_77 : decode cL_holds 77 = .ok (.istore 6, 2) := by decide +kernel
theorem dL_holds_79 : decode cL_holds 79 = .ok (.iload 4, 2) := by decide +kernel
theorem dL_holds_81 : decode cL_holds 81 = .ok (.aload_n 0, 1) := by decide +kernel
theorem dL_holds_82 : decode cL_holds 82 = .ok (.iload 7, 2) := by decide +kernel
theorem dL_holds_84 : decode cL_holds 84 = .ok (.iconst 5, 1) := by decide +kernel
theorem dL_holds_85 : decode cL_holds 85 = .ok (.invokevirtual 21, 3) := by decide +kernel
theorem dL_holds_88 : decode cL_holds 88 = .ok (.iadd, 1) := by decide +kernel
theorem dL_holds_89 : decode cL_holds 89 = .ok (.istore 4, 2) := by decide +kernel
theorem dL_holds_91 : decode cL_holds 91 = .ok (.iload 8, 2) := by decide +kernel
theorem dL_holds_93 : decode cL_holds 93 = .ok (.ifCond .eq 41, 3) := by decide +kernel
theorem dL_holds_96 : decode cL_holds 96 = .ok (.aload_n 0, 1) := by decide +kernel
theorem dL_holds_97 : decode cL_holds 97 = .ok (.iload 7, 2) := by decide +kernel
theorem dL_holds_99 : decode cL_holds 99 = .ok (.iconst 4, 1) := by decide +kernel
theorem dL_holds_100 : decode cL_holds 100 = .ok (.invokevirtual 21, 3) := by decide +kernel
theorem dL_holds_103 : decode cL_holds 103 = .ok (.iload_n 2, 1) := by decide +kernel
theorem dL_holds_104 : decode cL_holds 104 = .ok (.if_icmp .ne 51, 3) := by decide +kernel
theorem dL_holds_107 : decode cL_holds 107 = .ok (.aload_n 0, 1) := by decide +kernel
theorem dL_holds_108 : decode cL_holds 108 = .ok (.iload 7, 2) := by decide +kernel
theorem dL_holds_110 : decode cL_holds 110 = .ok (.iconst 5, 1) := by decide +kernel
theorem dL_holds_111 : decode cL_holds 111 = .ok (.invokevirtual 21, 3) := by decide +kernel
theorem dL_holds_114 : decode cL_holds 114 = .ok (.iload_n 2, 1) := by decide +kernel
theorem dL_holds_115 : decode cL_holds 115 = .ok (.aload_n 0, 1) := by decide +kernel
theorem dL_holds_116 : decode cL_holds 116 = .ok (.iconst 2, 1) := by decide +kernel
theorem dL_holds_117 : decode cL_holds 117 = .ok (.invokevirtual 12, 3) := by decide +kernel
theorem dL_holds_120 : decode cL_holds 120 = .ok (.if_icmp .lt 7, 3) := by decide +kernel
theorem dL_holds_123 : decode cL_holds 123 = .ok (.iconst 1, 1) := by decide +kernel
theorem dL_holds_124 : decode cL_holds 124 = .ok (.goto 4, 3) := by decide +kernel
theorem dL_holds_127 : decode cL_holds 127 = .ok (.iconst 0, 1) := by decide +kernel
theorem dL_holds_128 : decode cL_holds 128 = .ok (.if_icmp .eq 29, 3) := by decide +kernel
theorem dL_holds_131 : decode cL_holds 131 = .ok (.goto 24, 3) := by decide +kernel
theorem dL_holds_134 : decode cL_holds 134 = .ok (.aload_n 0, 1) := by decide +kernel
theorem dL_holds_135 : decode cL_holds 135 = .ok (.iload 7, 2) := by decide +kernel
theorem dL_holds_137 : decode cL_holds 137 = .ok (.iconst 4, 1) := by decide +kernel
theorem dL_holds_138 : decode cL_holds 138 = .ok (.invokevirtual 21, 3) := by decide +kernel
theorem dL_holds_141 : decode cL_holds 141 = .ok (.iconst (-1), 1) := by decide +kernel
theorem dL_holds_142 : decode cL_holds 142 = .ok (.if_icmp .ne 13, 3) := by decide +kernel
theorem dL_holds_145 : decode cL_holds 145 = .ok (.aload_n 0, 1) := by decide +kernel
theorem dL_holds_146 : decode cL_holds 146 = .ok (.iload 7, 2) := by decide +kernel
theorem dL_holds_148 : decode cL_holds 148 = .ok (.iconst 5, 1) := by decide +kernel
theorem dL_holds_149 : decode cL_holds 149 = .ok (.invokevirtual 21, 3) := by decide +kernel
theorem dL_holds_152 : decode cL_holds 152 = .ok (.ifCond .eq 5, 3) := by decide +kernel
theorem dL_holds_155 : decode cL_holds 155 = .ok (.iconst 0, 1) := by decide +kernel
theorem dL_holds_156 : decode cL_holds 156 = .ok (.ireturn, 1) := by decide +kernel
theorem dL_holds_157 : decode cL_holds 157 = .ok (.iload_n 2, 1) := by decide +kernel
theorem dL_holds_158 : decode cL_holds 158 = .ok (.iload 8, 2) := by decide +kernel
theorem dL_holds_160 : decode cL_holds 160 = .ok (.ifCond .eq 7, 3) := by decide +kernel
theorem dL_holds_163 : decode cL_holds 163 = .ok (.iconst 1, 1) := by decide +kernel
theorem dL_holds_164 : decode cL_holds 164 = .ok (.goto 4, 3) := by decide +kernel
theorem dL_holds_167 : decode cL_holds 167 = .ok (.iconst 0, 1) := by decide +kernel
theorem dL_holds_168 : decode cL_holds 168 = .ok (.iadd, 1) := by decide +kernel
theorem dL_holds_169 : decode cL_holds 169 = .ok (.istore_n 2, 1) := by decide +kernel
theorem dL_holds_170 : decode cL_holds 170 = .ok (.iinc 7 1, 3) := by decide +kernel
theorem dL_holds_173 : decode cL_holds 173 = .ok (.goto (-151), 3) := by decide +kernel
theorem dL_holds_176 : decode cL_holds 176 = .ok (.aload_n 0, 1) := by decide +kernel
theorem dL_holds_177 : decode cL_holds 177 = .ok (.bipush 6, 2) := by decide +kernel
theorem dL_holds_179 : decode cL_holds 179 = .ok (.invokevirtual 12, 3) := by decide +kernel
theorem dL_holds_182 : decode cL_holds 182 = .ok (.istore 7, 2) := by decide +kernel
theorem dL_holds_184 : decode cL_holds 184 = .ok (.iconst 0, 1) := by decide +kernel
theorem dL_holds_185 : decode cL_holds 185 = .ok (.istore 8, 2) := by decide +kernel
theorem dL_holds_187 : decode cL_holds 187 = .ok (.iconst (-1), 1) := by decide +kernel
theorem dL_holds_188 : decode cL_holds 188 = .ok (.istore 9, 2) := by decide +kernel
theorem dL_holds_190 : decode cL_holds 190 = .ok (.iconst 0, 1) := by decide +kernel
theorem dL_holds_191 : decode cL_holds 191 = .ok (.istore 10, 2) := by decide +kernel
theorem dL_holds_193 : decode cL_holds 193 = .ok (.iload 10, 2) := by decide +kernel
theorem dL_holds_195 : decode cL_holds 195 = .ok (.iload 7, 2) := by decide +kernel
theorem dL_holds_197 : decode cL_holds 197 = .ok (.if_icmp .ge 82, 3) := by decide +kernel
theorem dL_holds_200 : decode cL_holds 200 = .ok (.aload_n 0, 1) := by decide +kernel
theorem dL_holds_201 : decode cL_holds 201 = .ok (.iload 10, 2) := by decide +kernel
theorem dL_holds_203 : decode cL_holds 203 = .ok (.iconst 2, 1) := by decide +kernel
theorem dL_holds_204 : decode cL_holds 204 = .ok (.invokevirtual 57, 3) := by decide +kernel
theorem dL_holds_207 : decode cL_holds 207 = .ok (.iconst 1, 1) := by decide +kernel
theorem dL_holds_208 : decode cL_holds 208 = .ok (.if_icmp .ne 7, 3) := by decide +kernel
theorem dL_holds_211 : decode cL_holds 211 = .ok (.iconst 1, 1) := by decide +kernel
theorem dL_holds_212 : decode cL_holds 212 = .ok (.goto 4, 3) := by decide +kernel
theorem dL_holds_215 : decode cL_holds 215 = .ok (.iconst 0, 1) := by decide +kernel
theorem dL_holds_216 : decode cL_holds 216 = .ok (.istore 11, 2) := by decide +kernel
theorem dL_holds_218 : decode cL_holds 218 = .ok (.iload 11, 2) := by decide +kernel
theorem dL_holds_220 : decode cL_holds 220 = .ok (.ifCond .eq 13, 3) := by decide +kernel
theorem dL_holds_223 : decode cL_holds 223 = .ok (.iload 9, 2) := by decide +kernel
theorem dL_holds_225 : decode cL_holds 225 = .ok (.ifCond .ge 8, 3) := by decide +kernel
theorem dL_holds_228 : decode cL_holds 228 = .ok (.iload 10, 2) := by decide +kernel
theorem dL_holds_230 : decode cL_holds 230 = .ok (.goto 5, 3) := by decide +kernel
theorem dL_holds_233 : decode cL_holds 233 = .ok (.iload 9, 2) := by decide +kernel
theorem dL_holds_235 : decode cL_holds 235 = .ok (.istore 9, 2) := by decide +kernel
theorem dL_holds_237 : decode cL_holds 237 = .ok (.iload 8, 2) := by decide +kernel
theorem dL_holds_239 : decode cL_holds 239 = .ok (.iload 11, 2) := by decide +kernel
theorem dL_holds_241 : decode cL_holds 241 = .ok (.ifCond .eq 7, 3) := by decide +kernel
theorem dL_holds_244 : decode cL_holds 244 = .ok (.iconst 1, 1) := by decide +kernel
theorem dL_holds_245 : decode cL_holds 245 = .ok (.goto 4, 3) := by decide +kernel
theorem dL_holds_248 : decode cL_holds 248 = .ok (.iconst 0, 1) := by decide +kernel
theorem dL_holds_249 : decode cL_holds 249 = .ok (.iadd, 1) := by decide +kernel
theorem dL_holds_250 : decode cL_holds 250 = .ok (.istore 8, 2) := by decide +kernel
theorem dL_holds_252 : decode cL_holds 252 = .ok (.aload_n 0, 1) := by decide +kernel
theorem dL_holds_253 : decode cL_holds 253 = .ok (.iload 10, 2) := by decide +kernel
theorem dL_holds_255 : decode cL_holds 255 = .ok (.iconst 1, 1) := by decide +kernel
theorem dL_holds_256 : decode cL_holds 256 = .ok (.invokevirtual 57, 3) := by decide +kernel
theorem dL_holds_259 : decode cL_holds 259 = .ok (.iload_n 3, 1) := by decide +kernel
theorem dL_holds_260 : decode cL_holds 260 = .ok (.if_icmp .ge 5, 3) := by decide +kernel
theorem dL_holds_263 : decode cL_holds 263 = .ok (.iconst 0, 1) := by decide +kernel
theorem dL_holds_264 : decode cL_holds 264 = .ok (.ireturn, 1) := by decide +kernel
theorem dL_holds_265 : decode cL_holds 265 = .ok (.aload_n 0, 1) := by decide +kernel
theorem dL_holds_266 : decode cL_holds 266 = .ok (.iload 10, 2) := by decide +kernel
theorem dL_holds_268 : decode cL_holds 268 = .ok (.iconst 1, 1) := by decide +kernel
theorem dL_holds_269 : decode cL_holds 269 = .ok (.invokevirtual 57, 3) := by decide +kernel
theorem dL_holds_272 : decode cL_holds 272 = .ok (.istore_n 3, 1) := by decide +kernel
theorem dL_holds_273 : decode cL_holds 273 = .ok (.iinc 10 1, 3) := by decide +kernel
theorem dL_holds_276 : decode cL_holds 276 = .ok (.goto (-83), 3) := by decide +kernel
theorem dL_holds_279 : decode cL_holds 279 = .ok (.aload_n 0, 1) := by decide +kernel
theorem dL_holds_280 : decode cL_holds 280 = .ok (.iconst 2, 1) := by decide +kernel
theorem dL_holds_281 : decode cL_holds 281 = .ok (.invokevirtual 25, 3) := by decide +kernel
theorem dL_holds_284 : decode cL_holds 284 = .ok (.iload 9, 2) := by decide +kernel
theorem dL_holds_286 : decode cL_holds 286 = .ok (.if_icmp .ne 60, 3) := by decide +kernel
theorem dL_holds_289 : decode cL_holds 289 = .ok (.aload_n 0, 1) := by decide +kernel
theorem dL_holds_290 : decode cL_holds 290 = .ok (.iconst 0, 1) := by decide +kernel
theorem dL_holds_291 : decode cL_holds 291 = .ok (.invokevirtual 25, 3) := by decide +kernel
theorem dL_holds_294 : decode cL_holds 294 = .ok (.iload 9, 2) := by decide +kernel
theorem dL_holds_296 : decode cL_holds 296 = .ok (.ifCond .ge 7, 3) := by decide +kernel
theorem dL_holds_299 : decode cL_holds 299 = .ok (.iconst (-1), 1) := by decide +kernel
theorem dL_holds_300 : decode cL_holds 300 = .ok (.goto 10, 3) := by decide +kernel
theorem dL_holds_303 : decode cL_holds 303 = .ok (.aload_n 0, 1) := by decide +kernel
theorem dL_holds_304 : decode cL_holds 304 = .ok (.iload 9, 2) := by decide +kernel
theorem dL_holds_306 : decode cL_holds 306 = .ok (.iconst 0, 1) := by decide +kernel
theorem dL_holds_307 : decode cL_holds 307 = .ok (.invokevirtual 57, 3) := by decide +kernel
theorem dL_holds_310 : decode cL_holds 310 = .ok (.if_icmp .ne 36, 3) := by decide +kernel
theorem dL_holds_313 : decode cL_holds 313 = .ok (.aload_n 0, 1) := by decide +kernel
theorem dL_holds_314 : decode cL_holds 314 = .ok (.iconst 3, 1) := by decide +kernel
theorem dL_holds_315 : decode cL_holds 315 = .ok (.invokevirtual 12, 3) := by decide +kernel
theorem dL_holds_318 : decode cL_holds 318 = .ok (.ifCond .gt 8, 3) := by decide +kernel
theorem dL_holds_321 : decode cL_holds 321 = .ok (.iload 9, 2) := by decide +kernel
theorem dL_holds_323 : decode cL_holds 323 = .ok (.ifCond .ne 23, 3) := by decide +kernel
theorem dL_holds_326 : decode cL_holds 326 = .ok (.aload_n 0, 1) := by decide +kernel
theorem dL_holds_327 : decode cL_holds 327 = .ok (.iconst 3, 1) := by decide +kernel
theorem dL_holds_328 : decode cL_holds 328 = .ok (.invokevirtual 25, 3) := by decide +kernel
theorem dL_holds_331 : decode cL_holds 331 = .ok (.ifCond .ne 11, 3) := by decide +kernel
theorem dL_holds_334 : decode cL_holds 334 = .ok (.aload_n 0, 1) := by decide +kernel
theorem dL_holds_335 : decode cL_holds 335 = .ok (.iconst 4, 1) := by decide +kernel
theorem dL_holds_336 : decode cL_holds 336 = .ok (.invokevirtual 25, 3) := by decide +kernel
theorem dL_holds_339 : decode cL_holds 339 = .ok (.ifCond .ne 7, 3) := by decide +kernel
theorem dL_holds_342 : decode cL_holds 342 = .ok (.iconst 1, 1) := by decide +kernel
theorem dL_holds_343 : decode cL_holds 343 = .ok (.goto 4, 3) := by decide +kernel
theorem dL_holds_346 : decode cL_holds 346 = .ok (.iconst 0, 1) := by decide +kernel
theorem dL_holds_347 : decode cL_holds 347 = .ok (.istore 10, 2) := by decide +kernel
theorem dL_holds_349 : decode cL_holds 349 = .ok (.aload_n 0, 1) := by decide +kernel
theorem dL_holds_350 : decode cL_holds 350 = .ok (.invokevirtual 60, 3) := by decide +kernel
theorem dL_holds_353 : decode cL_holds 353 = .ok (.dstore 11, 2) := by decide +kernel
theorem dL_holds_355 : decode cL_holds 355 = .ok (.dload 11, 2) := by decide +kernel
theorem dL_holds_357 : decode cL_holds 357 = .ok (.dconst 0, 1) := by decide +kernel
theorem dL_holds_358 : decode cL_holds 358 = .ok (.dcmp .l, 1) := by decide +kernel
theorem dL_holds_359 : decode cL_holds 359 = .ok (.ifCond .lt 44, 3) := by decide +kernel
theorem dL_holds_362 : decode cL_holds 362 = .ok (.dload 11, 2) := by decide +kernel
theorem dL_holds_364 : decode cL_holds 364 = .ok (.dconst 1, 1) := by decide +kernel
theorem dL_holds_365 : decode cL_holds 365 = .ok (.dcmp .g, 1) := by decide +kernel
theorem dL_holds_366 : decode cL_holds 366 = .ok (.ifCond .gt 37, 3) := by decide +kernel
theorem dL_holds_369 : decode cL_holds 369 = .ok (.iload_n 2, 1) := by decide +kernel
theorem dL_holds_370 : decode cL_holds 370 = .ok (.ifCond .ne 13, 3) := by decide +kernel
theorem dL_holds_373 : decode cL_holds 373 = .ok (.dload 11, 2) := by decide +kernel
theorem dL_holds_375 : decode cL_holds 375 = .ok (.dconst 0, 1) := by decide +kernel
theorem dL_holds_376 : decode cL_holds 376 = .ok (.dcmp .l, 1) := by decide +kernel
theorem dL_holds_377 : decode cL_holds 377 = .ok (.ifCond .ne 26, 3) := by decide +kernel
theorem dL_holds_380 : decode cL_holds 380 = .ok (.goto 19, 3) := by decide +kernel
theorem dL_holds_383 : decode cL_holds 383 = .ok (.dload 11, 2) := by decide +kernel
theorem dL_holds_385 : decode cL_holds 385 = .ok (.iload 6, 2) := by decide +kernel
theorem dL_holds_387 : decode cL_holds 387 = .ok (.i2d, 1) := by decide +kernel
theorem dL_holds_388 : decode cL_holds 388 = .ok (.ldc2_w 64, 3) := by decide +kernel
theorem dL_holds_391 : decode cL_holds 391 = .ok (.iload_n 2, 1) := by decide +kernel
theorem dL_holds_392 : decode cL_holds 392 = .ok (.i2d, 1) := by decide +kernel
theorem dL_holds_393 : decode cL_holds 393 = .ok (.dmul, 1) := by decide +kernel
theorem dL_holds_394 : decode cL_holds 394 = .ok (.ddiv, 1) := by decide +kernel
theorem dL_holds_395 : decode cL_holds 395 = .ok (.dcmp .l, 1) := by decide +kernel
theorem dL_holds_396 : decode cL_holds 396 = .ok (.ifCond .ne 7, 3) := by decide +kernel
theorem dL_holds_399 : decode cL_holds 399 = .ok (.iconst 1, 1) := by decide +kernel
theorem dL_holds_400 : decode cL_holds 400 = .ok (.goto 4, 3) := by decide +kernel
theorem dL_holds_403 : decode cL_holds 403 = .ok (.iconst 0, 1) := by decide +kernel
theorem dL_holds_404 : decode cL_holds 404 = .ok (.istore 13, 2) := by decide +kernel
theorem dL_holds_406 : decode cL_holds 406 = .ok (.iload 5, 2) := by decide +kernel
theorem dL_holds_408 : decode cL_holds 408 = .ok (.iload_n 1, 1) := by decide +kernel
theorem dL_holds_409 : decode cL_holds 409 = .ok (.sipush 1000, 3) := by decide +kernel
theorem dL_holds_412 : decode cL_holds 412 = .ok (.imul, 1) := by decide +kernel
theorem dL_holds_413 : decode cL_holds 413 = .ok (.aload_n 0, 1) := by decide +kernel
theorem dL_holds_414 : decode cL_holds 414 = .ok (.iconst 0, 1) := by decide +kernel
theorem dL_holds_415 : decode cL_holds 415 = .ok (.invokevirtual 18, 3) := by decide +kernel
theorem dL_holds_418 : decode cL_holds 418 = .ok (.imul, 1) := by decide +kernel
theorem dL_holds_419 : decode cL_holds 419 = .ok (.if_icmp .ne 111, 3) := by decide +kernel
theorem dL_holds_422 : decode cL_holds 422 = .ok (.iload_n 2, 1) := by decide +kernel
theorem dL_holds_423 : decode cL_holds 423 = .ok (.aload_n 0, 1) := by decide +kernel
theorem dL_holds_424 : decode cL_holds 424 = .ok (.iconst 1, 1) := by decide +kernel
theorem dL_holds_425 : decode cL_holds 425 = .ok (.invokevirtual 12, 3) := by decide +kernel
theorem dL_holds_428 : decode cL_holds 428 = .ok (.if_icmp .ne 102, 3) := by decide +kernel
theorem dL_holds_431 : decode cL_holds 431 = .ok (.iload 4, 2) := by decide +kernel
theorem dL_holds_433 : decode cL_holds 433 = .ok (.aload_n 0, 1) := by decide +kernel
theorem dL_holds_434 : decode cL_holds 434 = .ok (.iconst 3, 1) := by decide +kernel
theorem dL_holds_435 : decode cL_holds 435 = .ok (.invokevirtual 12, 3) := by decide +kernel
theorem dL_holds_438 : decode cL_holds 438 = .ok (.if_icmp .ne 92, 3) := by decide +kernel
theorem dL_holds_441 : decode cL_holds 441 = .ok (.aload_n 0, 1) := by decide +kernel
theorem dL_holds_442 : decode cL_holds 442 = .ok (.iconst 2, 1) := by decide +kernel
theorem dL_holds_443 : decode cL_holds 443 = .ok (.invokevirtual 12, 3) := by decide +kernel
theorem dL_holds_446 : decode cL_holds 446 = .ok (.iload 4, 2) := by decide +kernel
theorem dL_holds_448 : decode cL_holds 448 = .ok (.iadd, 1) := by decide +kernel
theorem dL_holds_449 : decode cL_holds 449 = .ok (.iload_n 2, 1) := by decide +kernel
theorem dL_holds_450 : decode cL_holds 450 = .ok (.if_icmp .ne 80, 3) := by decide +kernel
theorem dL_holds_453 : decode cL_holds 453 = .ok (.iload 4, 2) := by decide +kernel
theorem dL_holds_455 : decode cL_holds 455 = .ok (.aload_n 0, 1) := by decide +kernel
theorem dL_holds_456 : decode cL_holds 456 = .ok (.iconst 2, 1) := by decide +kernel
theorem dL_holds_457 : decode cL_holds 457 = .ok (.invokevirtual 18, 3) := by decide +kernel
theorem dL_holds_460 : decode cL_holds 460 = .ok (.if_icmp .gt 70, 3) := by decide +kernel
theorem dL_holds_463 : decode cL_holds 463 = .ok (.iload 7, 2) := by decide +kernel
theorem dL_holds_465 : decode cL_holds 465 = .ok (.aload_n 0, 1) := by decide +kernel
theorem dL_holds_466 : decode cL_holds 466 = .ok (.iconst 1, 1) := by decide +kernel
theorem dL_holds_467 : decode cL_holds 467 = .ok (.invokevirtual 18, 3) := by decide +kernel
theorem dL_holds_470 : decode cL_holds 470 = .ok (.if_icmp .gt 60, 3) := by decide +kernel
theorem dL_holds_473 : decode cL_holds 473 = .ok (.iload 7, 2) := by decide +kernel
theorem dL_holds_475 : decode cL_holds 475 = .ok (.ifCond .le 55, 3) := by decide +kernel
theorem dL_holds_478 : decode cL_holds 478 = .ok (.iload_n 2, 1) := by decide +kernel
theorem dL_holds_479 : decode cL_holds 479 = .ok (.ifCond .gt 9, 3) := by decide +kernel
theorem dL_holds_482 : decode cL_holds 482 = .ok (.iload 7, 2) := by decide +kernel
theorem dL_holds_484 : decode cL_holds 484 = .ok (.iconst 1, 1) := by decide +kernel
theorem dL_holds_485 : decode cL_holds 485 = .ok (.if_icmp .ne 45, 3) := by decide +kernel
theorem dL_holds_488 : decode cL_holds 488 = .ok (.iload 8, 2) := by decide +kernel
theorem dL_holds_490 : decode cL_holds 490 = .ok (.aload_n 0, 1) := by decide +kernel
theorem dL_holds_491 : decode cL_holds 491 = .ok (.bipush 7, 2) := by decide +kernel
theorem dL_holds_493 : decode cL_holds 493 = .ok (.invokevirtual 12, 3) := by decide +kernel
theorem dL_holds_496 : decode cL_holds 496 = .ok (.if_icmp .ne 34, 3) := by decide +kernel
theorem dL_holds_499 : decode cL_holds 499 = .ok (.iload 10, 2) := by decide +kernel
theorem dL_holds_501 : decode cL_holds 501 = .ok (.ifCond .eq 29, 3) := by decide +kernel
theorem dL_holds_504 : decode cL_holds 504 = .ok (.iload 13, 2) := by decide +kernel
theorem dL_holds_506 : decode cL_holds 506 = .ok (.ifCond .eq 24, 3) := by decide +kernel
theorem dL_holds_509 : decode cL_holds 509 = .ok (.aload_n 0, 1) := by decide +kernel
theorem dL_holds_510 : decode cL_holds 510 = .ok (.aload_n 0, 1) := by decide +kernel
theorem dL_holds_511 : decode cL_holds 511 = .ok (.iconst 1, 1) := by decide +kernel
theorem dL_holds_512 : decode cL_holds 512 = .ok (.invokevirtual 18, 3) := by decide +kernel
theorem dL_holds_515 : decode cL_holds 515 = .ok (.invokevirtual 66, 3) := by decide +kernel
theorem dL_holds_518 : decode cL_holds 518 = .ok (.aload_n 0, 1) := by decide +kernel
theorem dL_holds_519 : decode cL_holds 519 = .ok (.iconst 0, 1) := by decide +kernel
theorem dL_holds_520 : decode cL_holds 520 = .ok (.invokevirtual 25, 3) := by decide +kernel
theorem dL_holds_523 : decode cL_holds 523 = .ok (.if_icmp .ne 7, 3) := by decide +kernel
theorem dL_holds_526 : decode cL_holds 526 = .ok (.iconst 1, 1) := by decide +kernel
theorem dL_holds_527 : decode cL_holds 527 = .ok (.goto 4, 3) := by decide +kernel
theorem dL_holds_530 : decode cL_holds 530 = .ok (.iconst 0, 1) := by decide +kernel
theorem dL_holds_531 : decode cL_holds 531 = .ok (.ireturn, 1) := by decide +kernel
set_option maxRecDepth 20000 in
theorem ggL_law_X3_init : GoodIn wsL_law wsX3_init := goodIn_r _ [5, 6, 7, 8, 9, 10, 11, 12, 13, 14, 15, 16, 17, 18, 19, 20, 21, 22, 23, 24, 25, 26, 27, 28, 29, 30, 31, 32, 33, 34, 35, 36, 37, 38, 39, 40, 41, 42, 43, 44, 45, 46, 47, 48, 49, 384, 385, 386, 387, 375, 376, 377, 378, 379, 380, 381, 382, 383, 388, 389, 390, 391, 392, 393, 394, 395, 396, 397, 398, 399, 400, 401, 402, 403, 404, 405] (by decide +kernel) (by decide +kernel)
set_option maxRecDepth 20000 in
theorem gL_law_X3_init : GoodIn wsL_law (wsX3_init) := ggL_law_X3_init
set_option maxRecDepth 20000 in
theorem ggL_law_L_cell : GoodIn wsL_law wsL_cell := goodIn_r _ [53] (by decide +kernel) (by decide +kernel)
set_option maxRecDepth 20000 in
theorem gL_law_L_cell : GoodIn wsL_law (va_wsS RL 70 yL_cell wsL_cell) := goodIn_app (goodIn_of _ (by decide +kernel)) ggL_law_L_cell
def ggL_law_X3_count_l : List Cond := (Cond.code yX3_count cX3_count 2 (some .int) :: ((wsX3_count_r1 ++ (wsX3_count_r2 ++ (wsX3_count_r3 ++ (wsX3_count_r4 ++ (wsX3_count_r5 ++ wsX3_count_r6))))) ++ wsX30 ++ wsX20 ++ wsX00))
set_option maxRecDepth 40000 in
theorem ggL_law_X3_count_p0 : GoodIn wsL_law ((ggL_law_X3_count_l.drop 0).take 30) := goodIn_r _ [57, 58, 59, 12, 60, 61, 62, 63, 64, 65, 11, 66, 67, 68, 69, 70, 71, 72, 73, 74, 75, 76, 77, 78, 79, 80, 81, 82, 83, 30] (by decide +kernel) (by decide +kernel)
