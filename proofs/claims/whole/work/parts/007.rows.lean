theorem dX3_digest_94 : decode cX3_digest 94 = .ok (.iinc 4 1, 3) := by decide +kernel
theorem dX3_digest_97 : decode cX3_digest 97 = .ok (.goto (-24), 3) := by decide +kernel
theorem dX3_digest_100 : decode cX3_digest 100 = .ok (.ldc2_w 241, 3) := by decide +kernel
theorem dX3_digest_103 : decode cX3_digest 103 = .ok (.lload_n 1, 1) := by decide +kernel
theorem dX3_digest_104 : decode cX3_digest 104 = .ok (.lmul, 1) := by decide +kernel
theorem dX3_digest_105 : decode cX3_digest 105 = .ok (.aload_n 0, 1) := by decide +kernel
theorem dX3_digest_106 : decode cX3_digest 106 = .ok (.iload_n 3, 1) := by decide +kernel
theorem dX3_digest_107 : decode cX3_digest 107 = .ok (.invokevirtual 252, 3) := by decide +kernel
theorem dX3_digest_110 : decode cX3_digest 110 = .ok (.i2l, 1) := by decide +kernel
theorem dX3_digest_111 : decode cX3_digest 111 = .ok (.ladd, 1) := by decide +kernel
theorem dX3_digest_112 : decode cX3_digest 112 = .ok (.lstore_n 1, 1) := by decide +kernel
theorem dX3_digest_113 : decode cX3_digest 113 = .ok (.ldc2_w 241, 3) := by decide +kernel
theorem dX3_digest_116 : decode cX3_digest 116 = .ok (.lload_n 1, 1) := by decide +kernel
theorem dX3_digest_117 : decode cX3_digest 117 = .ok (.lmul, 1) := by decide +kernel
theorem dX3_digest_118 : decode cX3_digest 118 = .ok (.aload_n 0, 1) := by decide +kernel
theorem dX3_digest_119 : decode cX3_digest 119 = .ok (.iload_n 3, 1) := by decide +kernel
theorem dX3_digest_120 : decode cX3_digest 120 = .ok (.invokevirtual 255, 3) := by decide +kernel
theorem dX3_digest_123 : decode cX3_digest 123 = .ok (.i2l, 1) := by decide +kernel
theorem dX3_digest_124 : decode cX3_digest 124 = .ok (.ladd, 1) := by decide +kernel
theorem dX3_digest_125 : decode cX3_digest 125 = .ok (.lstore_n 1, 1) := by decide +kernel
theorem dX3_digest_126 : decode cX3_digest 126 = .ok (.iinc 3 1, 3) := by decide +kernel
theorem dX3_digest_129 : decode cX3_digest 129 = .ok (.goto (-70), 3) := by decide +kernel
theorem dX3_digest_132 : decode cX3_digest 132 = .ok (.iconst 0, 1) := by decide +kernel
theorem dX3_digest_133 : decode cX3_digest 133 = .ok (.istore_n 3, 1) := by decide +kernel
theorem dX3_digest_134 : decode cX3_digest 134 = .ok (.iload_n 3, 1) := by decide +kernel
theorem dX3_digest_135 : decode cX3_digest 135 = .ok (.iconst 4, 1) := by decide +kernel
theorem dX3_digest_136 : decode cX3_digest 136 = .ok (.if_icmp .gt 22, 3) := by decide +kernel
theorem dX3_digest_139 : decode cX3_digest 139 = .ok (.ldc2_w 241, 3) := by decide +kernel
theorem dX3_digest_142 : decode cX3_digest 142 = .ok (.lload_n 1, 1) := by decide +kernel
theorem dX3_digest_143 : decode cX3_digest 143 = .ok (.lmul, 1) := by decide +kernel
theorem dX3_digest_144 : decode cX3_digest 144 = .ok (.aload_n 0, 1) := by decide +kernel
theorem dX3_digest_145 : decode cX3_digest 145 = .ok (.iload_n 3, 1) := by decide +kernel
theorem dX3_digest_146 : decode cX3_digest 146 = .ok (.invokevirtual 258, 3) := by decide +kernel
theorem dX3_digest_149 : decode cX3_digest 149 = .ok (.i2l, 1) := by decide +kernel
theorem dX3_digest_150 : decode cX3_digest 150 = .ok (.ladd, 1) := by decide +kernel
theorem dX3_digest_151 : decode cX3_digest 151 = .ok (.lstore_n 1, 1) := by decide +kernel
theorem dX3_digest_152 : decode cX3_digest 152 = .ok (.iinc 3 1, 3) := by decide +kernel
theorem dX3_digest_155 : decode cX3_digest 155 = .ok (.goto (-21), 3) := by decide +kernel
theorem dX3_digest_158 : decode cX3_digest 158 = .ok (.iconst 0, 1) := by decide +kernel
theorem dX3_digest_159 : decode cX3_digest 159 = .ok (.istore_n 3, 1) := by decide +kernel
theorem dX3_digest_160 : decode cX3_digest 160 = .ok (.iload_n 3, 1) := by decide +kernel
theorem dX3_digest_161 : decode cX3_digest 161 = .ok (.iconst 3, 1) := by decide +kernel
theorem dX3_digest_162 : decode cX3_digest 162 = .ok (.if_icmp .gt 39, 3) := by decide +kernel
theorem dX3_digest_165 : decode cX3_digest 165 = .ok (.iconst 0, 1) := by decide +kernel
theorem dX3_digest_166 : decode cX3_digest 166 = .ok (.istore 4, 2) := by decide +kernel
theorem dX3_digest_168 : decode cX3_digest 168 = .ok (.iload 4, 2) := by decide +kernel
theorem dX3_digest_170 : decode cX3_digest 170 = .ok (.iconst 2, 1) := by decide +kernel
theorem dX3_digest_171 : decode cX3_digest 171 = .ok (.if_icmp .gt 24, 3) := by decide +kernel
theorem dX3_digest_174 : decode cX3_digest 174 = .ok (.ldc2_w 241, 3) := by decide +kernel
theorem dX3_digest_177 : decode cX3_digest 177 = .ok (.lload_n 1, 1) := by decide +kernel
theorem dX3_digest_178 : decode cX3_digest 178 = .ok (.lmul, 1) := by decide +kernel
theorem dX3_digest_179 : decode cX3_digest 179 = .ok (.aload_n 0, 1) := by decide +kernel
theorem dX3_digest_180 : decode cX3_digest 180 = .ok (.iload_n 3, 1) := by decide +kernel
theorem dX3_digest_181 : decode cX3_digest 181 = .ok (.iload 4, 2) := by decide +kernel
theorem dX3_digest_183 : decode cX3_digest 183 = .ok (.invokevirtual 261, 3) := by decide +kernel
theorem dX3_digest_186 : decode cX3_digest 186 = .ok (.i2l, 1) := by decide +kernel
theorem dX3_digest_187 : decode cX3_digest 187 = .ok (.ladd, 1) := by decide +kernel
theorem dX3_digest_188 : decode cX3_digest 188 = .ok (.lstore_n 1, 1) := by decide +kernel
theorem dX3_digest_189 : decode cX3_digest 189 = .ok (.iinc 4 1, 3) := by decide +kernel
theorem dX3_digest_192 : decode cX3_digest 192 = .ok (.goto (-24), 3) := by decide +kernel
theorem dX3_digest_195 : decode cX3_digest 195 = .ok (.iinc 3 1, 3) := by decide +kernel
theorem dX3_digest_198 : decode cX3_digest 198 = .ok (.goto (-38), 3) := by decide +kernel
theorem dX3_digest_201 : decode cX3_digest 201 = .ok (.ldc2_w 241, 3) := by decide +kernel
theorem dX3_digest_204 : decode cX3_digest 204 = .ok (.lload_n 1, 1) := by decide +kernel
theorem dX3_digest_205 : decode cX3_digest 205 = .ok (.lmul, 1) := by decide +kernel
theorem dX3_digest_206 : decode cX3_digest 206 = .ok (.aload_n 0, 1) := by decide +kernel
theorem dX3_digest_207 : decode cX3_digest 207 = .ok (.iconst 1, 1) := by decide +kernel
theorem dX3_digest_208 : decode cX3_digest 208 = .ok (.invokevirtual 264, 3) := by decide +kernel
theorem dX3_digest_211 : decode cX3_digest 211 = .ok (.i2l, 1) := by decide +kernel
theorem dX3_digest_212 : decode cX3_digest 212 = .ok (.ladd, 1) := by decide +kernel
theorem dX3_digest_213 : decode cX3_digest 213 = .ok (.lstore_n 1, 1) := by decide +kernel
theorem dX3_digest_214 : decode cX3_digest 214 = .ok (.ldc2_w 241, 3) := by decide +kernel
theorem dX3_digest_217 : decode cX3_digest 217 = .ok (.lload_n 1, 1) := by decide +kernel
theorem dX3_digest_218 : decode cX3_digest 218 = .ok (.lmul, 1) := by decide +kernel
theorem dX3_digest_219 : decode cX3_digest 219 = .ok (.aload_n 0, 1) := by decide +kernel
theorem dX3_digest_220 : decode cX3_digest 220 = .ok (.bipush 52, 2) := by decide +kernel
theorem dX3_digest_222 : decode cX3_digest 222 = .ok (.invokevirtual 264, 3) := by decide +kernel
theorem dX3_digest_225 : decode cX3_digest 225 = .ok (.i2l, 1) := by decide +kernel
theorem dX3_digest_226 : decode cX3_digest 226 = .ok (.ladd, 1) := by decide +kernel
theorem dX3_digest_227 : decode cX3_digest 227 = .ok (.lstore_n 1, 1) := by decide +kernel
theorem dX3_digest_228 : decode cX3_digest 228 = .ok (.ldc2_w 241, 3) := by decide +kernel
theorem dX3_digest_231 : decode cX3_digest 231 = .ok (.lload_n 1, 1) := by decide +kernel
theorem dX3_digest_232 : decode cX3_digest 232 = .ok (.lmul, 1) := by decide +kernel
theorem dX3_digest_233 : decode cX3_digest 233 = .ok (.aload_n 0, 1) := by decide +kernel
theorem dX3_digest_234 : decode cX3_digest 234 = .ok (.ldc_w 267, 3) := by decide +kernel
theorem dX3_digest_237 : decode cX3_digest 237 = .ok (.invokevirtual 264, 3) := by decide +kernel
theorem dX3_digest_240 : decode cX3_digest 240 = .ok (.i2l, 1) := by decide +kernel
theorem dX3_digest_241 : decode cX3_digest 241 = .ok (.ladd, 1) := by decide +kernel
theorem dX3_digest_242 : decode cX3_digest 242 = .ok (.lstore_n 1, 1) := by decide +kernel
theorem dX3_digest_243 : decode cX3_digest 243 = .ok (.ldc2_w 241, 3) := by decide +kernel
theorem dX3_digest_246 : decode cX3_digest 246 = .ok (.lload_n 1, 1) := by decide +kernel
theorem dX3_digest_247 : decode cX3_digest 247 = .ok (.lmul, 1) := by decide +kernel
theorem dX3_digest_248 : decode cX3_digest 248 = .ok (.aload_n 0, 1) := by decide +kernel
theorem dX3_digest_249 : decode cX3_digest 249 = .ok (.iconst 0, 1) := by decide +kernel
theorem dX3_digest_250 : decode cX3_digest 250 = .ok (.invokevirtual 268, 3) := by decide +kernel
theorem dX3_digest_253 : decode cX3_digest 253 = .ok (.i2l, 1) := by decide +kernel
theorem dX3_digest_254 : decode cX3_digest 254 = .ok (.ladd, 1) := by decide +kernel
theorem dX3_digest_255 : decode cX3_digest 255 = .ok (.lstore_n 1, 1) := by decide +kernel
theorem dX3_digest_256 : decode cX3_digest 256 = .ok (.iconst 1, 1) := by decide +kernel
theorem dX3_digest_257 : decode cX3_digest 257 = .ok (.istore_n 3, 1) := by decide +kernel
theorem dX3_digest_258 : decode cX3_digest 258 = .ok (.iload_n 3, 1) := by decide +kernel
theorem dX3_digest_259 : decode cX3_digest 259 = .ok (.iconst 4, 1) := by decide +kernel
theorem dX3_digest_260 : decode cX3_digest 260 = .ok (.if_icmp .gt 22, 3) := by decide +kernel
theorem dX3_digest_263 : decode cX3_digest 263 = .ok (.ldc2_w 241, 3) := by decide +kernel
theorem dX3_digest_266 : decode cX3_digest 266 = .ok (.lload_n 1, 1) := by decide +kernel
theorem dX3_digest_267 : decode cX3_digest 267 = .ok (.lmul, 1) := by decide +kernel
theorem dX3_digest_268 : decode cX3_digest 268 = .ok (.aload_n 0, 1) := by decide +kernel
theorem dX3_digest_269 : decode cX3_digest 269 = .ok (.iload_n 3, 1) := by decide +kernel
theorem dX3_digest_270 : decode cX3_digest 270 = .ok (.invokevirtual 271, 3) := by decide +kernel
theorem dX3_digest_273 : decode cX3_digest 273 = .ok (.i2l, 1) := by decide +kernel
theorem dX3_digest_274 : decode cX3_digest 274 = .ok (.ladd, 1) := by decide +kernel
theorem dX3_digest_275 : decode cX3_digest 275 = .ok (.lstore_n 1, 1) := by decide +kernel
theorem dX3_digest_276 : decode cX3_digest 276 = .ok (.iinc 3 1, 3) := by decide +kernel
theorem dX3_digest_279 : decode cX3_digest 279 = .ok (.goto (-21), 3) := by decide +kernel
theorem dX3_digest_282 : decode cX3_digest 282 = .ok (.ldc2_w 241, 3) := by decide +kernel
theorem dX3_digest_285 : decode cX3_digest 285 = .ok (.lload_n 1, 1) := by decide +kernel
theorem dX3_digest_286 : decode cX3_digest 286 = .ok (.lmul, 1) := by decide +kernel
theorem dX3_digest_287 : decode cX3_digest 287 = .ok (.aload_n 0, 1) := by decide +kernel
theorem dX3_digest_288 : decode cX3_digest 288 = .ok (.invokevirtual 274, 3) := by decide +kernel
theorem dX3_digest_291 : decode cX3_digest 291 = .ok (.i2l, 1) := by decide +kernel
theorem dX3_digest_292 : decode cX3_digest 292 = .ok (.ladd, 1) := by decide +kernel
theorem dX3_digest_293 : decode cX3_digest 293 = .ok (.lstore_n 1, 1) := by decide +kernel
theorem dX3_digest_294 : decode cX3_digest 294 = .ok (.ldc2_w 241, 3) := by decide +kernel
theorem dX3_digest_297 : decode cX3_digest 297 = .ok (.lload_n 1, 1) := by decide +kernel
theorem dX3_digest_298 : decode cX3_digest 298 = .ok (.lmul, 1) := by decide +kernel
theorem dX3_digest_299 : decode cX3_digest 299 = .ok (.aload_n 0, 1) := by decide +kernel
theorem dX3_digest_300 : decode cX3_digest 300 = .ok (.invokevirtual 277, 3) := by decide +kernel
theorem dX3_digest_303 : decode cX3_digest 303 = .ok (.i2l, 1) := by decide +kernel
theorem dX3_digest_304 : decode cX3_digest 304 = .ok (.ladd, 1) := by decide +kernel
theorem dX3_digest_305 : decode cX3_digest 305 = .ok (.lstore_n 1, 1) := by decide +kernel
theorem dX3_digest_306 : decode cX3_digest 306 = .ok (.ldc2_w 241, 3) := by decide +kernel
theorem dX3_digest_309 : decode cX3_digest 309 = .ok (.lload_n 1, 1) := by decide +kernel
theorem dX3_digest_310 : decode cX3_digest 310 = .ok (.lmul, 1) := by decide +kernel
theorem dX3_digest_311 : decode cX3_digest 311 = .ok (.aload_n 0, 1) := by decide +kernel
theorem dX3_digest_312 : decode cX3_digest 312 = .ok (.invokevirtual 280, 3) := by decide +kernel
theorem dX3_digest_315 : decode cX3_digest 315 = .ok (.invokestatic 284, 3) := by decide +kernel
theorem dX3_digest_318 : decode cX3_digest 318 = .ok (.ladd, 1) := by decide +kernel
theorem dX3_digest_319 : decode cX3_digest 319 = .ok (.lstore_n 1, 1) := by decide +kernel
theorem dX3_digest_320 : decode cX3_digest 320 = .ok (.ldc2_w 241, 3) := by decide +kernel
theorem dX3_digest_323 : decode cX3_digest 323 = .ok (.lload_n 1, 1) := by decide +kernel
theorem dX3_digest_324 : decode cX3_digest 324 = .ok (.lmul, 1) := by decide +kernel
theorem dX3_digest_325 : decode cX3_digest 325 = .ok (.aload_n 0, 1) := by decide +kernel
theorem dX3_digest_326 : decode cX3_digest 326 = .ok (.getfield 23, 3) := by decide +kernel
theorem dX3_digest_329 : decode cX3_digest 329 = .ok (.getfield 119, 3) := by decide +kernel
theorem dX3_digest_332 : decode cX3_digest 332 = .ok (.i2l, 1) := by decide +kernel
theorem dX3_digest_333 : decode cX3_digest 333 = .ok (.ladd, 1) := by decide +kernel
theorem dX3_digest_334 : decode cX3_digest 334 = .ok (.lstore_n 1, 1) := by decide +kernel
theorem dX3_digest_335 : decode cX3_digest 335 = .ok (.iconst 0, 1) := by decide +kernel
theorem dX3_digest_336 : decode cX3_digest 336 = .ok (.istore_n 3, 1) := by decide +kernel
theorem dX3_digest_337 : decode cX3_digest 337 = .ok (.iload_n 3, 1) := by decide +kernel
theorem dX3_digest_338 : decode cX3_digest 338 = .ok (.aload_n 0, 1) := by decide +kernel
theorem dX3_digest_339 : decode cX3_digest 339 = .ok (.getfield 23, 3) := by decide +kernel
theorem dX3_digest_342 : decode cX3_digest 342 = .ok (.getfield 119, 3) := by decide +kernel
theorem dX3_digest_345 : decode cX3_digest 345 = .ok (.if_icmp .ge 26, 3) := by decide +kernel
theorem dX3_digest_348 : decode cX3_digest 348 = .ok (.ldc2_w 241, 3) := by decide +kernel
theorem dX3_digest_351 : decode cX3_digest 351 = .ok (.lload_n 1, 1) := by decide +kernel
theorem dX3_digest_352 : decode cX3_digest 352 = .ok (.lmul, 1) := by decide +kernel
theorem dX3_digest_353 : decode cX3_digest 353 = .ok (.aload_n 0, 1) := by decide +kernel
theorem dX3_digest_354 : decode cX3_digest 354 = .ok (.getfield 23, 3) := by decide +kernel
theorem dX3_digest_357 : decode cX3_digest 357 = .ok (.getfield 124, 3) := by decide +kernel
theorem dX3_digest_360 : decode cX3_digest 360 = .ok (.iload_n 3, 1) := by decide +kernel
theorem dX3_digest_361 : decode cX3_digest 361 = .ok (.caload, 1) := by decide +kernel
theorem dX3_digest_362 : decode cX3_digest 362 = .ok (.i2l, 1) := by decide +kernel
theorem dX3_digest_363 : decode cX3_digest 363 = .ok (.ladd, 1) := by decide +kernel
theorem dX3_digest_364 : decode cX3_digest 364 = .ok (.lstore_n 1, 1) := by decide +kernel
theorem dX3_digest_365 : decode cX3_digest 365 = .ok (.iinc 3 1, 3) := by decide +kernel
theorem dX3_digest_368 : decode cX3_digest 368 = .ok (.goto (-31), 3) := by decide +kernel
theorem dX3_digest_371 : decode cX3_digest 371 = .ok (.lload_n 1, 1) := by decide +kernel
theorem dX3_digest_372 : decode cX3_digest 372 = .ok (.lreturn, 1) := by decide +kernel
set_option maxRecDepth 20000 in
theorem ggX3_save_X2_copyFrom : GoodIn wsX3_save wsX2_copyFrom := goodIn_r _ [10, 11, 12, 13, 14, 15, 16, 17, 18, 28, 29, 30, 31] (by decide +kernel) (by decide +kernel)
set_option maxRecDepth 20000 in
theorem gX3_save_X2_copyFrom : GoodIn wsX3_save (wsV RX3 152 RX2 yX2_copyFrom wsX2_copyFrom) := goodIn_app (goodIn_of _ (by decide +kernel)) ggX3_save_X2_copyFrom
theorem dX3_save_0 : decode cX3_save 0 = .ok (.aload_n 0, 1) := by decide +kernel
theorem dX3_save_1 : decode cX3_save 1 = .ok (.getfield 16, 3) := by decide +kernel
theorem dX3_save_4 : decode cX3_save 4 = .ok (.aload_n 0, 1) := by decide +kernel
theorem dX3_save_5 : decode cX3_save 5 = .ok (.getfield 149, 3) := by decide +kernel
theorem dX3_save_8 : decode cX3_save 8 = .ok (.aload_n 0, 1) := by decide +kernel
theorem dX3_save_9 : decode cX3_save 9 = .ok (.getfield 144, 3) := by decide +kernel
theorem dX3_save_12 : decode cX3_save 12 = .ok (.iadd, 1) := by decide +kernel
theorem dX3_save_13 : decode cX3_save 13 = .ok (.bipush 6, 2) := by decide +kernel
theorem dX3_save_15 : decode cX3_save 15 = .ok (.irem, 1) := by decide +kernel
theorem dX3_save_16 : decode cX3_save 16 = .ok (.aaload, 1) := by decide +kernel
theorem dX3_save_17 : decode cX3_save 17 = .ok (.aload_n 0, 1) := by decide +kernel
theorem dX3_save_18 : decode cX3_save 18 = .ok (.getfield 10, 3) := by decide +kernel
theorem dX3_save_21 : decode cX3_save 21 = .ok (.invokevirtual 152, 3) := by decide +kernel
theorem dX3_save_24 : decode cX3_save 24 = .ok (.aload_n 0, 1) := by decide +kernel
theorem dX3_save_25 : decode cX3_save 25 = .ok (.getfield 144, 3) := by decide +kernel
theorem dX3_save_28 : decode cX3_save 28 = .ok (.bipush 6, 2) := by decide +kernel
theorem dX3_save_30 : decode cX3_save 30 = .ok (.if_icmp .ge 16, 3) := by decide +kernel
theorem dX3_save_33 : decode cX3_save 33 = .ok (.aload_n 0, 1) := by decide +kernel
theorem dX3_save_34 : decode cX3_save 34 = .ok (.dup, 1) := by decide +kernel
theorem dX3_save_35 : decode cX3_save 35 = .ok (.getfield 144, 3) := by decide +kernel
theorem dX3_save_38 : decode cX3_save 38 = .ok (.iconst 1, 1) := by decide +kernel
theorem dX3_save_39 : decode cX3_save 39 = .ok (.iadd, 1) := by decide +kernel
theorem dX3_save_40 : decode cX3_save 40 = .ok (.putfield 144, 3) := by decide +kernel
theorem dX3_save_43 : decode cX3_save 43 = .ok (.goto 16, 3) := by decide +kernel
theorem dX3_save_46 : decode cX3_save 46 = .ok (.aload_n 0, 1) := by decide +kernel
theorem dX3_save_47 : decode cX3_save 47 = .ok (.aload_n 0, 1) := by decide +kernel
theorem dX3_save_48 : decode cX3_save 48 = .ok (.getfield 149, 3) := by decide +kernel
theorem dX3_save_51 : decode cX3_save 51 = .ok (.iconst 1, 1) := by decide +kernel
theorem dX3_save_52 : decode cX3_save 52 = .ok (.iadd, 1) := by decide +kernel
theorem dX3_save_53 : decode cX3_save 53 = .ok (.bipush 6, 2) := by decide +kernel
theorem dX3_save_55 : decode cX3_save 55 = .ok (.irem, 1) := by decide +kernel
theorem dX3_save_56 : decode cX3_save 56 = .ok (.putfield 149, 3) := by decide +kernel
theorem dX3_save_59 : decode cX3_save 59 = .ok (.aload_n 0, 1) := by decide +kernel
theorem dX3_save_60 : decode cX3_save 60 = .ok (.iconst 0, 1) := by decide +kernel
theorem dX3_save_61 : decode cX3_save 61 = .ok (.putfield 156, 3) := by decide +kernel
theorem dX3_save_64 : decode cX3_save 64 = .ok (.return_, 1) := by decide +kernel
set_option maxRecDepth 20000 in
theorem ggX3_currentReading_X0_messageRead : GoodIn wsX3_currentReading wsX0_messageRead := goodIn_r _ [9, 10, 11, 12, 13, 14, 15, 16, 17, 18, 19, 20, 21, 22, 23, 24, 25, 26, 27, 8, 28, 29, 30, 31, 32, 33, 34, 35, 36, 37, 38, 39, 40, 41, 42, 43, 44, 45, 46, 47, 48, 49, 50, 51, 52, 53, 54, 55, 56, 57, 58, 59, 60, 61, 62, 63, 64, 65, 66, 67, 68, 69, 70, 71, 72, 73, 74, 75, 76, 77, 78, 79, 80, 81, 82, 83, 84, 85, 86, 87, 88, 89, 90, 91, 92, 93, 94, 95, 96, 97, 98, 99, 100, 101, 102, 103, 104, 105, 106, 116, 117, 118, 119, 120, 121, 122, 123, 124, 125, 126, 127, 128, 129, 130, 131] (by decide +kernel) (by decide +kernel)
set_option maxRecDepth 20000 in
theorem gX3_currentReading_X0_messageRead : GoodIn wsX3_currentReading (wsV RX3 231 RX0 yX0_messageRead wsX0_messageRead) := goodIn_app (goodIn_of _ (by decide +kernel)) ggX3_currentReading_X0_messageRead
theorem dX3_currentReading_0 : decode cX3_currentReading 0 = .ok (.aload_n 0, 1) := by decide +kernel
theorem dX3_currentReading_1 : decode cX3_currentReading 1 = .ok (.getfield 156, 3) := by decide +kernel
theorem dX3_currentReading_4 : decode cX3_currentReading 4 = .ok (.ifCond .ne 30, 3) := by decide +kernel
theorem dX3_currentReading_7 : decode cX3_currentReading 7 = .ok (.aload_n 0, 1) := by decide +kernel
theorem dX3_currentReading_8 : decode cX3_currentReading 8 = .ok (.getfield 34, 3) := by decide +kernel
theorem dX3_currentReading_11 : decode cX3_currentReading 11 = .ok (.aload_n 0, 1) := by decide +kernel
theorem dX3_currentReading_12 : decode cX3_currentReading 12 = .ok (.getfield 10, 3) := by decide +kernel
theorem dX3_currentReading_15 : decode cX3_currentReading 15 = .ok (.iconst 0, 1) := by decide +kernel
theorem dX3_currentReading_16 : decode cX3_currentReading 16 = .ok (.aload_n 0, 1) := by decide +kernel
theorem dX3_currentReading_17 : decode cX3_currentReading 17 = .ok (.getfield 10, 3) := by decide +kernel
theorem dX3_currentReading_20 : decode cX3_currentReading 20 = .ok (.getfield 94, 3) := by decide +kernel
theorem dX3_currentReading_23 : decode cX3_currentReading 23 = .ok (.iconst 1, 1) := by decide +kernel
theorem dX3_currentReading_24 : decode cX3_currentReading 24 = .ok (.iaload, 1) := by decide +kernel
theorem dX3_currentReading_25 : decode cX3_currentReading 25 = .ok (.invokevirtual 231, 3) := by decide +kernel
theorem dX3_currentReading_28 : decode cX3_currentReading 28 = .ok (.pop, 1) := by decide +kernel
theorem dX3_currentReading_29 : decode cX3_currentReading 29 = .ok (.aload_n 0, 1) := by decide +kernel
theorem dX3_currentReading_30 : decode cX3_currentReading 30 = .ok (.iconst 1, 1) := by decide +kernel
theorem dX3_currentReading_31 : decode cX3_currentReading 31 = .ok (.putfield 156, 3) := by decide +kernel
theorem dX3_currentReading_34 : decode cX3_currentReading 34 = .ok (.aload_n 0, 1) := by decide +kernel
theorem dX3_currentReading_35 : decode cX3_currentReading 35 = .ok (.getfield 34, 3) := by decide +kernel
theorem dX3_currentReading_38 : decode cX3_currentReading 38 = .ok (.areturn, 1) := by decide +kernel
theorem dX3_coded_0 : decode cX3_coded 0 = .ok (.iload_n 0, 1) := by decide +kernel
theorem dX3_coded_1 : decode cX3_coded 1 = .ok (.iconst 1, 1) := by decide +kernel
theorem dX3_coded_2 : decode cX3_coded 2 = .ok (.iload_n 1, 1) := by decide +kernel
theorem dX3_coded_3 : decode cX3_coded 3 = .ok (.ishl, 1) := by decide +kernel
theorem dX3_coded_4 : decode cX3_coded 4 = .ok (.iconst 1, 1) := by decide +kernel
theorem dX3_coded_5 : decode cX3_coded 5 = .ok (.isub, 1) := by decide +kernel
theorem dX3_coded_6 : decode cX3_coded 6 = .ok (.iand, 1) := by decide +kernel
theorem dX3_coded_7 : decode cX3_coded 7 = .ok (.istore_n 2, 1) := by decide +kernel
theorem dX3_coded_8 : decode cX3_coded 8 = .ok (.iconst 0, 1) := by decide +kernel
theorem dX3_coded_9 : decode cX3_coded 9 = .ok (.istore_n 3, 1) := by decide +kernel
theorem dX3_coded_10 : decode cX3_coded 10 = .ok (.iload_n 3, 1) := by decide +kernel
theorem dX3_coded_11 : decode cX3_coded 11 = .ok (.getstatic 288, 3) := by decide +kernel
theorem dX3_coded_14 : decode cX3_coded 14 = .ok (.arraylength, 1) := by decide +kernel
theorem dX3_coded_15 : decode cX3_coded 15 = .ok (.if_icmp .ge 30, 3) := by decide +kernel
theorem dX3_coded_18 : decode cX3_coded 18 = .ok (.iconst 1, 1) := by decide +kernel
theorem dX3_coded_19 : decode cX3_coded 19 = .ok (.iload_n 3, 1) := by decide +kernel
theorem dX3_coded_20 : decode cX3_coded 20 = .ok (.ishl, 1) := by decide +kernel
theorem dX3_coded_21 : decode cX3_coded 21 = .ok (.iload_n 1, 1) := by decide +kernel
theorem dX3_coded_22 : decode cX3_coded 22 = .ok (.if_icmp .ge 23, 3) := by decide +kernel
theorem dX3_coded_25 : decode cX3_coded 25 = .ok (.iload_n 2, 1) := by decide +kernel
theorem dX3_coded_26 : decode cX3_coded 26 = .ok (.iload_n 2, 1) := by decide +kernel
theorem dX3_coded_27 : decode cX3_coded 27 = .ok (.iconst 1, 1) := by decide +kernel
theorem dX3_coded_28 : decode cX3_coded 28 = .ok (.iload_n 3, 1) := by decide +kernel
theorem dX3_coded_29 : decode cX3_coded 29 = .ok (.ishl, 1) := by decide +kernel
theorem dX3_coded_30 : decode cX3_coded 30 = .ok (.ishr, 1) := by decide +kernel
theorem dX3_coded_31 : decode cX3_coded 31 = .ok (.getstatic 288, 3) := by decide +kernel
theorem dX3_coded_34 : decode cX3_coded 34 = .ok (.iload_n 3, 1) := by decide +kernel
theorem dX3_coded_35 : decode cX3_coded 35 = .ok (.iaload, 1) := by decide +kernel
theorem dX3_coded_36 : decode cX3_coded 36 = .ok (.iand, 1) := by decide +kernel
theorem dX3_coded_37 : decode cX3_coded 37 = .ok (.ixor, 1) := by decide +kernel
theorem dX3_coded_38 : decode cX3_coded 38 = .ok (.istore_n 2, 1) := by decide +kernel
theorem dX3_coded_39 : decode cX3_coded 39 = .ok (.iinc 3 1, 3) := by decide +kernel
theorem dX3_coded_42 : decode cX3_coded 42 = .ok (.goto (-32), 3) := by decide +kernel
theorem dX3_coded_45 : decode cX3_coded 45 = .ok (.iload_n 2, 1) := by decide +kernel
theorem dX3_coded_46 : decode cX3_coded 46 = .ok (.ireturn, 1) := by decide +kernel
theorem dX3_checkNumber_0 : decode cX3_checkNumber 0 = .ok (.iconst 0, 1) := by decide +kernel
theorem dX3_checkNumber_1 : decode cX3_checkNumber 1 = .ok (.istore_n 3, 1) := by decide +kernel
theorem dX3_checkNumber_2 : decode cX3_checkNumber 2 = .ok (.iconst 0, 1) := by decide +kernel
theorem dX3_checkNumber_3 : decode cX3_checkNumber 3 = .ok (.istore 4, 2) := by decide +kernel
theorem dX3_checkNumber_5 : decode cX3_checkNumber 5 = .ok (.iload 4, 2) := by decide +kernel
theorem dX3_checkNumber_7 : decode cX3_checkNumber 7 = .ok (.iload_n 1, 1) := by decide +kernel
theorem dX3_checkNumber_8 : decode cX3_checkNumber 8 = .ok (.if_icmp .ge 23, 3) := by decide +kernel
theorem dX3_checkNumber_11 : decode cX3_checkNumber 11 = .ok (.iload_n 3, 1) := by decide +kernel
theorem dX3_checkNumber_12 : decode cX3_checkNumber 12 = .ok (.iload_n 0, 1) := by decide +kernel
theorem dX3_checkNumber_13 : decode cX3_checkNumber 13 = .ok (.iload 4, 2) := by decide +kernel
theorem dX3_checkNumber_15 : decode cX3_checkNumber 15 = .ok (.ishr, 1) := by decide +kernel
theorem dX3_checkNumber_16 : decode cX3_checkNumber 16 = .ok (.iconst 1, 1) := by decide +kernel
theorem dX3_checkNumber_17 : decode cX3_checkNumber 17 = .ok (.iand, 1) := by decide +kernel
theorem dX3_checkNumber_18 : decode cX3_checkNumber 18 = .ok (.iload 4, 2) := by decide +kernel
theorem dX3_checkNumber_20 : decode cX3_checkNumber 20 = .ok (.iconst 1, 1) := by decide +kernel
theorem dX3_checkNumber_21 : decode cX3_checkNumber 21 = .ok (.iadd, 1) := by decide +kernel
theorem dX3_checkNumber_22 : decode cX3_checkNumber 22 = .ok (.imul, 1) := by decide +kernel
theorem dX3_checkNumber_23 : decode cX3_checkNumber 23 = .ok (.iadd, 1) := by decide +kernel
theorem dX3_checkNumber_24 : decode cX3_checkNumber 24 = .ok (.istore_n 3, 1) := by decide +kernel
theorem dX3_checkNumber_25 : decode cX3_checkNumber 25 = .ok (.iinc 4 1, 3) := by decide +kernel
theorem dX3_checkNumber_28 : decode cX3_checkNumber 28 = .ok (.goto (-23), 3) := by decide +kernel
theorem dX3_checkNumber_31 : decode cX3_checkNumber 31 = .ok (.iload_n 3, 1) := by decide +kernel
theorem dX3_checkNumber_32 : decode cX3_checkNumber 32 = .ok (.iconst 1, 1) := by decide +kernel
theorem dX3_checkNumber_33 : decode cX3_checkNumber 33 = .ok (.iload_n 2, 1) := by decide +kernel
theorem dX3_checkNumber_34 : decode cX3_checkNumber 34 = .ok (.ishl, 1) := by decide +kernel
theorem dX3_checkNumber_35 : decode cX3_checkNumber 35 = .ok (.iconst 1, 1) := by decide +kernel
theorem dX3_checkNumber_36 : decode cX3_checkNumber 36 = .ok (.isub, 1) := by decide +kernel
theorem dX3_checkNumber_37 : decode cX3_checkNumber 37 = .ok (.iand, 1) := by decide +kernel
theorem dX3_checkNumber_38 : decode cX3_checkNumber 38 = .ok (.ireturn, 1) := by decide +kernel
theorem dX3_bitsOfShare_0 : decode cX3_bitsOfShare 0 = .ok (.dload_n 0, 1) := by decide +kernel
theorem dX3_bitsOfShare_1 : decode cX3_bitsOfShare 1 = .ok (.dconst 0, 1) := by decide +kernel
theorem dX3_bitsOfShare_2 : decode cX3_bitsOfShare 2 = .ok (.dcmp .g, 1) := by decide +kernel
theorem dX3_bitsOfShare_3 : decode cX3_bitsOfShare 3 = .ok (.ifCond .gt 5, 3) := by decide +kernel
theorem dX3_bitsOfShare_6 : decode cX3_bitsOfShare 6 = .ok (.lconst 0, 1) := by decide +kernel
theorem dX3_bitsOfShare_7 : decode cX3_bitsOfShare 7 = .ok (.lreturn, 1) := by decide +kernel
theorem dX3_bitsOfShare_8 : decode cX3_bitsOfShare 8 = .ok (.dload_n 0, 1) := by decide +kernel
theorem dX3_bitsOfShare_9 : decode cX3_bitsOfShare 9 = .ok (.dstore_n 2, 1) := by decide +kernel
theorem dX3_bitsOfShare_10 : decode cX3_bitsOfShare 10 = .ok (.ldc2_w 291, 3) := by decide +kernel
theorem dX3_bitsOfShare_13 : decode cX3_bitsOfShare 13 = .ok (.lstore 4, 2) := by decide +kernel
theorem dX3_bitsOfShare_15 : decode cX3_bitsOfShare 15 = .ok (.iconst 0, 1) := by decide +kernel
theorem dX3_bitsOfShare_16 : decode cX3_bitsOfShare 16 = .ok (.istore 6, 2) := by decide +kernel
theorem dX3_bitsOfShare_18 : decode cX3_bitsOfShare 18 = .ok (.iload 6, 2) := by decide +kernel
theorem dX3_bitsOfShare_20 : decode cX3_bitsOfShare 20 = .ok (.bipush 64, 2) := by decide +kernel
theorem dX3_bitsOfShare_22 : decode cX3_bitsOfShare 22 = .ok (.if_icmp .ge 27, 3) := by decide +kernel
theorem dX3_bitsOfShare_25 : decode cX3_bitsOfShare 25 = .ok (.dload_n 2, 1) := by decide +kernel
theorem dX3_bitsOfShare_26 : decode cX3_bitsOfShare 26 = .ok (.dconst 1, 1) := by decide +kernel
theorem dX3_bitsOfShare_27 : decode cX3_bitsOfShare 27 = .ok (.dcmp .g, 1) := by decide +kernel
theorem dX3_bitsOfShare_28 : decode cX3_bitsOfShare 28 = .ok (.ifCond .ge 21, 3) := by decide +kernel
theorem dX3_bitsOfShare_31 : decode cX3_bitsOfShare 31 = .ok (.dload_n 2, 1) := by decide +kernel
theorem dX3_bitsOfShare_32 : decode cX3_bitsOfShare 32 = .ok (.ldc2_w 293, 3) := by decide +kernel
theorem dX3_bitsOfShare_35 : decode cX3_bitsOfShare 35 = .ok (.dmul, 1) := by decide +kernel
theorem dX3_bitsOfShare_36 : decode cX3_bitsOfShare 36 = .ok (.dstore_n 2, 1) := by decide +kernel
theorem dX3_bitsOfShare_37 : decode cX3_bitsOfShare 37 = .ok (.lload 4, 2) := by decide +kernel
theorem dX3_bitsOfShare_39 : decode cX3_bitsOfShare 39 = .ok (.lconst 1, 1) := by decide +kernel
theorem dX3_bitsOfShare_40 : decode cX3_bitsOfShare 40 = .ok (.lsub, 1) := by decide +kernel
theorem dX3_bitsOfShare_41 : decode cX3_bitsOfShare 41 = .ok (.lstore 4, 2) := by decide +kernel
theorem dX3_bitsOfShare_43 : decode cX3_bitsOfShare 43 = .ok (.iinc 6 1, 3) := by decide +kernel
theorem dX3_bitsOfShare_46 : decode cX3_bitsOfShare 46 = .ok (.goto (-28), 3) := by decide +kernel
theorem dX3_bitsOfShare_49 : decode cX3_bitsOfShare 49 = .ok (.ldc2_w 295, 3) := by decide +kernel
theorem dX3_bitsOfShare_52 : decode cX3_bitsOfShare 52 = .ok (.dstore 6, 2) := by decide +kernel
theorem dX3_bitsOfShare_54 : decode cX3_bitsOfShare 54 = .ok (.lload 4, 2) := by decide +kernel
theorem dX3_bitsOfShare_56 : decode cX3_bitsOfShare 56 = .ok (.bipush 52, 2) := by decide +kernel
theorem dX3_bitsOfShare_58 : decode cX3_bitsOfShare 58 = .ok (.lshl, 1) := by decide +kernel
theorem dX3_bitsOfShare_59 : decode cX3_bitsOfShare 59 = .ok (.dload_n 2, 1) := by decide +kernel
theorem dX3_bitsOfShare_60 : decode cX3_bitsOfShare 60 = .ok (.dconst 1, 1) := by decide +kernel
theorem dX3_bitsOfShare_61 : decode cX3_bitsOfShare 61 = .ok (.dsub, 1) := by decide +kernel
theorem dX3_bitsOfShare_62 : decode cX3_bitsOfShare 62 = .ok (.dload 6, 2) := by decide +kernel
theorem dX3_bitsOfShare_64 : decode cX3_bitsOfShare 64 = .ok (.dmul, 1) := by decide +kernel
theorem dX3_bitsOfShare_65 : decode cX3_bitsOfShare 65 = .ok (.d2l, 1) := by decide +kernel
theorem dX3_bitsOfShare_66 : decode cX3_bitsOfShare 66 = .ok (.ladd, 1) := by decide +kernel
theorem dX3_bitsOfShare_67 : decode cX3_bitsOfShare 67 = .ok (.lreturn, 1) := by decide +kernel
theorem dX4_init_0 : decode cX4_init 0 = .ok (.aload_n 0, 1) := by decide +kernel
theorem dX4_init_1 : decode cX4_init 1 = .ok (.invokespecial 1, 3) := by decide +kernel
theorem dX4_init_4 : decode cX4_init 4 = .ok (.aload_n 0, 1) := by decide +kernel
theorem dX4_init_5 : decode cX4_init 5 = .ok (.bipush 22, 2) := by decide +kernel
theorem dX4_init_7 : decode cX4_init 7 = .ok (.newarray .int, 2) := by decide +kernel
theorem dX4_init_9 : decode cX4_init 9 = .ok (.putfield 7, 3) := by decide +kernel
theorem dX4_init_12 : decode cX4_init 12 = .ok (.aload_n 0, 1) := by decide +kernel
theorem dX4_init_13 : decode cX4_init 13 = .ok (.bipush 22, 2) := by decide +kernel
theorem dX4_init_15 : decode cX4_init 15 = .ok (.newarray .int, 2) := by decide +kernel
theorem dX4_init_17 : decode cX4_init 17 = .ok (.putfield 13, 3) := by decide +kernel
theorem dX4_init_20 : decode cX4_init 20 = .ok (.aload_n 0, 1) := by decide +kernel
theorem dX4_init_21 : decode cX4_init 21 = .ok (.sipush 132, 3) := by decide +kernel
theorem dX4_init_24 : decode cX4_init 24 = .ok (.newarray .int, 2) := by decide +kernel
theorem dX4_init_26 : decode cX4_init 26 = .ok (.putfield 16, 3) := by decide +kernel
theorem dX4_init_29 : decode cX4_init 29 = .ok (.aload_n 0, 1) := by decide +kernel
theorem dX4_init_30 : decode cX4_init 30 = .ok (.bipush 60, 2) := by decide +kernel
theorem dX4_init_32 : decode cX4_init 32 = .ok (.newarray .int, 2) := by decide +kernel
theorem dX4_init_34 : decode cX4_init 34 = .ok (.putfield 19, 3) := by decide +kernel
theorem dX4_init_37 : decode cX4_init 37 = .ok (.aload_n 0, 1) := by decide +kernel
theorem dX4_init_38 : decode cX4_init 38 = .ok (.bipush 8, 2) := by decide +kernel
theorem dX4_init_40 : decode cX4_init 40 = .ok (.newarray .int, 2) := by decide +kernel
theorem dX4_init_42 : decode cX4_init 42 = .ok (.putfield 22, 3) := by decide +kernel
theorem dX4_init_45 : decode cX4_init 45 = .ok (.aload_n 0, 1) := by decide +kernel
theorem dX4_init_46 : decode cX4_init 46 = .ok (.bipush 8, 2) := by decide +kernel
theorem dX4_init_48 : decode cX4_init 48 = .ok (.newarray .int, 2) := by decide +kernel
theorem dX4_init_50 : decode cX4_init 50 = .ok (.putfield 25, 3) := by decide +kernel
theorem dX4_init_53 : decode cX4_init 53 = .ok (.aload_n 0, 1) := by decide +kernel
theorem dX4_init_54 : decode cX4_init 54 = .ok (.bipush 8, 2) := by decide +kernel
theorem dX4_init_56 : decode cX4_init 56 = .ok (.newarray .int, 2) := by decide +kernel
theorem dX4_init_58 : decode cX4_init 58 = .ok (.putfield 28, 3) := by decide +kernel
theorem dX4_init_61 : decode cX4_init 61 = .ok (.aload_n 0, 1) := by decide +kernel
theorem dX4_init_62 : decode cX4_init 62 = .ok (.bipush 8, 2) := by decide +kernel
theorem dX4_init_64 : decode cX4_init 64 = .ok (.newarray .int, 2) := by decide +kernel
theorem dX4_init_66 : decode cX4_init 66 = .ok (.putfield 31, 3) := by decide +kernel
theorem dX4_init_69 : decode cX4_init 69 = .ok (.aload_n 0, 1) := by decide +kernel
theorem dX4_init_70 : decode cX4_init 70 = .ok (.bipush 16, 2) := by decide +kernel
theorem dX4_init_72 : decode cX4_init 72 = .ok (.newarray .int, 2) := by decide +kernel
theorem dX4_init_74 : decode cX4_init 74 = .ok (.putfield 34, 3) := by decide +kernel
theorem dX4_init_77 : decode cX4_init 77 = .ok (.aload_n 0, 1) := by decide +kernel
theorem dX4_init_78 : decode cX4_init 78 = .ok (.bipush 32, 2) := by decide +kernel
theorem dX4_init_80 : decode cX4_init 80 = .ok (.newarray .int, 2) := by decide +kernel
theorem dX4_init_82 : decode cX4_init 82 = .ok (.putfield 37, 3) := by decide +kernel
theorem dX4_init_85 : decode cX4_init 85 = .ok (.aload_n 0, 1) := by decide +kernel
theorem dX4_init_86 : decode cX4_init 86 = .ok (.iconst 0, 1) := by decide +kernel
theorem dX4_init_87 : decode cX4_init 87 = .ok (.putfield 40, 3) := by decide +kernel
theorem dX4_init_90 : decode cX4_init 90 = .ok (.aload_n 0, 1) := by decide +kernel
theorem dX4_init_91 : decode cX4_init 91 = .ok (.getfield 7, 3) := by decide +kernel
theorem dX4_init_94 : decode cX4_init 94 = .ok (.iconst 0, 1) := by decide +kernel
theorem dX4_init_95 : decode cX4_init 95 = .ok (.bipush 8, 2) := by decide +kernel
theorem dX4_init_97 : decode cX4_init 97 = .ok (.iastore, 1) := by decide +kernel
theorem dX4_init_98 : decode cX4_init 98 = .ok (.aload_n 0, 1) := by decide +kernel
theorem dX4_init_99 : decode cX4_init 99 = .ok (.getfield 7, 3) := by decide +kernel
theorem dX4_init_102 : decode cX4_init 102 = .ok (.iconst 2, 1) := by decide +kernel
theorem dX4_init_103 : decode cX4_init 103 = .ok (.sipush 500, 3) := by decide +kernel
theorem dX4_init_106 : decode cX4_init 106 = .ok (.iastore, 1) := by decide +kernel
theorem dX4_init_107 : decode cX4_init 107 = .ok (.aload_n 0, 1) := by decide +kernel
theorem dX4_init_108 : decode cX4_init 108 = .ok (.getfield 7, 3) := by decide +kernel
theorem dX4_init_111 : decode cX4_init 111 = .ok (.iconst 3, 1) := by decide +kernel
theorem dX4_init_112 : decode cX4_init 112 = .ok (.iconst 1, 1) := by decide +kernel
theorem dX4_init_113 : decode cX4_init 113 = .ok (.iastore, 1) := by decide +kernel
theorem dX4_init_114 : decode cX4_init 114 = .ok (.aload_n 0, 1) := by decide +kernel
theorem dX4_init_115 : decode cX4_init 115 = .ok (.getfield 7, 3) := by decide +kernel
theorem dX4_init_118 : decode cX4_init 118 = .ok (.iconst 5, 1) := by decide +kernel
theorem dX4_init_119 : decode cX4_init 119 = .ok (.bipush 10, 2) := by decide +kernel
theorem dX4_init_121 : decode cX4_init 121 = .ok (.iastore, 1) := by decide +kernel
theorem dX4_init_122 : decode cX4_init 122 = .ok (.return_, 1) := by decide +kernel
theorem dX4_thrown_0 : decode cX4_thrown 0 = .ok (.aload_n 0, 1) := by decide +kernel
theorem dX4_thrown_1 : decode cX4_thrown 1 = .ok (.getfield 40, 3) := by decide +kernel
theorem dX4_thrown_4 : decode cX4_thrown 4 = .ok (.ireturn, 1) := by decide +kernel
theorem dX4_in_0 : decode cX4_in 0 = .ok (.iload_n 0, 1) := by decide +kernel
theorem dX4_in_1 : decode cX4_in 1 = .ok (.iload_n 1, 1) := by decide +kernel
theorem dX4_in_2 : decode cX4_in 2 = .ok (.if_icmp .lt 12, 3) := by decide +kernel
theorem dX4_in_5 : decode cX4_in 5 = .ok (.iload_n 0, 1) := by decide +kernel
theorem dX4_in_6 : decode cX4_in 6 = .ok (.iload_n 2, 1) := by decide +kernel
theorem dX4_in_7 : decode cX4_in 7 = .ok (.if_icmp .gt 7, 3) := by decide +kernel
theorem dX4_in_10 : decode cX4_in 10 = .ok (.iconst 1, 1) := by decide +kernel
theorem dX4_in_11 : decode cX4_in 11 = .ok (.goto 4, 3) := by decide +kernel
theorem dX4_in_14 : decode cX4_in 14 = .ok (.iconst 0, 1) := by decide +kernel
theorem dX4_in_15 : decode cX4_in 15 = .ok (.ireturn, 1) := by decide +kernel
theorem dX4_fails_0 : decode cX4_fails 0 = .ok (.aload_n 0, 1) := by decide +kernel
theorem dX4_fails_1 : decode cX4_fails 1 = .ok (.iload_n 1, 1) := by decide +kernel
theorem dX4_fails_2 : decode cX4_fails 2 = .ok (.putfield 40, 3) := by decide +kernel
theorem dX4_fails_5 : decode cX4_fails 5 = .ok (.iconst 0, 1) := by decide +kernel
theorem dX4_fails_6 : decode cX4_fails 6 = .ok (.ireturn, 1) := by decide +kernel
set_option maxRecDepth 20000 in
theorem ggX4_isPlace_X4_in : GoodIn wsX4_isPlace wsX4_in := goodIn_r _ [5] (by decide +kernel) (by decide +kernel)
set_option maxRecDepth 20000 in
theorem gX4_isPlace_X4_in : GoodIn wsX4_isPlace (va_wsS RX4 44 yX4_in wsX4_in) := goodIn_app (goodIn_of _ (by decide +kernel)) ggX4_isPlace_X4_in
theorem dX4_isPlace_0 : decode cX4_isPlace 0 = .ok (.iload_n 1, 1) := by decide +kernel
theorem dX4_isPlace_1 : decode cX4_isPlace 1 = .ok (.iconst 0, 1) := by decide +kernel
theorem dX4_isPlace_2 : decode cX4_isPlace 2 = .ok (.aload_n 0, 1) := by decide +kernel
theorem dX4_isPlace_3 : decode cX4_isPlace 3 = .ok (.getfield 7, 3) := by decide +kernel
theorem dX4_isPlace_6 : decode cX4_isPlace 6 = .ok (.iconst 0, 1) := by decide +kernel
theorem dX4_isPlace_7 : decode cX4_isPlace 7 = .ok (.iaload, 1) := by decide +kernel
theorem dX4_isPlace_8 : decode cX4_isPlace 8 = .ok (.iconst 1, 1) := by decide +kernel
theorem dX4_isPlace_9 : decode cX4_isPlace 9 = .ok (.isub, 1) := by decide +kernel
theorem dX4_isPlace_10 : decode cX4_isPlace 10 = .ok (.invokestatic 44, 3) := by decide +kernel
theorem dX4_isPlace_13 : decode cX4_isPlace 13 = .ok (.ireturn, 1) := by decide +kernel
theorem dX4_saves_0 : decode cX4_saves 0 = .ok (.aload_n 0, 1) := by decide +kernel
theorem dX4_saves_1 : decode cX4_saves 1 = .ok (.getfield 48, 3) := by decide +kernel
theorem dX4_saves_4 : decode cX4_saves 4 = .ok (.bipush 6, 2) := by decide +kernel
theorem dX4_saves_6 : decode cX4_saves 6 = .ok (.if_icmp .ne 42, 3) := by decide +kernel
theorem dX4_saves_9 : decode cX4_saves 9 = .ok (.iconst 0, 1) := by decide +kernel
theorem dX4_saves_10 : decode cX4_saves 10 = .ok (.istore_n 1, 1) := by decide +kernel
theorem dX4_saves_11 : decode cX4_saves 11 = .ok (.iload_n 1, 1) := by decide +kernel
theorem dX4_saves_12 : decode cX4_saves 12 = .ok (.bipush 110, 2) := by decide +kernel
theorem dX4_saves_14 : decode cX4_saves 14 = .ok (.if_icmp .ge 24, 3) := by decide +kernel
theorem dX4_saves_17 : decode cX4_saves 17 = .ok (.aload_n 0, 1) := by decide +kernel
theorem dX4_saves_18 : decode cX4_saves 18 = .ok (.getfield 16, 3) := by decide +kernel
theorem dX4_saves_21 : decode cX4_saves 21 = .ok (.iload_n 1, 1) := by decide +kernel
theorem dX4_saves_22 : decode cX4_saves 22 = .ok (.aload_n 0, 1) := by decide +kernel
theorem dX4_saves_23 : decode cX4_saves 23 = .ok (.getfield 16, 3) := by decide +kernel
theorem dX4_saves_26 : decode cX4_saves 26 = .ok (.iload_n 1, 1) := by decide +kernel
theorem dX4_saves_27 : decode cX4_saves 27 = .ok (.bipush 22, 2) := by decide +kernel
theorem dX4_saves_29 : decode cX4_saves 29 = .ok (.iadd, 1) := by decide +kernel
theorem dX4_saves_30 : decode cX4_saves 30 = .ok (.iaload, 1) := by decide +kernel
theorem dX4_saves_31 : decode cX4_saves 31 = .ok (.iastore, 1) := by decide +kernel
theorem dX4_saves_32 : decode cX4_saves 32 = .ok (.iinc 1 1, 3) := by decide +kernel
theorem dX4_saves_35 : decode cX4_saves 35 = .ok (.goto (-24), 3) := by decide +kernel
theorem dX4_saves_38 : decode cX4_saves 38 = .ok (.aload_n 0, 1) := by decide +kernel
theorem dX4_saves_39 : decode cX4_saves 39 = .ok (.dup, 1) := by decide +kernel
theorem dX4_saves_40 : decode cX4_saves 40 = .ok (.getfield 48, 3) := by decide +kernel
theorem dX4_saves_43 : decode cX4_saves 43 = .ok (.iconst 1, 1) := by decide +kernel
theorem dX4_saves_44 : decode cX4_saves 44 = .ok (.isub, 1) := by decide +kernel
theorem dX4_saves_45 : decode cX4_saves 45 = .ok (.putfield 48, 3) := by decide +kernel
theorem dX4_saves_48 : decode cX4_saves 48 = .ok (.iconst 0, 1) := by decide +kernel
theorem dX4_saves_49 : decode cX4_saves 49 = .ok (.istore_n 1, 1) := by decide +kernel
theorem dX4_saves_50 : decode cX4_saves 50 = .ok (.iload_n 1, 1) := by decide +kernel
theorem dX4_saves_51 : decode cX4_saves 51 = .ok (.bipush 22, 2) := by decide +kernel
theorem dX4_saves_53 : decode cX4_saves 53 = .ok (.if_icmp .ge 29, 3) := by decide +kernel
theorem dX4_saves_56 : decode cX4_saves 56 = .ok (.aload_n 0, 1) := by decide +kernel
theorem dX4_saves_57 : decode cX4_saves 57 = .ok (.getfield 16, 3) := by decide +kernel
theorem dX4_saves_60 : decode cX4_saves 60 = .ok (.bipush 22, 2) := by decide +kernel
theorem dX4_saves_62 : decode cX4_saves 62 = .ok (.aload_n 0, 1) := by decide +kernel
theorem dX4_saves_63 : decode cX4_saves 63 = .ok (.getfield 48, 3) := by decide +kernel
theorem dX4_saves_66 : decode cX4_saves 66 = .ok (.imul, 1) := by decide +kernel
theorem dX4_saves_67 : decode cX4_saves 67 = .ok (.iload_n 1, 1) := by decide +kernel
theorem dX4_saves_68 : decode cX4_saves 68 = .ok (.iadd, 1) := by decide +kernel
theorem dX4_saves_69 : decode cX4_saves 69 = .ok (.aload_n 0, 1) := by decide +kernel
theorem dX4_saves_70 : decode cX4_saves 70 = .ok (.getfield 7, 3) := by decide +kernel
theorem dX4_saves_73 : decode cX4_saves 73 = .ok (.iload_n 1, 1) := by decide +kernel
theorem dX4_saves_74 : decode cX4_saves 74 = .ok (.iaload, 1) := by decide +kernel
theorem dX4_saves_75 : decode cX4_saves 75 = .ok (.iastore, 1) := by decide +kernel
theorem dX4_saves_76 : decode cX4_saves 76 = .ok (.iinc 1 1, 3) := by decide +kernel
theorem dX4_saves_79 : decode cX4_saves 79 = .ok (.goto (-29), 3) := by decide +kernel
theorem dX4_saves_82 : decode cX4_saves 82 = .ok (.aload_n 0, 1) := by decide +kernel
theorem dX4_saves_83 : decode cX4_saves 83 = .ok (.dup, 1) := by decide +kernel
theorem dX4_saves_84 : decode cX4_saves 84 = .ok (.getfield 48, 3) := by decide +kernel
theorem dX4_saves_87 : decode cX4_saves 87 = .ok (.iconst 1, 1) := by decide +kernel
theorem dX4_saves_88 : decode cX4_saves 88 = .ok (.iadd, 1) := by decide +kernel
theorem dX4_saves_89 : decode cX4_saves 89 = .ok (.putfield 48, 3) := by decide +kernel
theorem dX4_saves_92 : decode cX4_saves 92 = .ok (.return_, 1) := by decide +kernel
theorem dX4_putAside_0 : decode cX4_putAside 0 = .ok (.iconst 0, 1) := by decide +kernel
theorem dX4_putAside_1 : decode cX4_putAside 1 = .ok (.istore_n 1, 1) := by decide +kernel
theorem dX4_putAside_2 : decode cX4_putAside 2 = .ok (.iload_n 1, 1) := by decide +kernel
theorem dX4_putAside_3 : decode cX4_putAside 3 = .ok (.bipush 22, 2) := by decide +kernel
theorem dX4_putAside_5 : decode cX4_putAside 5 = .ok (.if_icmp .ge 21, 3) := by decide +kernel
theorem dX4_putAside_8 : decode cX4_putAside 8 = .ok (.aload_n 0, 1) := by decide +kernel
theorem dX4_putAside_9 : decode cX4_putAside 9 = .ok (.getfield 13, 3) := by decide +kernel
theorem dX4_putAside_12 : decode cX4_putAside 12 = .ok (.iload_n 1, 1) := by decide +kernel
theorem dX4_putAside_13 : decode cX4_putAside 13 = .ok (.aload_n 0, 1) := by decide +kernel
theorem dX4_putAside_14 : decode cX4_putAside 14 = .ok (.getfield 7, 3) := by decide +kernel
theorem dX4_putAside_17 : decode cX4_putAside 17 = .ok (.iload_n 1, 1) := by decide +kernel
theorem dX4_putAside_18 : decode cX4_putAside 18 = .ok (.iaload, 1) := by decide +kernel
theorem dX4_putAside_19 : decode cX4_putAside 19 = .ok (.iastore, 1) := by decide +kernel
theorem dX4_putAside_20 : decode cX4_putAside 20 = .ok (.iinc 1 1, 3) := by decide +kernel
theorem dX4_putAside_23 : decode cX4_putAside 23 = .ok (.goto (-21), 3) := by decide +kernel
theorem dX4_putAside_26 : decode cX4_putAside 26 = .ok (.return_, 1) := by decide +kernel
theorem dX4_takeBack_0 : decode cX4_takeBack 0 = .ok (.iconst 0, 1) := by decide +kernel
theorem dX4_takeBack_1 : decode cX4_takeBack 1 = .ok (.istore_n 1, 1) := by decide +kernel
theorem dX4_takeBack_2 : decode cX4_takeBack 2 = .ok (.iload_n 1, 1) := by decide +kernel
theorem dX4_takeBack_3 : decode cX4_takeBack 3 = .ok (.bipush 22, 2) := by decide +kernel
theorem dX4_takeBack_5 : decode cX4_takeBack 5 = .ok (.if_icmp .ge 21, 3) := by decide +kernel
theorem dX4_takeBack_8 : decode cX4_takeBack 8 = .ok (.aload_n 0, 1) := by decide +kernel
theorem dX4_takeBack_9 : decode cX4_takeBack 9 = .ok (.getfield 7, 3) := by decide +kernel
theorem dX4_takeBack_12 : decode cX4_takeBack 12 = .ok (.iload_n 1, 1) := by decide +kernel
theorem dX4_takeBack_13 : decode cX4_takeBack 13 = .ok (.aload_n 0, 1) := by decide +kernel
theorem dX4_takeBack_14 : decode cX4_takeBack 14 = .ok (.getfield 13, 3) := by decide +kernel
theorem dX4_takeBack_17 : decode cX4_takeBack 17 = .ok (.iload_n 1, 1) := by decide +kernel
theorem dX4_takeBack_18 : decode cX4_takeBack 18 = .ok (.iaload, 1) := by decide +kernel
theorem dX4_takeBack_19 : decode cX4_takeBack 19 = .ok (.iastore, 1) := by decide +kernel
theorem dX4_takeBack_20 : decode cX4_takeBack 20 = .ok (.iinc 1 1, 3) := by decide +kernel
theorem dX4_takeBack_23 : decode cX4_takeBack 23 = .ok (.goto (-21), 3) := by decide +kernel
theorem dX4_takeBack_26 : decode cX4_takeBack 26 = .ok (.return_, 1) := by decide +kernel
theorem dX4_size_0 : decode cX4_size 0 = .ok (.iload_n 0, 1) := by decide +kernel
theorem dX4_size_1 : decode cX4_size 1 = .ok (.ifCond .ge 8, 3) := by decide +kernel
theorem dX4_size_4 : decode cX4_size 4 = .ok (.iload_n 0, 1) := by decide +kernel
theorem dX4_size_5 : decode cX4_size 5 = .ok (.ineg, 1) := by decide +kernel
theorem dX4_size_6 : decode cX4_size 6 = .ok (.goto 4, 3) := by decide +kernel
theorem dX4_size_9 : decode cX4_size 9 = .ok (.iload_n 0, 1) := by decide +kernel
theorem dX4_size_10 : decode cX4_size 10 = .ok (.ireturn, 1) := by decide +kernel
theorem dX4_isOpen_0 : decode cX4_isOpen 0 = .ok (.aload_n 0, 1) := by decide +kernel
theorem dX4_isOpen_1 : decode cX4_isOpen 1 = .ok (.getfield 7, 3) := by decide +kernel
theorem dX4_isOpen_4 : decode cX4_isOpen 4 = .ok (.iconst 1, 1) := by decide +kernel
theorem dX4_isOpen_5 : decode cX4_isOpen 5 = .ok (.iaload, 1) := by decide +kernel
theorem dX4_isOpen_6 : decode cX4_isOpen 6 = .ok (.iload_n 1, 1) := by decide +kernel
theorem dX4_isOpen_7 : decode cX4_isOpen 7 = .ok (.ishr, 1) := by decide +kernel
theorem dX4_isOpen_8 : decode cX4_isOpen 8 = .ok (.iconst 1, 1) := by decide +kernel
theorem dX4_isOpen_9 : decode cX4_isOpen 9 = .ok (.iand, 1) := by decide +kernel
theorem dX4_isOpen_10 : decode cX4_isOpen 10 = .ok (.iconst 1, 1) := by decide +kernel
theorem dX4_isOpen_11 : decode cX4_isOpen 11 = .ok (.if_icmp .ne 7, 3) := by decide +kernel
theorem dX4_isOpen_14 : decode cX4_isOpen 14 = .ok (.iconst 1, 1) := by decide +kernel
theorem dX4_isOpen_15 : decode cX4_isOpen 15 = .ok (.goto 4, 3) := by decide +kernel
theorem dX4_isOpen_18 : decode cX4_isOpen 18 = .ok (.iconst 0, 1) := by decide +kernel
theorem dX4_isOpen_19 : decode cX4_isOpen 19 = .ok (.ireturn, 1) := by decide +kernel
set_option maxRecDepth 20000 in
theorem ggX4_openMany_X4_isOpen : GoodIn wsX4_openMany wsX4_isOpen := goodIn_r _ [6, 1, 7, 8, 9, 10, 11, 12, 13, 14, 15, 16, 17, 18, 19, 20, 21, 22, 23, 24] (by decide +kernel) (by decide +kernel)
set_option maxRecDepth 20000 in
theorem gX4_openMany_X4_isOpen : GoodIn wsX4_openMany (wsV RX4 51 RX4 yX4_isOpen wsX4_isOpen) := goodIn_app (goodIn_of _ (by decide +kernel)) ggX4_openMany_X4_isOpen
theorem dX4_openMany_0 : decode cX4_openMany 0 = .ok (.iconst 0, 1) := by decide +kernel
theorem dX4_openMany_1 : decode cX4_openMany 1 = .ok (.istore_n 1, 1) := by decide +kernel
theorem dX4_openMany_2 : decode cX4_openMany 2 = .ok (.iconst 0, 1) := by decide +kernel
theorem dX4_openMany_3 : decode cX4_openMany 3 = .ok (.istore_n 2, 1) := by decide +kernel
theorem dX4_openMany_4 : decode cX4_openMany 4 = .ok (.iload_n 2, 1) := by decide +kernel
theorem dX4_openMany_5 : decode cX4_openMany 5 = .ok (.aload_n 0, 1) := by decide +kernel
theorem dX4_openMany_6 : decode cX4_openMany 6 = .ok (.getfield 7, 3) := by decide +kernel
theorem dX4_openMany_9 : decode cX4_openMany 9 = .ok (.iconst 0, 1) := by decide +kernel
theorem dX4_openMany_10 : decode cX4_openMany 10 = .ok (.iaload, 1) := by decide +kernel
theorem dX4_openMany_11 : decode cX4_openMany 11 = .ok (.if_icmp .ge 25, 3) := by decide +kernel
theorem dX4_openMany_14 : decode cX4_openMany 14 = .ok (.iload_n 1, 1) := by decide +kernel
theorem dX4_openMany_15 : decode cX4_openMany 15 = .ok (.aload_n 0, 1) := by decide +kernel
theorem dX4_openMany_16 : decode cX4_openMany 16 = .ok (.iload_n 2, 1) := by decide +kernel
theorem dX4_openMany_17 : decode cX4_openMany 17 = .ok (.invokevirtual 51, 3) := by decide +kernel
theorem dX4_openMany_20 : decode cX4_openMany 20 = .ok (.ifCond .eq 7, 3) := by decide +kernel
theorem dX4_openMany_23 : decode cX4_openMany 23 = .ok (.iconst 1, 1) := by decide +kernel
theorem dX4_openMany_24 : decode cX4_openMany 24 = .ok (.goto 4, 3) := by decide +kernel
theorem dX4_openMany_27 : decode cX4_openMany 27 = .ok (.iconst 0, 1) := by decide +kernel
theorem dX4_openMany_28 : decode cX4_openMany 28 = .ok (.iadd, 1) := by decide +kernel
theorem dX4_openMany_29 : decode cX4_openMany 29 = .ok (.istore_n 1, 1) := by decide +kernel
theorem dX4_openMany_30 : decode cX4_openMany 30 = .ok (.iinc 2 1, 3) := by decide +kernel
theorem dX4_openMany_33 : decode cX4_openMany 33 = .ok (.goto (-29), 3) := by decide +kernel
theorem dX4_openMany_36 : decode cX4_openMany 36 = .ok (.iload_n 1, 1) := by decide +kernel
theorem dX4_openMany_37 : decode cX4_openMany 37 = .ok (.ireturn, 1) := by decide +kernel
set_option maxRecDepth 20000 in
theorem ggX4_checkMany_X4_openMany : GoodIn wsX4_checkMany wsX4_openMany := goodIn_r _ [6, 1, 7, 8, 9, 5, 10, 11, 12, 13, 14, 15, 16, 17, 18, 19, 20, 21, 22, 23, 24, 25, 26, 27, 28] (by decide +kernel) (by decide +kernel)
set_option maxRecDepth 20000 in
theorem gX4_checkMany_X4_openMany : GoodIn wsX4_checkMany (wsV RX4 55 RX4 yX4_openMany wsX4_openMany) := goodIn_app (goodIn_of _ (by decide +kernel)) ggX4_checkMany_X4_openMany
theorem dX4_checkMany_0 : decode cX4_checkMany 0 = .ok (.aload_n 0, 1) := by decide +kernel
theorem dX4_checkMany_1 : decode cX4_checkMany 1 = .ok (.invokevirtual 55, 3) := by decide +kernel
theorem dX4_checkMany_4 : decode cX4_checkMany 4 = .ok (.istore_n 1, 1) := by decide +kernel
theorem dX4_checkMany_5 : decode cX4_checkMany 5 = .ok (.iload_n 1, 1) := by decide +kernel
theorem dX4_checkMany_6 : decode cX4_checkMany 6 = .ok (.aload_n 0, 1) := by decide +kernel
theorem dX4_checkMany_7 : decode cX4_checkMany 7 = .ok (.getfield 7, 3) := by decide +kernel
theorem dX4_checkMany_10 : decode cX4_checkMany 10 = .ok (.iconst 4, 1) := by decide +kernel
theorem dX4_checkMany_11 : decode cX4_checkMany 11 = .ok (.iaload, 1) := by decide +kernel
theorem dX4_checkMany_12 : decode cX4_checkMany 12 = .ok (.if_icmp .ge 7, 3) := by decide +kernel
theorem dX4_checkMany_15 : decode cX4_checkMany 15 = .ok (.iload_n 1, 1) := by decide +kernel
theorem dX4_checkMany_16 : decode cX4_checkMany 16 = .ok (.goto 9, 3) := by decide +kernel
theorem dX4_checkMany_19 : decode cX4_checkMany 19 = .ok (.aload_n 0, 1) := by decide +kernel
theorem dX4_checkMany_20 : decode cX4_checkMany 20 = .ok (.getfield 7, 3) := by decide +kernel
theorem dX4_checkMany_23 : decode cX4_checkMany 23 = .ok (.iconst 4, 1) := by decide +kernel
theorem dX4_checkMany_24 : decode cX4_checkMany 24 = .ok (.iaload, 1) := by decide +kernel
theorem dX4_checkMany_25 : decode cX4_checkMany 25 = .ok (.ireturn, 1) := by decide +kernel
set_option maxRecDepth 20000 in
theorem ggX4_bodyMany_X4_openMany : GoodIn wsX4_bodyMany wsX4_openMany := goodIn_r _ [5, 6, 7, 8, 9, 4, 10, 15, 16, 17, 18, 19, 20, 21, 22, 23, 24, 25, 26, 27, 28, 29, 30, 31, 32] (by decide +kernel) (by decide +kernel)
set_option maxRecDepth 20000 in
theorem gX4_bodyMany_X4_openMany : GoodIn wsX4_bodyMany (wsV RX4 55 RX4 yX4_openMany wsX4_openMany) := goodIn_app (goodIn_of _ (by decide +kernel)) ggX4_bodyMany_X4_openMany
set_option maxRecDepth 20000 in
theorem ggX4_bodyMany_X4_checkMany : GoodIn wsX4_bodyMany wsX4_checkMany := goodIn_r _ [14, 6, 1, 2, 3, 4, 5, 7, 8, 9, 10, 15, 16, 17, 18, 19, 20, 21, 22, 23, 24, 25, 26, 27, 28, 29, 30, 31, 32] (by decide +kernel) (by decide +kernel)
set_option maxRecDepth 20000 in
theorem gX4_bodyMany_X4_checkMany : GoodIn wsX4_bodyMany (wsV RX4 59 RX4 yX4_checkMany wsX4_checkMany) := goodIn_app (goodIn_of _ (by decide +kernel)) ggX4_bodyMany_X4_checkMany
theorem dX4_bodyMany_0 : decode cX4_bodyMany 0 = .ok (.aload_n 0, 1) := by decide +kernel
theorem dX4_bodyMany_1 : decode cX4_bodyMany 1 = .ok (.invokevirtual 55, 3) := by decide +kernel
theorem dX4_bodyMany_4 : decode cX4_bodyMany 4 = .ok (.aload_n 0, 1) := by decide +kernel
theorem dX4_bodyMany_5 : decode cX4_bodyMany 5 = .ok (.invokevirtual 59, 3) := by decide +kernel
theorem dX4_bodyMany_8 : decode cX4_bodyMany 8 = .ok (.isub, 1) := by decide +kernel
theorem dX4_bodyMany_9 : decode cX4_bodyMany 9 = .ok (.ireturn, 1) := by decide +kernel
theorem dX4_coded_0 : decode cX4_coded 0 = .ok (.iload_n 0, 1) := by decide +kernel
theorem dX4_coded_1 : decode cX4_coded 1 = .ok (.iconst 1, 1) := by decide +kernel
theorem dX4_coded_2 : decode cX4_coded 2 = .ok (.iload_n 1, 1) := by decide +kernel
theorem dX4_coded_3 : decode cX4_coded 3 = .ok (.ishl, 1) := by decide +kernel
theorem dX4_coded_4 : decode cX4_coded 4 = .ok (.iconst 1, 1) := by decide +kernel
theorem dX4_coded_5 : decode cX4_coded 5 = .ok (.isub, 1) := by decide +kernel
theorem dX4_coded_6 : decode cX4_coded 6 = .ok (.iand, 1) := by decide +kernel
theorem dX4_coded_7 : decode cX4_coded 7 = .ok (.istore_n 2, 1) := by decide +kernel
theorem dX4_coded_8 : decode cX4_coded 8 = .ok (.iconst 1, 1) := by decide +kernel
theorem dX4_coded_9 : decode cX4_coded 9 = .ok (.istore_n 3, 1) := by decide +kernel
theorem dX4_coded_10 : decode cX4_coded 10 = .ok (.iload_n 3, 1) := by decide +kernel
theorem dX4_coded_11 : decode cX4_coded 11 = .ok (.iload_n 1, 1) := by decide +kernel
theorem dX4_coded_12 : decode cX4_coded 12 = .ok (.if_icmp .ge 52, 3) := by decide +kernel
theorem dX4_coded_15 : decode cX4_coded 15 = .ok (.iconst 0, 1) := by decide +kernel
theorem dX4_coded_16 : decode cX4_coded 16 = .ok (.istore 4, 2) := by decide +kernel
theorem dX4_coded_18 : decode cX4_coded 18 = .ok (.iload 4, 2) := by decide +kernel
theorem dX4_coded_20 : decode cX4_coded 20 = .ok (.iload_n 1, 1) := by decide +kernel
theorem dX4_coded_21 : decode cX4_coded 21 = .ok (.if_icmp .ge 36, 3) := by decide +kernel
theorem dX4_coded_24 : decode cX4_coded 24 = .ok (.iload_n 2, 1) := by decide +kernel
theorem dX4_coded_25 : decode cX4_coded 25 = .ok (.iload 4, 2) := by decide +kernel
theorem dX4_coded_27 : decode cX4_coded 27 = .ok (.iload_n 3, 1) := by decide +kernel
theorem dX4_coded_28 : decode cX4_coded 28 = .ok (.idiv, 1) := by decide +kernel
theorem dX4_coded_29 : decode cX4_coded 29 = .ok (.iconst 2, 1) := by decide +kernel
theorem dX4_coded_30 : decode cX4_coded 30 = .ok (.irem, 1) := by decide +kernel
theorem dX4_coded_31 : decode cX4_coded 31 = .ok (.ifCond .ne 17, 3) := by decide +kernel
theorem dX4_coded_34 : decode cX4_coded 34 = .ok (.iload_n 2, 1) := by decide +kernel
theorem dX4_coded_35 : decode cX4_coded 35 = .ok (.iload 4, 2) := by decide +kernel
theorem dX4_coded_37 : decode cX4_coded 37 = .ok (.iload_n 3, 1) := by decide +kernel
theorem dX4_coded_38 : decode cX4_coded 38 = .ok (.iadd, 1) := by decide +kernel
theorem dX4_coded_39 : decode cX4_coded 39 = .ok (.ishr, 1) := by decide +kernel
theorem dX4_coded_40 : decode cX4_coded 40 = .ok (.iconst 1, 1) := by decide +kernel
theorem dX4_coded_41 : decode cX4_coded 41 = .ok (.iand, 1) := by decide +kernel
theorem dX4_coded_42 : decode cX4_coded 42 = .ok (.iload 4, 2) := by decide +kernel
theorem dX4_coded_44 : decode cX4_coded 44 = .ok (.ishl, 1) := by decide +kernel
theorem dX4_coded_45 : decode cX4_coded 45 = .ok (.goto 4, 3) := by decide +kernel
theorem dX4_coded_48 : decode cX4_coded 48 = .ok (.iconst 0, 1) := by decide +kernel
theorem dX4_coded_49 : decode cX4_coded 49 = .ok (.ixor, 1) := by decide +kernel
theorem dX4_coded_50 : decode cX4_coded 50 = .ok (.istore_n 2, 1) := by decide +kernel
theorem dX4_coded_51 : decode cX4_coded 51 = .ok (.iinc 4 1, 3) := by decide +kernel
theorem dX4_coded_54 : decode cX4_coded 54 = .ok (.goto (-36), 3) := by decide +kernel
theorem dX4_coded_57 : decode cX4_coded 57 = .ok (.iload_n 3, 1) := by decide +kernel
theorem dX4_coded_58 : decode cX4_coded 58 = .ok (.iconst 2, 1) := by decide +kernel
theorem dX4_coded_59 : decode cX4_coded 59 = .ok (.imul, 1) := by decide +kernel
theorem dX4_coded_60 : decode cX4_coded 60 = .ok (.istore_n 3, 1) := by decide +kernel
theorem dX4_coded_61 : decode cX4_coded 61 = .ok (.goto (-51), 3) := by decide +kernel
theorem dX4_coded_64 : decode cX4_coded 64 = .ok (.iload_n 2, 1) := by decide +kernel
theorem dX4_coded_65 : decode cX4_coded 65 = .ok (.ireturn, 1) := by decide +kernel
theorem dX4_unsure_0 : decode cX4_unsure 0 = .ok (.ldc2_w 62, 3) := by decide +kernel
theorem dX4_unsure_3 : decode cX4_unsure 3 = .ok (.aload_n 0, 1) := by decide +kernel
theorem dX4_unsure_4 : decode cX4_unsure 4 = .ok (.getfield 7, 3) := by decide +kernel
theorem dX4_unsure_7 : decode cX4_unsure 7 = .ok (.iconst 2, 1) := by decide +kernel
theorem dX4_unsure_8 : decode cX4_unsure 8 = .ok (.iaload, 1) := by decide +kernel
theorem dX4_unsure_9 : decode cX4_unsure 9 = .ok (.i2l, 1) := by decide +kernel
theorem dX4_unsure_10 : decode cX4_unsure 10 = .ok (.lmul, 1) := by decide +kernel
theorem dX4_unsure_11 : decode cX4_unsure 11 = .ok (.lstore_n 2, 1) := by decide +kernel
theorem dX4_unsure_12 : decode cX4_unsure 12 = .ok (.aload_n 0, 1) := by decide +kernel
theorem dX4_unsure_13 : decode cX4_unsure 13 = .ok (.getfield 7, 3) := by decide +kernel
theorem dX4_unsure_16 : decode cX4_unsure 16 = .ok (.iconst 0, 1) := by decide +kernel
theorem dX4_unsure_17 : decode cX4_unsure 17 = .ok (.iaload, 1) := by decide +kernel
theorem dX4_unsure_18 : decode cX4_unsure 18 = .ok (.iconst 2, 1) := by decide +kernel
theorem dX4_unsure_19 : decode cX4_unsure 19 = .ok (.idiv, 1) := by decide +kernel
theorem dX4_unsure_20 : decode cX4_unsure 20 = .ok (.istore 4, 2) := by decide +kernel
theorem dX4_unsure_22 : decode cX4_unsure 22 = .ok (.iload 4, 2) := by decide +kernel
theorem dX4_unsure_24 : decode cX4_unsure 24 = .ok (.ifCond .le 44, 3) := by decide +kernel
theorem dX4_unsure_27 : decode cX4_unsure 27 = .ok (.lload_n 2, 1) := by decide +kernel
theorem dX4_unsure_28 : decode cX4_unsure 28 = .ok (.lload_n 2, 1) := by decide +kernel
theorem dX4_unsure_29 : decode cX4_unsure 29 = .ok (.lmul, 1) := by decide +kernel
theorem dX4_unsure_30 : decode cX4_unsure 30 = .ok (.ldc2_w 64, 3) := by decide +kernel
theorem dX4_unsure_33 : decode cX4_unsure 33 = .ok (.ldiv, 1) := by decide +kernel
theorem dX4_unsure_34 : decode cX4_unsure 34 = .ok (.lstore 5, 2) := by decide +kernel
theorem dX4_unsure_36 : decode cX4_unsure 36 = .ok (.iload_n 1, 1) := by decide +kernel
theorem dX4_unsure_37 : decode cX4_unsure 37 = .ok (.iload 4, 2) := by decide +kernel
theorem dX4_unsure_39 : decode cX4_unsure 39 = .ok (.idiv, 1) := by decide +kernel
theorem dX4_unsure_40 : decode cX4_unsure 40 = .ok (.iconst 2, 1) := by decide +kernel
theorem dX4_unsure_41 : decode cX4_unsure 41 = .ok (.irem, 1) := by decide +kernel
theorem dX4_unsure_42 : decode cX4_unsure 42 = .ok (.ifCond .ne 14, 3) := by decide +kernel
theorem dX4_unsure_45 : decode cX4_unsure 45 = .ok (.ldc2_w 66, 3) := by decide +kernel
theorem dX4_unsure_48 : decode cX4_unsure 48 = .ok (.lload_n 2, 1) := by decide +kernel
theorem dX4_unsure_49 : decode cX4_unsure 49 = .ok (.lmul, 1) := by decide +kernel
theorem dX4_unsure_50 : decode cX4_unsure 50 = .ok (.lload 5, 2) := by decide +kernel
theorem dX4_unsure_52 : decode cX4_unsure 52 = .ok (.lsub, 1) := by decide +kernel
theorem dX4_unsure_53 : decode cX4_unsure 53 = .ok (.goto 5, 3) := by decide +kernel
theorem dX4_unsure_56 : decode cX4_unsure 56 = .ok (.lload 5, 2) := by decide +kernel
theorem dX4_unsure_58 : decode cX4_unsure 58 = .ok (.lstore_n 2, 1) := by decide +kernel
theorem dX4_unsure_59 : decode cX4_unsure 59 = .ok (.iload 4, 2) := by decide +kernel
theorem dX4_unsure_61 : decode cX4_unsure 61 = .ok (.iconst 2, 1) := by decide +kernel
theorem dX4_unsure_62 : decode cX4_unsure 62 = .ok (.idiv, 1) := by decide +kernel
theorem dX4_unsure_63 : decode cX4_unsure 63 = .ok (.istore 4, 2) := by decide +kernel
theorem dX4_unsure_65 : decode cX4_unsure 65 = .ok (.goto (-43), 3) := by decide +kernel
theorem dX4_unsure_68 : decode cX4_unsure 68 = .ok (.lload_n 2, 1) := by decide +kernel
theorem dX4_unsure_69 : decode cX4_unsure 69 = .ok (.l2i, 1) := by decide +kernel
theorem dX4_unsure_70 : decode cX4_unsure 70 = .ok (.ireturn, 1) := by decide +kernel
set_option maxRecDepth 20000 in
theorem ggX4_rankOf_X4_unsure : GoodIn wsX4_rankOf wsX4_unsure := goodIn_r _ [6, 7, 1, 8, 9, 10, 11, 12, 13, 14, 15, 16, 17, 18, 19, 20, 21, 22, 23, 24, 25, 26, 27] (by decide +kernel) (by decide +kernel)
set_option maxRecDepth 20000 in
theorem gX4_rankOf_X4_unsure : GoodIn wsX4_rankOf (wsV RX4 68 RX4 yX4_unsure wsX4_unsure) := goodIn_app (goodIn_of _ (by decide +kernel)) ggX4_rankOf_X4_unsure
theorem dX4_rankOf_0 : decode cX4_rankOf 0 = .ok (.aload_n 0, 1) := by decide +kernel
theorem dX4_rankOf_1 : decode cX4_rankOf 1 = .ok (.iload_n 1, 1) := by decide +kernel
theorem dX4_rankOf_2 : decode cX4_rankOf 2 = .ok (.invokevirtual 68, 3) := by decide +kernel
theorem dX4_rankOf_5 : decode cX4_rankOf 5 = .ok (.istore_n 2, 1) := by decide +kernel
theorem dX4_rankOf_6 : decode cX4_rankOf 6 = .ok (.iconst 0, 1) := by decide +kernel
theorem dX4_rankOf_7 : decode cX4_rankOf 7 = .ok (.istore_n 3, 1) := by decide +kernel
theorem dX4_rankOf_8 : decode cX4_rankOf 8 = .ok (.iconst 0, 1) := by decide +kernel
theorem dX4_rankOf_9 : decode cX4_rankOf 9 = .ok (.istore 4, 2) := by decide +kernel
theorem dX4_rankOf_11 : decode cX4_rankOf 11 = .ok (.iload 4, 2) := by decide +kernel
theorem dX4_rankOf_13 : decode cX4_rankOf 13 = .ok (.aload_n 0, 1) := by decide +kernel
theorem dX4_rankOf_14 : decode cX4_rankOf 14 = .ok (.getfield 7, 3) := by decide +kernel
theorem dX4_rankOf_17 : decode cX4_rankOf 17 = .ok (.iconst 0, 1) := by decide +kernel
theorem dX4_rankOf_18 : decode cX4_rankOf 18 = .ok (.iaload, 1) := by decide +kernel
theorem dX4_rankOf_19 : decode cX4_rankOf 19 = .ok (.if_icmp .ge 43, 3) := by decide +kernel
theorem dX4_rankOf_22 : decode cX4_rankOf 22 = .ok (.iload_n 2, 1) := by decide +kernel
theorem dX4_rankOf_23 : decode cX4_rankOf 23 = .ok (.aload_n 0, 1) := by decide +kernel
theorem dX4_rankOf_24 : decode cX4_rankOf 24 = .ok (.iload 4, 2) := by decide +kernel
theorem dX4_rankOf_26 : decode cX4_rankOf 26 = .ok (.invokevirtual 68, 3) := by decide +kernel
theorem dX4_rankOf_29 : decode cX4_rankOf 29 = .ok (.isub, 1) := by decide +kernel
theorem dX4_rankOf_30 : decode cX4_rankOf 30 = .ok (.istore 5, 2) := by decide +kernel
theorem dX4_rankOf_32 : decode cX4_rankOf 32 = .ok (.iload_n 3, 1) := by decide +kernel
theorem dX4_rankOf_33 : decode cX4_rankOf 33 = .ok (.iload 5, 2) := by decide +kernel
theorem dX4_rankOf_35 : decode cX4_rankOf 35 = .ok (.ifCond .gt 14, 3) := by decide +kernel
theorem dX4_rankOf_38 : decode cX4_rankOf 38 = .ok (.iload 5, 2) := by decide +kernel
theorem dX4_rankOf_40 : decode cX4_rankOf 40 = .ok (.ifCond .ne 13, 3) := by decide +kernel
theorem dX4_rankOf_43 : decode cX4_rankOf 43 = .ok (.iload 4, 2) := by decide +kernel
theorem dX4_rankOf_45 : decode cX4_rankOf 45 = .ok (.iload_n 1, 1) := by decide +kernel
theorem dX4_rankOf_46 : decode cX4_rankOf 46 = .ok (.if_icmp .le 7, 3) := by decide +kernel
theorem dX4_rankOf_49 : decode cX4_rankOf 49 = .ok (.iconst 1, 1) := by decide +kernel
theorem dX4_rankOf_50 : decode cX4_rankOf 50 = .ok (.goto 4, 3) := by decide +kernel
theorem dX4_rankOf_53 : decode cX4_rankOf 53 = .ok (.iconst 0, 1) := by decide +kernel
theorem dX4_rankOf_54 : decode cX4_rankOf 54 = .ok (.iadd, 1) := by decide +kernel
theorem dX4_rankOf_55 : decode cX4_rankOf 55 = .ok (.istore_n 3, 1) := by decide +kernel
theorem dX4_rankOf_56 : decode cX4_rankOf 56 = .ok (.iinc 4 1, 3) := by decide +kernel
theorem dX4_rankOf_59 : decode cX4_rankOf 59 = .ok (.goto (-48), 3) := by decide +kernel
theorem dX4_rankOf_62 : decode cX4_rankOf 62 = .ok (.iload_n 3, 1) := by decide +kernel
theorem dX4_rankOf_63 : decode cX4_rankOf 63 = .ok (.ireturn, 1) := by decide +kernel
set_option maxRecDepth 20000 in
theorem ggX4_numberOf_X4_isOpen : GoodIn wsX4_numberOf wsX4_isOpen := goodIn_r _ [5, 6, 7, 8, 9, 10, 11, 12, 13, 14, 15, 16, 17, 18, 19, 20, 21, 22, 23, 24] (by decide +kernel) (by decide +kernel)
set_option maxRecDepth 20000 in
theorem gX4_numberOf_X4_isOpen : GoodIn wsX4_numberOf (wsV RX4 51 RX4 yX4_isOpen wsX4_isOpen) := goodIn_app (goodIn_of _ (by decide +kernel)) ggX4_numberOf_X4_isOpen
theorem dX4_numberOf_0 : decode cX4_numberOf 0 = .ok (.iconst 0, 1) := by decide +kernel
theorem dX4_numberOf_1 : decode cX4_numberOf 1 = .ok (.istore_n 2, 1) := by decide +kernel
theorem dX4_numberOf_2 : decode cX4_numberOf 2 = .ok (.iconst 0, 1) := by decide +kernel
theorem dX4_numberOf_3 : decode cX4_numberOf 3 = .ok (.istore_n 3, 1) := by decide +kernel
theorem dX4_numberOf_4 : decode cX4_numberOf 4 = .ok (.iload_n 3, 1) := by decide +kernel
theorem dX4_numberOf_5 : decode cX4_numberOf 5 = .ok (.iload_n 1, 1) := by decide +kernel
theorem dX4_numberOf_6 : decode cX4_numberOf 6 = .ok (.if_icmp .ge 25, 3) := by decide +kernel
theorem dX4_numberOf_9 : decode cX4_numberOf 9 = .ok (.iload_n 2, 1) := by decide +kernel
theorem dX4_numberOf_10 : decode cX4_numberOf 10 = .ok (.aload_n 0, 1) := by decide +kernel
theorem dX4_numberOf_11 : decode cX4_numberOf 11 = .ok (.iload_n 3, 1) := by decide +kernel
theorem dX4_numberOf_12 : decode cX4_numberOf 12 = .ok (.invokevirtual 51, 3) := by decide +kernel
theorem dX4_numberOf_15 : decode cX4_numberOf 15 = .ok (.ifCond .eq 7, 3) := by decide +kernel
theorem dX4_numberOf_18 : decode cX4_numberOf 18 = .ok (.iconst 1, 1) := by decide +kernel
theorem dX4_numberOf_19 : decode cX4_numberOf 19 = .ok (.goto 4, 3) := by decide +kernel
theorem dX4_numberOf_22 : decode cX4_numberOf 22 = .ok (.iconst 0, 1) := by decide +kernel
theorem dX4_numberOf_23 : decode cX4_numberOf 23 = .ok (.iadd, 1) := by decide +kernel
theorem dX4_numberOf_24 : decode cX4_numberOf 24 = .ok (.istore_n 2, 1) := by decide +kernel
theorem dX4_numberOf_25 : decode cX4_numberOf 25 = .ok (.iinc 3 1, 3) := by decide +kernel
theorem dX4_numberOf_28 : decode cX4_numberOf 28 = .ok (.goto (-24), 3) := by decide +kernel
theorem dX4_numberOf_31 : decode cX4_numberOf 31 = .ok (.aload_n 0, 1) := by decide +kernel
theorem dX4_numberOf_32 : decode cX4_numberOf 32 = .ok (.iload_n 1, 1) := by decide +kernel
theorem dX4_numberOf_33 : decode cX4_numberOf 33 = .ok (.invokevirtual 51, 3) := by decide +kernel
theorem dX4_numberOf_36 : decode cX4_numberOf 36 = .ok (.ifCond .eq 7, 3) := by decide +kernel
theorem dX4_numberOf_39 : decode cX4_numberOf 39 = .ok (.iload_n 2, 1) := by decide +kernel
theorem dX4_numberOf_40 : decode cX4_numberOf 40 = .ok (.goto 4, 3) := by decide +kernel
theorem dX4_numberOf_43 : decode cX4_numberOf 43 = .ok (.iconst (-1), 1) := by decide +kernel
theorem dX4_numberOf_44 : decode cX4_numberOf 44 = .ok (.ireturn, 1) := by decide +kernel
set_option maxRecDepth 20000 in
theorem ggX4_messageOf_X4_isOpen : GoodIn wsX4_messageOf wsX4_isOpen := goodIn_r _ [6, 1, 7, 8, 9, 10, 11, 12, 13, 14, 15, 16, 17, 18, 19, 20, 21, 22, 23, 24] (by decide +kernel) (by decide +kernel)
set_option maxRecDepth 20000 in
theorem gX4_messageOf_X4_isOpen : GoodIn wsX4_messageOf (wsV RX4 51 RX4 yX4_isOpen wsX4_isOpen) := goodIn_app (goodIn_of _ (by decide +kernel)) ggX4_messageOf_X4_isOpen
theorem dX4_messageOf_0 : decode cX4_messageOf 0 = .ok (.iconst 0, 1) := by decide +kernel
theorem dX4_messageOf_1 : decode cX4_messageOf 1 = .ok (.istore_n 2, 1) := by decide +kernel
theorem dX4_messageOf_2 : decode cX4_messageOf 2 = .ok (.iconst 0, 1) := by decide +kernel
theorem dX4_messageOf_3 : decode cX4_messageOf 3 = .ok (.istore_n 3, 1) := by decide +kernel
theorem dX4_messageOf_4 : decode cX4_messageOf 4 = .ok (.iconst 0, 1) := by decide +kernel
theorem dX4_messageOf_5 : decode cX4_messageOf 5 = .ok (.istore 4, 2) := by decide +kernel
theorem dX4_messageOf_7 : decode cX4_messageOf 7 = .ok (.iload 4, 2) := by decide +kernel
theorem dX4_messageOf_9 : decode cX4_messageOf 9 = .ok (.aload_n 0, 1) := by decide +kernel
theorem dX4_messageOf_10 : decode cX4_messageOf 10 = .ok (.getfield 7, 3) := by decide +kernel
theorem dX4_messageOf_13 : decode cX4_messageOf 13 = .ok (.iconst 0, 1) := by decide +kernel
theorem dX4_messageOf_14 : decode cX4_messageOf 14 = .ok (.iaload, 1) := by decide +kernel
theorem dX4_messageOf_15 : decode cX4_messageOf 15 = .ok (.if_icmp .ge 50, 3) := by decide +kernel
theorem dX4_messageOf_18 : decode cX4_messageOf 18 = .ok (.iload_n 2, 1) := by decide +kernel
theorem dX4_messageOf_19 : decode cX4_messageOf 19 = .ok (.aload_n 0, 1) := by decide +kernel
theorem dX4_messageOf_20 : decode cX4_messageOf 20 = .ok (.iload 4, 2) := by decide +kernel
theorem dX4_messageOf_22 : decode cX4_messageOf 22 = .ok (.invokevirtual 51, 3) := by decide +kernel
theorem dX4_messageOf_25 : decode cX4_messageOf 25 = .ok (.ifCond .eq 14, 3) := by decide +kernel
theorem dX4_messageOf_28 : decode cX4_messageOf 28 = .ok (.iload_n 1, 1) := by decide +kernel
theorem dX4_messageOf_29 : decode cX4_messageOf 29 = .ok (.iload 4, 2) := by decide +kernel
theorem dX4_messageOf_31 : decode cX4_messageOf 31 = .ok (.ishr, 1) := by decide +kernel
theorem dX4_messageOf_32 : decode cX4_messageOf 32 = .ok (.iconst 1, 1) := by decide +kernel
theorem dX4_messageOf_33 : decode cX4_messageOf 33 = .ok (.iand, 1) := by decide +kernel
theorem dX4_messageOf_34 : decode cX4_messageOf 34 = .ok (.iload_n 3, 1) := by decide +kernel
theorem dX4_messageOf_35 : decode cX4_messageOf 35 = .ok (.ishl, 1) := by decide +kernel
theorem dX4_messageOf_36 : decode cX4_messageOf 36 = .ok (.goto 4, 3) := by decide +kernel
theorem dX4_messageOf_39 : decode cX4_messageOf 39 = .ok (.iconst 0, 1) := by decide +kernel
theorem dX4_messageOf_40 : decode cX4_messageOf 40 = .ok (.ior, 1) := by decide +kernel
theorem dX4_messageOf_41 : decode cX4_messageOf 41 = .ok (.istore_n 2, 1) := by decide +kernel
theorem dX4_messageOf_42 : decode cX4_messageOf 42 = .ok (.iload_n 3, 1) := by decide +kernel
theorem dX4_messageOf_43 : decode cX4_messageOf 43 = .ok (.aload_n 0, 1) := by decide +kernel
theorem dX4_messageOf_44 : decode cX4_messageOf 44 = .ok (.iload 4, 2) := by decide +kernel
theorem dX4_messageOf_46 : decode cX4_messageOf 46 = .ok (.invokevirtual 51, 3) := by decide +kernel
theorem dX4_messageOf_49 : decode cX4_messageOf 49 = .ok (.ifCond .eq 7, 3) := by decide +kernel
theorem dX4_messageOf_52 : decode cX4_messageOf 52 = .ok (.iconst 1, 1) := by decide +kernel
theorem dX4_messageOf_53 : decode cX4_messageOf 53 = .ok (.goto 4, 3) := by decide +kernel
theorem dX4_messageOf_56 : decode cX4_messageOf 56 = .ok (.iconst 0, 1) := by decide +kernel
theorem dX4_messageOf_57 : decode cX4_messageOf 57 = .ok (.iadd, 1) := by decide +kernel
theorem dX4_messageOf_58 : decode cX4_messageOf 58 = .ok (.istore_n 3, 1) := by decide +kernel
theorem dX4_messageOf_59 : decode cX4_messageOf 59 = .ok (.iinc 4 1, 3) := by decide +kernel
theorem dX4_messageOf_62 : decode cX4_messageOf 62 = .ok (.goto (-55), 3) := by decide +kernel
theorem dX4_messageOf_65 : decode cX4_messageOf 65 = .ok (.iload_n 2, 1) := by decide +kernel
theorem dX4_messageOf_66 : decode cX4_messageOf 66 = .ok (.ireturn, 1) := by decide +kernel
set_option maxRecDepth 20000 in
theorem ggX4_bitsOf_X4_isOpen : GoodIn wsX4_bitsOf wsX4_isOpen := goodIn_r _ [6, 1, 7, 8, 9, 10, 11, 12, 13, 14, 15, 16, 17, 18, 19, 20, 21, 22, 23, 24] (by decide +kernel) (by decide +kernel)
set_option maxRecDepth 20000 in
theorem gX4_bitsOf_X4_isOpen : GoodIn wsX4_bitsOf (wsV RX4 51 RX4 yX4_isOpen wsX4_isOpen) := goodIn_app (goodIn_of _ (by decide +kernel)) ggX4_bitsOf_X4_isOpen
theorem dX4_bitsOf_0 : decode cX4_bitsOf 0 = .ok (.iconst 0, 1) := by decide +kernel
theorem dX4_bitsOf_1 : decode cX4_bitsOf 1 = .ok (.istore_n 2, 1) := by decide +kernel
theorem dX4_bitsOf_2 : decode cX4_bitsOf 2 = .ok (.iconst 0, 1) := by decide +kernel
theorem dX4_bitsOf_3 : decode cX4_bitsOf 3 = .ok (.istore_n 3, 1) := by decide +kernel
theorem dX4_bitsOf_4 : decode cX4_bitsOf 4 = .ok (.iconst 0, 1) := by decide +kernel
theorem dX4_bitsOf_5 : decode cX4_bitsOf 5 = .ok (.istore 4, 2) := by decide +kernel
theorem dX4_bitsOf_7 : decode cX4_bitsOf 7 = .ok (.iload 4, 2) := by decide +kernel
theorem dX4_bitsOf_9 : decode cX4_bitsOf 9 = .ok (.aload_n 0, 1) := by decide +kernel
theorem dX4_bitsOf_10 : decode cX4_bitsOf 10 = .ok (.getfield 7, 3) := by decide +kernel
theorem dX4_bitsOf_13 : decode cX4_bitsOf 13 = .ok (.iconst 0, 1) := by decide +kernel
theorem dX4_bitsOf_14 : decode cX4_bitsOf 14 = .ok (.iaload, 1) := by decide +kernel
theorem dX4_bitsOf_15 : decode cX4_bitsOf 15 = .ok (.if_icmp .ge 50, 3) := by decide +kernel
theorem dX4_bitsOf_18 : decode cX4_bitsOf 18 = .ok (.iload_n 2, 1) := by decide +kernel
theorem dX4_bitsOf_19 : decode cX4_bitsOf 19 = .ok (.aload_n 0, 1) := by decide +kernel
theorem dX4_bitsOf_20 : decode cX4_bitsOf 20 = .ok (.iload 4, 2) := by decide +kernel
theorem dX4_bitsOf_22 : decode cX4_bitsOf 22 = .ok (.invokevirtual 51, 3) := by decide +kernel
theorem dX4_bitsOf_25 : decode cX4_bitsOf 25 = .ok (.ifCond .eq 14, 3) := by decide +kernel
theorem dX4_bitsOf_28 : decode cX4_bitsOf 28 = .ok (.iload_n 1, 1) := by decide +kernel
theorem dX4_bitsOf_29 : decode cX4_bitsOf 29 = .ok (.iload_n 3, 1) := by decide +kernel
theorem dX4_bitsOf_30 : decode cX4_bitsOf 30 = .ok (.ishr, 1) := by decide +kernel
theorem dX4_bitsOf_31 : decode cX4_bitsOf 31 = .ok (.iconst 1, 1) := by decide +kernel
theorem dX4_bitsOf_32 : decode cX4_bitsOf 32 = .ok (.iand, 1) := by decide +kernel
theorem dX4_bitsOf_33 : decode cX4_bitsOf 33 = .ok (.iload 4, 2) := by decide +kernel
theorem dX4_bitsOf_35 : decode cX4_bitsOf 35 = .ok (.ishl, 1) := by decide +kernel
theorem dX4_bitsOf_36 : decode cX4_bitsOf 36 = .ok (.goto 4, 3) := by decide +kernel
theorem dX4_bitsOf_39 : decode cX4_bitsOf 39 = .ok (.iconst 0, 1) := by decide +kernel
theorem dX4_bitsOf_40 : decode cX4_bitsOf 40 = .ok (.ior, 1) := by decide +kernel
theorem dX4_bitsOf_41 : decode cX4_bitsOf 41 = .ok (.istore_n 2, 1) := by decide +kernel
theorem dX4_bitsOf_42 : decode cX4_bitsOf 42 = .ok (.iload_n 3, 1) := by decide +kernel
theorem dX4_bitsOf_43 : decode cX4_bitsOf 43 = .ok (.aload_n 0, 1) := by decide +kernel
theorem dX4_bitsOf_44 : decode cX4_bitsOf 44 = .ok (.iload 4, 2) := by decide +kernel
theorem dX4_bitsOf_46 : decode cX4_bitsOf 46 = .ok (.invokevirtual 51, 3) := by decide +kernel
theorem dX4_bitsOf_49 : decode cX4_bitsOf 49 = .ok (.ifCond .eq 7, 3) := by decide +kernel
theorem dX4_bitsOf_52 : decode cX4_bitsOf 52 = .ok (.iconst 1, 1) := by decide +kernel
theorem dX4_bitsOf_53 : decode cX4_bitsOf 53 = .ok (.goto 4, 3) := by decide +kernel
theorem dX4_bitsOf_56 : decode cX4_bitsOf 56 = .ok (.iconst 0, 1) := by decide +kernel
theorem dX4_bitsOf_57 : decode cX4_bitsOf 57 = .ok (.iadd, 1) := by decide +kernel
theorem dX4_bitsOf_58 : decode cX4_bitsOf 58 = .ok (.istore_n 3, 1) := by decide +kernel
theorem dX4_bitsOf_59 : decode cX4_bitsOf 59 = .ok (.iinc 4 1, 3) := by decide +kernel
theorem dX4_bitsOf_62 : decode cX4_bitsOf 62 = .ok (.goto (-55), 3) := by decide +kernel
theorem dX4_bitsOf_65 : decode cX4_bitsOf 65 = .ok (.iload_n 2, 1) := by decide +kernel
theorem dX4_bitsOf_66 : decode cX4_bitsOf 66 = .ok (.ireturn, 1) := by decide +kernel
set_option maxRecDepth 20000 in
theorem ggX4_sumOf_X4_bodyMany : GoodIn wsX4_sumOf wsX4_bodyMany := goodIn_r _ [5, 6, 7, 8, 4, 9, 10, 11, 12, 13, 14, 15, 16, 17, 18, 19, 20, 21, 22, 23, 24, 25, 26, 27, 28, 29, 30, 31, 32, 33, 34, 35, 36] (by decide +kernel) (by decide +kernel)
set_option maxRecDepth 20000 in
theorem gX4_sumOf_X4_bodyMany : GoodIn wsX4_sumOf (wsV RX4 72 RX4 yX4_bodyMany wsX4_bodyMany) := goodIn_app (goodIn_of _ (by decide +kernel)) ggX4_sumOf_X4_bodyMany
set_option maxRecDepth 20000 in
theorem ggX4_sumOf_X4_checkMany : GoodIn wsX4_sumOf wsX4_checkMany := goodIn_r _ [18, 10, 6, 7, 8, 4, 9, 11, 12, 13, 14, 19, 20, 21, 22, 23, 24, 25, 26, 27, 28, 29, 30, 31, 32, 33, 34, 35, 36] (by decide +kernel) (by decide +kernel)
set_option maxRecDepth 20000 in
theorem gX4_sumOf_X4_checkMany : GoodIn wsX4_sumOf (wsV RX4 59 RX4 yX4_checkMany wsX4_checkMany) := goodIn_app (goodIn_of _ (by decide +kernel)) ggX4_sumOf_X4_checkMany
theorem dX4_sumOf_0 : decode cX4_sumOf 0 = .ok (.iconst 0, 1) := by decide +kernel
theorem dX4_sumOf_1 : decode cX4_sumOf 1 = .ok (.istore_n 2, 1) := by decide +kernel
theorem dX4_sumOf_2 : decode cX4_sumOf 2 = .ok (.iconst 0, 1) := by decide +kernel
theorem dX4_sumOf_3 : decode cX4_sumOf 3 = .ok (.istore_n 3, 1) := by decide +kernel
theorem dX4_sumOf_4 : decode cX4_sumOf 4 = .ok (.iload_n 3, 1) := by decide +kernel
theorem dX4_sumOf_5 : decode cX4_sumOf 5 = .ok (.aload_n 0, 1) := by decide +kernel
theorem dX4_sumOf_6 : decode cX4_sumOf 6 = .ok (.invokevirtual 72, 3) := by decide +kernel
theorem dX4_sumOf_9 : decode cX4_sumOf 9 = .ok (.if_icmp .ge 21, 3) := by decide +kernel
theorem dX4_sumOf_12 : decode cX4_sumOf 12 = .ok (.iload_n 2, 1) := by decide +kernel
theorem dX4_sumOf_13 : decode cX4_sumOf 13 = .ok (.iload_n 1, 1) := by decide +kernel
theorem dX4_sumOf_14 : decode cX4_sumOf 14 = .ok (.iload_n 3, 1) := by decide +kernel
theorem dX4_sumOf_15 : decode cX4_sumOf 15 = .ok (.ishr, 1) := by decide +kernel
theorem dX4_sumOf_16 : decode cX4_sumOf 16 = .ok (.iconst 1, 1) := by decide +kernel
theorem dX4_sumOf_17 : decode cX4_sumOf 17 = .ok (.iand, 1) := by decide +kernel
theorem dX4_sumOf_18 : decode cX4_sumOf 18 = .ok (.iload_n 3, 1) := by decide +kernel
theorem dX4_sumOf_19 : decode cX4_sumOf 19 = .ok (.iconst 1, 1) := by decide +kernel
theorem dX4_sumOf_20 : decode cX4_sumOf 20 = .ok (.iadd, 1) := by decide +kernel
theorem dX4_sumOf_21 : decode cX4_sumOf 21 = .ok (.imul, 1) := by decide +kernel
theorem dX4_sumOf_22 : decode cX4_sumOf 22 = .ok (.iadd, 1) := by decide +kernel
theorem dX4_sumOf_23 : decode cX4_sumOf 23 = .ok (.istore_n 2, 1) := by decide +kernel
theorem dX4_sumOf_24 : decode cX4_sumOf 24 = .ok (.iinc 3 1, 3) := by decide +kernel
theorem dX4_sumOf_27 : decode cX4_sumOf 27 = .ok (.goto (-23), 3) := by decide +kernel
theorem dX4_sumOf_30 : decode cX4_sumOf 30 = .ok (.iload_n 2, 1) := by decide +kernel
theorem dX4_sumOf_31 : decode cX4_sumOf 31 = .ok (.iconst 1, 1) := by decide +kernel
theorem dX4_sumOf_32 : decode cX4_sumOf 32 = .ok (.aload_n 0, 1) := by decide +kernel
theorem dX4_sumOf_33 : decode cX4_sumOf 33 = .ok (.invokevirtual 59, 3) := by decide +kernel
theorem dX4_sumOf_36 : decode cX4_sumOf 36 = .ok (.ishl, 1) := by decide +kernel
theorem dX4_sumOf_37 : decode cX4_sumOf 37 = .ok (.iconst 1, 1) := by decide +kernel
theorem dX4_sumOf_38 : decode cX4_sumOf 38 = .ok (.isub, 1) := by decide +kernel
