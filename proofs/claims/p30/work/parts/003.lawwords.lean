set_option maxRecDepth 40000 in
theorem wsL_law0_r1_g : GoodIn lw_tbl wsL_law0_r1 := goodIn_r _ [26, 27, 13, 28, 29, 30, 31, 32, 33, 34, 35, 14, 134, 135, 61, 62, 15, 138, 59, 139, 85, 86, 16, 140] (by decide +kernel) (by decide +kernel)
set_option maxRecDepth 40000 in
theorem wsL_law0_r2_g : GoodIn lw_tbl wsL_law0_r2 := goodIn_r _ [142, 36, 37, 38, 39, 40, 43, 45, 64, 65, 66, 84, 67, 70, 88, 89, 90, 91, 92, 93, 94, 96, 133, 98] (by decide +kernel) (by decide +kernel)
set_option maxRecDepth 40000 in
theorem wsL_law0_r3_g : GoodIn lw_tbl wsL_law0_r3 := goodIn_r _ [100, 101, 504, 505, 12, 506, 241, 242, 243, 244, 347, 23, 47, 105, 137, 245, 246, 247, 248, 48, 249, 250, 17, 251] (by decide +kernel) (by decide +kernel)
set_option maxRecDepth 40000 in
theorem wsL_law0_r4_g : GoodIn lw_tbl wsL_law0_r4 := goodIn_r _ [252, 253, 254, 255, 256, 257, 258, 259, 260, 261, 262, 263, 264, 265, 18, 266, 267, 268, 269, 270, 271, 272, 273, 274] (by decide +kernel) (by decide +kernel)
set_option maxRecDepth 40000 in
theorem wsL_law0_r5_g : GoodIn lw_tbl wsL_law0_r5 := goodIn_r _ [275, 276, 277, 278, 279, 281, 1, 282, 141, 44, 283, 284, 285, 286, 46, 103, 41, 104, 106, 287, 288, 289, 290, 291] (by decide +kernel) (by decide +kernel)
set_option maxRecDepth 40000 in
theorem wsL_law0_r6_g : GoodIn lw_tbl wsL_law0_r6 := goodIn_r _ [293, 2, 294, 102, 295, 297, 3, 298, 299, 240, 239, 19, 300, 302, 4, 303, 305, 306, 307, 309, 311, 5, 312, 313] (by decide +kernel) (by decide +kernel)
set_option maxRecDepth 40000 in
theorem wsL_law0_r7_g : GoodIn lw_tbl wsL_law0_r7 := goodIn_r _ [315, 6, 316, 317, 319, 7, 320, 321, 323, 8, 324, 325, 327, 9, 328, 329, 331, 10, 332, 333, 334, 335, 336, 337] (by decide +kernel) (by decide +kernel)
set_option maxRecDepth 40000 in
theorem wsL_law0_r8_g : GoodIn lw_tbl wsL_law0_r8 := goodIn_r _ [338, 339, 341, 342, 343, 344, 345, 346, 162, 163, 164, 165, 166, 24, 136, 234, 235, 236, 237, 238, 507, 508, 509, 510] (by decide +kernel) (by decide +kernel)
set_option maxRecDepth 40000 in
theorem wsL_law0_r9_g : GoodIn lw_tbl wsL_law0_r9 := goodIn_r _ [511, 512, 371, 372, 373, 374, 25, 513, 391, 392, 393, 42, 394, 395, 396, 397, 399, 400, 401, 402, 403, 404, 405, 406] (by decide +kernel) (by decide +kernel)
set_option maxRecDepth 40000 in
theorem wsL_law0_r10_g : GoodIn lw_tbl wsL_law0_r10 := goodIn_r _ [407, 408, 409, 410, 411, 412, 413, 414, 415, 416, 417, 418, 419, 420, 421, 514, 436, 437, 438, 107, 97, 95, 440, 441] (by decide +kernel) (by decide +kernel)
set_option maxRecDepth 40000 in
theorem wsL_law0_r11_g : GoodIn lw_tbl wsL_law0_r11 := goodIn_r _ [442, 443, 444, 445, 446, 447, 449, 450, 451, 452, 515, 516, 517, 518, 519, 520, 521, 522, 523, 524, 525, 49, 527, 529] (by decide +kernel) (by decide +kernel)
set_option maxRecDepth 40000 in
theorem wsL_law0_r12_g : GoodIn lw_tbl wsL_law0_r12 := goodIn_r _ [11, 530, 531, 532, 533, 534, 537, 538, 539, 540, 541, 542, 543, 544, 545, 547, 550, 551, 552, 553, 470, 471, 472, 473] (by decide +kernel) (by decide +kernel)
set_option maxRecDepth 40000 in
theorem wsL_law0_r13_g : GoodIn lw_tbl wsL_law0_r13 := goodIn_r _ [475, 476, 477, 478, 554, 555, 556, 557, 558, 559, 560, 561, 562, 564, 565, 566, 567, 569, 570, 571, 574, 572, 454, 455] (by decide +kernel) (by decide +kernel)
set_option maxRecDepth 40000 in
theorem wsL_law0_r14_g : GoodIn lw_tbl wsL_law0_r14 := goodIn_r _ [456, 99, 573, 494, 495, 496, 497, 575, 481, 482, 483, 363, 364, 365, 366, 367, 368, 465, 69, 68, 369, 370, 390, 423] (by decide +kernel) (by decide +kernel)
set_option maxRecDepth 40000 in
theorem wsL_law0_r15_g : GoodIn lw_tbl wsL_law0_r15 := goodIn_r _ [424, 425, 426, 427, 428, 429, 430, 431, 432, 433, 434, 435, 453, 458, 459, 460, 461, 462, 464, 466, 467, 468, 469, 480] (by decide +kernel) (by decide +kernel)
set_option maxRecDepth 40000 in
theorem wsL_law0_r16_g : GoodIn lw_tbl wsL_law0_r16 := goodIn_r _ [485, 486, 487, 488, 489, 490, 491, 492, 493, 498, 499, 500, 501, 502, 503] (by decide +kernel) (by decide +kernel)
set_option maxRecDepth 40000 in
theorem wsX30_lg : GoodIn lw_tbl wsX30 := goodIn_of _ (by decide +kernel)
set_option maxRecDepth 40000 in
theorem wsX20_lg : GoodIn lw_tbl wsX20 := goodIn_of _ (by decide +kernel)
set_option maxRecDepth 40000 in
theorem wsX10_lg : GoodIn lw_tbl wsX10 := goodIn_of _ (by decide +kernel)
set_option maxRecDepth 40000 in
theorem wsX00_lg : GoodIn lw_tbl wsX00 := goodIn_of _ (by decide +kernel)
theorem wsL_law_g0 : GoodIn lw_tbl wsL_law0 := goodIn_app (goodIn_app (goodIn_app (goodIn_app (goodIn_app ((goodIn_app wsL_law0_r1_g (goodIn_app wsL_law0_r2_g (goodIn_app wsL_law0_r3_g (goodIn_app wsL_law0_r4_g (goodIn_app wsL_law0_r5_g (goodIn_app wsL_law0_r6_g (goodIn_app wsL_law0_r7_g (goodIn_app wsL_law0_r8_g (goodIn_app wsL_law0_r9_g (goodIn_app wsL_law0_r10_g (goodIn_app wsL_law0_r11_g (goodIn_app wsL_law0_r12_g (goodIn_app wsL_law0_r13_g (goodIn_app wsL_law0_r14_g (goodIn_app wsL_law0_r15_g (wsL_law0_r16_g))))))))))))))))) wsX30_lg) wsX20_lg) wsX10_lg) wsX00_lg) (fun _ h => absurd h List.not_mem_nil)
theorem wsL_law_in0 : ∀ w ∈ wsL_law0, w ∈ lw_tbl := fun w h => (wsL_law_g0 w h).1
theorem wsL_law_x0 : ∀ w ∈ (vx_atS RX3 45 "java/lang/IllegalArgumentException" ["java/lang/RuntimeException", "java/lang/Exception"]).filter goodWord, w ∈ lw_tbl := by decide +kernel
theorem wsL_law_x1 : ∀ w ∈ (vx_atS RX3 67 "java/lang/IllegalStateException" ["java/lang/RuntimeException", "java/lang/Exception"]).filter goodWord, w ∈ lw_tbl := by decide +kernel
theorem wsL_law_x2 : ∀ w ∈ (vx_atS RX3 80 "java/lang/IndexOutOfBoundsException" ["java/lang/RuntimeException", "java/lang/Exception"]).filter goodWord, w ∈ lw_tbl := by decide +kernel
theorem wsL_law_in : ∀ w ∈ wsL_law, w ∈ lw_tbl := fun w h => (List.mem_append.mp h).elim (fun h => (List.mem_append.mp h).elim (fun h => (List.mem_append.mp h).elim (fun h => wsL_law_in0 w h) (fun h => wsL_law_x0 w h)) (fun h => wsL_law_x1 w h)) (fun h => wsL_law_x2 w h)
