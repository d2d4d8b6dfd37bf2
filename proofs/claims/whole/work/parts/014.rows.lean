set_option maxRecDepth 40000 in
theorem ggL_law_X4_borne_p3 : GoodIn wsL_law ((ggL_law_X4_borne_l.drop 90).take 25) := goodIn_r _ [758, 759, 59, 760, 761, 762, 763, 837, 838, 839, 840, 841, 842, 843, 844, 845, 846, 847, 848, 849, 850, 851, 852, 853, 854] (by decide +kernel) (by decide +kernel)
theorem ggL_law_X4_borne_a : GoodIn wsL_law ggL_law_X4_borne_l := goodIn_all 115 (by decide +kernel) (goodIn_ch 90 25 (goodIn_ch 60 30 (goodIn_ch 30 30 (goodIn_ch 0 30 goodIn_0 ggL_law_X4_borne_p0) ggL_law_X4_borne_p1) ggL_law_X4_borne_p2) ggL_law_X4_borne_p3)
set_option maxRecDepth 40000 in
theorem ggL_law_X4_borne : GoodIn wsL_law wsX4_borne := ggL_law_X4_borne_a
set_option maxRecDepth 20000 in
theorem gL_law_X4_borne : GoodIn wsL_law (wsV RL 171 RX4 yX4_borne wsX4_borne) := goodIn_app (goodIn_of _ (by decide +kernel)) ggL_law_X4_borne
set_option maxRecDepth 20000 in
theorem ggL_law_X3_unsureShare : GoodIn wsL_law wsX3_unsureShare := goodIn_r _ [767, 16, 80, 768, 655, 218, 219, 15, 220, 98, 221, 222, 223, 224, 225, 226, 227, 169, 170, 171, 172, 432, 134, 135, 136, 34, 137, 35, 138, 139, 828, 829, 830, 831, 832, 833, 834, 835, 836, 855, 856, 857, 858] (by decide +kernel) (by decide +kernel)
set_option maxRecDepth 20000 in
theorem gL_law_X3_unsureShare : GoodIn wsL_law (wsV RL 172 RX3 yX3_unsureShare wsX3_unsureShare) := goodIn_app (goodIn_of _ (by decide +kernel)) ggL_law_X3_unsureShare
set_option maxRecDepth 20000 in
theorem ggL_law_X4_unsureShare : GoodIn wsL_law wsX4_unsureShare := goodIn_r _ [772, 68, 773, 774, 775, 5, 776, 58, 777, 181, 182, 183, 184, 148, 149, 150, 151, 152, 153, 154, 262, 263, 264, 265, 837, 838, 839, 840, 841, 842, 843, 844, 845, 846, 847, 848, 849, 850, 851, 852, 853, 854] (by decide +kernel) (by decide +kernel)
set_option maxRecDepth 20000 in
theorem gL_law_X4_unsureShare : GoodIn wsL_law (wsV RL 176 RX4 yX4_unsureShare wsX4_unsureShare) := goodIn_app (goodIn_of _ (by decide +kernel)) ggL_law_X4_unsureShare
def ggL_law_X3_digest_l : List Cond := (Cond.code yX3_digest cX3_digest 5 (some .long) :: ((wsX3_digest_r1 ++ (wsX3_digest_r2 ++ (wsX3_digest_r3 ++ (wsX3_digest_r4 ++ (wsX3_digest_r5 ++ (wsX3_digest_r6 ++ (wsX3_digest_r7 ++ (wsX3_digest_r8 ++ (wsX3_digest_r9 ++ (wsX3_digest_r10 ++ wsX3_digest_r11)))))))))) ++ wsX30 ++ wsX20 ++ wsX10 ++ wsX00))
set_option maxRecDepth 40000 in
theorem ggL_law_X3_digest_p0 : GoodIn wsL_law ((ggL_law_X3_digest_l.drop 0).take 30) := goodIn_r _ [781, 782, 783, 16, 80, 784, 21, 334, 335, 785, 652, 653, 2, 654, 78, 79, 619, 88, 655, 218, 219, 15, 220, 98, 221, 222, 223, 224, 225, 226] (by decide +kernel) (by decide +kernel)
set_option maxRecDepth 40000 in
theorem ggL_law_X3_digest_p1 : GoodIn wsL_law ((ggL_law_X3_digest_l.drop 30).take 30) := goodIn_r _ [227, 656, 214, 215, 216, 217, 228, 229, 230, 231, 34, 232, 233, 234, 235, 657, 658, 659, 660, 661, 35, 33, 662, 663, 664, 665, 666, 307, 308, 489] (by decide +kernel) (by decide +kernel)
set_option maxRecDepth 40000 in
theorem ggL_law_X3_digest_p2 : GoodIn wsL_law ((ggL_law_X3_digest_l.drop 60).take 30) := goodIn_r _ [490, 491, 492, 89, 27, 194, 493, 494, 495, 26, 496, 497, 498, 45, 499, 500, 47, 48, 501, 49, 502, 170, 171, 172, 503, 504, 505, 506, 507, 508] (by decide +kernel) (by decide +kernel)
set_option maxRecDepth 40000 in
theorem ggL_law_X3_digest_p3 : GoodIn wsL_law ((ggL_law_X3_digest_l.drop 90).take 30) := goodIn_r _ [509, 510, 511, 46, 512, 95, 96, 97, 513, 514, 515, 516, 247, 248, 249, 517, 518, 519, 520, 521, 522, 523, 524, 52, 53, 525, 526, 527, 528, 529] (by decide +kernel) (by decide +kernel)
set_option maxRecDepth 40000 in
theorem ggL_law_X3_digest_p4 : GoodIn wsL_law ((ggL_law_X3_digest_l.drop 120).take 30) := goodIn_r _ [530, 531, 532, 533, 534, 535, 536, 537, 538, 539, 540, 51, 541, 542, 543, 544, 545, 546, 246, 240, 241, 667, 668, 669, 670, 786, 691, 692, 693, 163] (by decide +kernel) (by decide +kernel)
set_option maxRecDepth 40000 in
theorem ggL_law_X3_digest_p5 : GoodIn wsL_law ((ggL_law_X3_digest_l.drop 150).take 30) := goodIn_r _ [164, 787, 429, 430, 431, 82, 165, 166, 167, 168, 169, 432, 134, 135, 136, 137, 138, 139, 129, 130, 131, 132, 133, 433, 434, 435, 436, 437, 438, 439] (by decide +kernel) (by decide +kernel)
set_option maxRecDepth 40000 in
theorem ggL_law_X3_digest_p6 : GoodIn wsL_law ((ggL_law_X3_digest_l.drop 180).take 30) := goodIn_r _ [440, 441, 213, 788, 633, 634, 635, 636, 637, 638, 639, 789, 702, 703, 704, 28, 790, 483, 484, 485, 486, 487, 488, 547, 548, 549, 550, 242, 243, 244] (by decide +kernel) (by decide +kernel)
set_option maxRecDepth 40000 in
theorem ggL_law_X3_digest_p7 : GoodIn wsL_law ((ggL_law_X3_digest_l.drop 210).take 30) := goodIn_r _ [245, 551, 552, 553, 554, 791, 616, 617, 618, 620, 792, 458, 459, 460, 461, 462, 793, 472, 473, 474, 209, 210, 211, 212, 236, 237, 238, 239, 794, 721] (by decide +kernel) (by decide +kernel)
set_option maxRecDepth 40000 in
theorem ggL_law_X3_digest_p8 : GoodIn wsL_law ((ggL_law_X3_digest_l.drop 240).take 30) := goodIn_r _ [722, 723, 795, 733, 734, 735, 796, 745, 746, 747, 797, 765, 766, 767, 768, 798, 799, 800, 801, 802, 803, 828, 829, 830, 831, 832, 833, 834, 835, 836] (by decide +kernel) (by decide +kernel)
set_option maxRecDepth 40000 in
theorem ggL_law_X3_digest_p9 : GoodIn wsL_law ((ggL_law_X3_digest_l.drop 270).take 22) := goodIn_r _ [855, 856, 857, 858, 859, 860, 861, 862, 863, 864, 865, 866, 867, 868, 869, 870, 871, 872, 873, 874, 875, 876] (by decide +kernel) (by decide +kernel)
theorem ggL_law_X3_digest_a : GoodIn wsL_law ggL_law_X3_digest_l := goodIn_all 292 (by decide +kernel) (goodIn_ch 270 22 (goodIn_ch 240 30 (goodIn_ch 210 30 (goodIn_ch 180 30 (goodIn_ch 150 30 (goodIn_ch 120 30 (goodIn_ch 90 30 (goodIn_ch 60 30 (goodIn_ch 30 30 (goodIn_ch 0 30 goodIn_0 ggL_law_X3_digest_p0) ggL_law_X3_digest_p1) ggL_law_X3_digest_p2) ggL_law_X3_digest_p3) ggL_law_X3_digest_p4) ggL_law_X3_digest_p5) ggL_law_X3_digest_p6) ggL_law_X3_digest_p7) ggL_law_X3_digest_p8) ggL_law_X3_digest_p9)
set_option maxRecDepth 40000 in
theorem ggL_law_X3_digest : GoodIn wsL_law wsX3_digest := goodIn_ca (goodIn_ca (ggL_law_X3_digest_a) (goodIn_sub (fun _ h => List.mem_append_left _ (List.mem_append_left _ (List.mem_append_right _ h))) (by decide +kernel))) (goodIn_sub (fun _ h => List.mem_append_right _ h) (by decide +kernel))
set_option maxRecDepth 20000 in
theorem gL_law_X3_digest : GoodIn wsL_law (wsV RL 177 RX3 yX3_digest wsX3_digest) := goodIn_app (goodIn_of _ (by decide +kernel)) ggL_law_X3_digest
def ggL_law_X4_digest_l : List Cond := wsX4_digest
set_option maxRecDepth 40000 in
theorem ggL_law_X4_digest_p0 : GoodIn wsL_law ((ggL_law_X4_digest_l.drop 0).take 30) := goodIn_r _ [807, 68, 808, 809, 58, 810, 340, 61, 675, 676, 677, 5, 678, 567, 114, 262, 263, 264, 265, 181, 182, 183, 184, 258, 259, 260, 261, 266, 267, 268] (by decide +kernel) (by decide +kernel)
set_option maxRecDepth 40000 in
theorem ggL_law_X4_digest_p1 : GoodIn wsL_law ((ggL_law_X4_digest_l.drop 30).take 30) := goodIn_r _ [269, 679, 680, 681, 682, 313, 314, 315, 568, 569, 570, 571, 62, 63, 64, 65, 572, 573, 574, 575, 576, 577, 578, 579, 580, 581, 582, 583, 66, 584] (by decide +kernel) (by decide +kernel)
set_option maxRecDepth 40000 in
theorem ggL_law_X4_digest_p2 : GoodIn wsL_law ((ggL_law_X4_digest_l.drop 60).take 30) := goodIn_r _ [585, 586, 587, 282, 283, 284, 588, 589, 590, 591, 592, 593, 594, 595, 596, 597, 598, 599, 683, 684, 685, 686, 600, 601, 602, 603, 604, 605, 606, 607] (by decide +kernel) (by decide +kernel)
set_option maxRecDepth 40000 in
theorem ggL_law_X4_digest_p3 : GoodIn wsL_law ((ggL_law_X4_digest_l.drop 90).take 30) := goodIn_r _ [274, 275, 276, 277, 811, 812, 813, 814, 815, 446, 447, 448, 449, 148, 149, 150, 151, 152, 153, 154, 144, 145, 146, 147, 450, 451, 452, 453, 644, 645] (by decide +kernel) (by decide +kernel)
set_option maxRecDepth 40000 in
theorem ggL_law_X4_digest_p4 : GoodIn wsL_law ((ggL_law_X4_digest_l.drop 120).take 30) := goodIn_r _ [646, 647, 709, 710, 711, 712, 713, 714, 715, 716, 563, 564, 565, 566, 559, 560, 561, 562, 608, 609, 610, 611, 625, 626, 627, 628, 270, 271, 272, 273] (by decide +kernel) (by decide +kernel)
set_option maxRecDepth 40000 in
theorem ggL_law_X4_digest_p5 : GoodIn wsL_law ((ggL_law_X4_digest_l.drop 150).take 30) := goodIn_r _ [278, 279, 280, 281, 728, 729, 730, 731, 740, 741, 742, 743, 752, 753, 754, 755, 756, 757, 758, 759, 59, 760, 761, 762, 763, 773, 774, 775, 776, 777] (by decide +kernel) (by decide +kernel)
set_option maxRecDepth 40000 in
theorem ggL_law_X4_digest_p6 : GoodIn wsL_law ((ggL_law_X4_digest_l.drop 180).take 30) := goodIn_r _ [816, 817, 818, 819, 820, 821, 822, 823, 824, 825, 826, 827, 837, 838, 839, 840, 841, 842, 843, 844, 845, 846, 847, 848, 849, 850, 851, 852, 853, 854] (by decide +kernel) (by decide +kernel)
theorem ggL_law_X4_digest_a : GoodIn wsL_law ggL_law_X4_digest_l := goodIn_all 210 (by decide +kernel) (goodIn_ch 180 30 (goodIn_ch 150 30 (goodIn_ch 120 30 (goodIn_ch 90 30 (goodIn_ch 60 30 (goodIn_ch 30 30 (goodIn_ch 0 30 goodIn_0 ggL_law_X4_digest_p0) ggL_law_X4_digest_p1) ggL_law_X4_digest_p2) ggL_law_X4_digest_p3) ggL_law_X4_digest_p4) ggL_law_X4_digest_p5) ggL_law_X4_digest_p6)
set_option maxRecDepth 40000 in
theorem ggL_law_X4_digest : GoodIn wsL_law wsX4_digest := ggL_law_X4_digest_a
set_option maxRecDepth 20000 in
theorem gL_law_X4_digest : GoodIn wsL_law (wsV RL 181 RX4 yX4_digest wsX4_digest) := goodIn_app (goodIn_of _ (by decide +kernel)) ggL_law_X4_digest
theorem dL_law_0 : decode cL_law 0 = .ok (.new 8, 3) := by decide +kernel
theorem dL_law_3 : decode cL_law 3 = .ok (.dup, 1) := by decide +kernel
theorem dL_law_4 : decode cL_law 4 = .ok (.invokespecial 81, 3) := by decide +kernel
theorem dL_law_7 : decode cL_law 7 = .ok (.astore_n 1, 1) := by decide +kernel
theorem dL_law_8 : decode cL_law 8 = .ok (.new 82, 3) := by decide +kernel
theorem dL_law_11 : decode cL_law 11 = .ok (.dup, 1) := by decide +kernel
theorem dL_law_12 : decode cL_law 12 = .ok (.invokespecial 84, 3) := by decide +kernel
theorem dL_law_15 : decode cL_law 15 = .ok (.astore_n 2, 1) := by decide +kernel
theorem dL_law_16 : decode cL_law 16 = .ok (.iconst 1, 1) := by decide +kernel
theorem dL_law_17 : decode cL_law 17 = .ok (.newarray .long, 2) := by decide +kernel
theorem dL_law_19 : decode cL_law 19 = .ok (.astore_n 3, 1) := by decide +kernel
theorem dL_law_20 : decode cL_law 20 = .ok (.iconst 0, 1) := by decide +kernel
theorem dL_law_21 : decode cL_law 21 = .ok (.istore 4, 2) := by decide +kernel
theorem dL_law_23 : decode cL_law 23 = .ok (.iload 4, 2) := by decide +kernel
theorem dL_law_25 : decode cL_law 25 = .ok (.aload_n 0, 1) := by decide +kernel
theorem dL_law_26 : decode cL_law 26 = .ok (.arraylength, 1) := by decide +kernel
theorem dL_law_27 : decode cL_law 27 = .ok (.iconst 3, 1) := by decide +kernel
theorem dL_law_28 : decode cL_law 28 = .ok (.isub, 1) := by decide +kernel
theorem dL_law_29 : decode cL_law 29 = .ok (.if_icmp .gt 1444, 3) := by decide +kernel
theorem dL_law_32 : decode cL_law 32 = .ok (.aload_n 0, 1) := by decide +kernel
theorem dL_law_33 : decode cL_law 33 = .ok (.iload 4, 2) := by decide +kernel
theorem dL_law_35 : decode cL_law 35 = .ok (.iaload, 1) := by decide +kernel
theorem dL_law_36 : decode cL_law 36 = .ok (.bipush 31, 2) := by decide +kernel
theorem dL_law_38 : decode cL_law 38 = .ok (.iand, 1) := by decide +kernel
theorem dL_law_39 : decode cL_law 39 = .ok (.tableswitch 1428 0 26 #[121, 177, 233, 289, 357, 413, 481, 537, 593, 649, 662, 675, 719, 763, 831, 887, 943, 999, 1067, 1123, 1179, 1235, 1291, 1347, 1360, 1373, 1414], 121) := by decide +kernel
theorem dL_law_160 : decode cL_law 160 = .ok (.aload_n 1, 1) := by decide +kernel
theorem dL_law_161 : decode cL_law 161 = .ok (.aload_n 0, 1) := by decide +kernel
theorem dL_law_162 : decode cL_law 162 = .ok (.iload 4, 2) := by decide +kernel
theorem dL_law_164 : decode cL_law 164 = .ok (.iconst 1, 1) := by decide +kernel
theorem dL_law_165 : decode cL_law 165 = .ok (.iadd, 1) := by decide +kernel
theorem dL_law_166 : decode cL_law 166 = .ok (.iaload, 1) := by decide +kernel
theorem dL_law_167 : decode cL_law 167 = .ok (.aload_n 3, 1) := by decide +kernel
theorem dL_law_168 : decode cL_law 168 = .ok (.invokestatic 85, 3) := by decide +kernel
theorem dL_law_171 : decode cL_law 171 = .ok (.istore 5, 2) := by decide +kernel
theorem dL_law_173 : decode cL_law 173 = .ok (.aload_n 2, 1) := by decide +kernel
theorem dL_law_174 : decode cL_law 174 = .ok (.aload_n 0, 1) := by decide +kernel
theorem dL_law_175 : decode cL_law 175 = .ok (.iload 4, 2) := by decide +kernel
theorem dL_law_177 : decode cL_law 177 = .ok (.iconst 1, 1) := by decide +kernel
theorem dL_law_178 : decode cL_law 178 = .ok (.iadd, 1) := by decide +kernel
theorem dL_law_179 : decode cL_law 179 = .ok (.iaload, 1) := by decide +kernel
theorem dL_law_180 : decode cL_law 180 = .ok (.invokevirtual 90, 3) := by decide +kernel
theorem dL_law_183 : decode cL_law 183 = .ok (.istore 6, 2) := by decide +kernel
theorem dL_law_185 : decode cL_law 185 = .ok (.aload_n 2, 1) := by decide +kernel
theorem dL_law_186 : decode cL_law 186 = .ok (.invokevirtual 91, 3) := by decide +kernel
theorem dL_law_189 : decode cL_law 189 = .ok (.iload 5, 2) := by decide +kernel
theorem dL_law_191 : decode cL_law 191 = .ok (.if_icmp .eq 5, 3) := by decide +kernel
theorem dL_law_194 : decode cL_law 194 = .ok (.iconst 0, 1) := by decide +kernel
theorem dL_law_195 : decode cL_law 195 = .ok (.ireturn, 1) := by decide +kernel
theorem dL_law_196 : decode cL_law 196 = .ok (.iload 5, 2) := by decide +kernel
theorem dL_law_198 : decode cL_law 198 = .ok (.ifCond .ne 15, 3) := by decide +kernel
theorem dL_law_201 : decode cL_law 201 = .ok (.aload_n 3, 1) := by decide +kernel
theorem dL_law_202 : decode cL_law 202 = .ok (.iconst 0, 1) := by decide +kernel
theorem dL_law_203 : decode cL_law 203 = .ok (.laload, 1) := by decide +kernel
theorem dL_law_204 : decode cL_law 204 = .ok (.iload 6, 2) := by decide +kernel
theorem dL_law_206 : decode cL_law 206 = .ok (.i2l, 1) := by decide +kernel
theorem dL_law_207 : decode cL_law 207 = .ok (.lcmp, 1) := by decide +kernel
theorem dL_law_208 : decode cL_law 208 = .ok (.ifCond .eq 5, 3) := by decide +kernel
theorem dL_law_211 : decode cL_law 211 = .ok (.iconst 0, 1) := by decide +kernel
theorem dL_law_212 : decode cL_law 212 = .ok (.ireturn, 1) := by decide +kernel
theorem dL_law_213 : decode cL_law 213 = .ok (.goto 1254, 3) := by decide +kernel
theorem dL_law_216 : decode cL_law 216 = .ok (.aload_n 1, 1) := by decide +kernel
theorem dL_law_217 : decode cL_law 217 = .ok (.aload_n 0, 1) := by decide +kernel
theorem dL_law_218 : decode cL_law 218 = .ok (.iload 4, 2) := by decide +kernel
theorem dL_law_220 : decode cL_law 220 = .ok (.iconst 1, 1) := by decide +kernel
theorem dL_law_221 : decode cL_law 221 = .ok (.iadd, 1) := by decide +kernel
theorem dL_law_222 : decode cL_law 222 = .ok (.iaload, 1) := by decide +kernel
theorem dL_law_223 : decode cL_law 223 = .ok (.aload_n 3, 1) := by decide +kernel
theorem dL_law_224 : decode cL_law 224 = .ok (.invokestatic 94, 3) := by decide +kernel
theorem dL_law_227 : decode cL_law 227 = .ok (.istore 5, 2) := by decide +kernel
theorem dL_law_229 : decode cL_law 229 = .ok (.aload_n 2, 1) := by decide +kernel
theorem dL_law_230 : decode cL_law 230 = .ok (.aload_n 0, 1) := by decide +kernel
theorem dL_law_231 : decode cL_law 231 = .ok (.iload 4, 2) := by decide +kernel
theorem dL_law_233 : decode cL_law 233 = .ok (.iconst 1, 1) := by decide +kernel
theorem dL_law_234 : decode cL_law 234 = .ok (.iadd, 1) := by decide +kernel
theorem dL_law_235 : decode cL_law 235 = .ok (.iaload, 1) := by decide +kernel
theorem dL_law_236 : decode cL_law 236 = .ok (.invokevirtual 96, 3) := by decide +kernel
theorem dL_law_239 : decode cL_law 239 = .ok (.istore 6, 2) := by decide +kernel
theorem dL_law_241 : decode cL_law 241 = .ok (.aload_n 2, 1) := by decide +kernel
theorem dL_law_242 : decode cL_law 242 = .ok (.invokevirtual 91, 3) := by decide +kernel
theorem dL_law_245 : decode cL_law 245 = .ok (.iload 5, 2) := by decide +kernel
theorem dL_law_247 : decode cL_law 247 = .ok (.if_icmp .eq 5, 3) := by decide +kernel
theorem dL_law_250 : decode cL_law 250 = .ok (.iconst 0, 1) := by decide +kernel
theorem dL_law_251 : decode cL_law 251 = .ok (.ireturn, 1) := by decide +kernel
theorem dL_law_252 : decode cL_law 252 = .ok (.iload 5, 2) := by decide +kernel
theorem dL_law_254 : decode cL_law 254 = .ok (.ifCond .ne 15, 3) := by decide +kernel
theorem dL_law_257 : decode cL_law 257 = .ok (.aload_n 3, 1) := by decide +kernel
theorem dL_law_258 : decode cL_law 258 = .ok (.iconst 0, 1) := by decide +kernel
theorem dL_law_259 : decode cL_law 259 = .ok (.laload, 1) := by decide +kernel
theorem dL_law_260 : decode cL_law 260 = .ok (.iload 6, 2) := by decide +kernel
theorem dL_law_262 : decode cL_law 262 = .ok (.i2l, 1) := by decide +kernel
theorem dL_law_263 : decode cL_law 263 = .ok (.lcmp, 1) := by decide +kernel
theorem dL_law_264 : decode cL_law 264 = .ok (.ifCond .eq 5, 3) := by decide +kernel
theorem dL_law_267 : decode cL_law 267 = .ok (.iconst 0, 1) := by decide +kernel
theorem dL_law_268 : decode cL_law 268 = .ok (.ireturn, 1) := by decide +kernel
theorem dL_law_269 : decode cL_law 269 = .ok (.goto 1198, 3) := by decide +kernel
theorem dL_law_272 : decode cL_law 272 = .ok (.aload_n 1, 1) := by decide +kernel
theorem dL_law_273 : decode cL_law 273 = .ok (.aload_n 0, 1) := by decide +kernel
theorem dL_law_274 : decode cL_law 274 = .ok (.iload 4, 2) := by decide +kernel
theorem dL_law_276 : decode cL_law 276 = .ok (.iconst 1, 1) := by decide +kernel
theorem dL_law_277 : decode cL_law 277 = .ok (.iadd, 1) := by decide +kernel
theorem dL_law_278 : decode cL_law 278 = .ok (.iaload, 1) := by decide +kernel
theorem dL_law_279 : decode cL_law 279 = .ok (.aload_n 3, 1) := by decide +kernel
theorem dL_law_280 : decode cL_law 280 = .ok (.invokestatic 97, 3) := by decide +kernel
theorem dL_law_283 : decode cL_law 283 = .ok (.istore 5, 2) := by decide +kernel
theorem dL_law_285 : decode cL_law 285 = .ok (.aload_n 2, 1) := by decide +kernel
theorem dL_law_286 : decode cL_law 286 = .ok (.aload_n 0, 1) := by decide +kernel
theorem dL_law_287 : decode cL_law 287 = .ok (.iload 4, 2) := by decide +kernel
theorem dL_law_289 : decode cL_law 289 = .ok (.iconst 1, 1) := by decide +kernel
theorem dL_law_290 : decode cL_law 290 = .ok (.iadd, 1) := by decide +kernel
theorem dL_law_291 : decode cL_law 291 = .ok (.iaload, 1) := by decide +kernel
theorem dL_law_292 : decode cL_law 292 = .ok (.invokevirtual 99, 3) := by decide +kernel
theorem dL_law_295 : decode cL_law 295 = .ok (.istore 6, 2) := by decide +kernel
theorem dL_law_297 : decode cL_law 297 = .ok (.aload_n 2, 1) := by decide +kernel
theorem dL_law_298 : decode cL_law 298 = .ok (.invokevirtual 91, 3) := by decide +kernel
theorem dL_law_301 : decode cL_law 301 = .ok (.iload 5, 2) := by decide +kernel
theorem dL_law_303 : decode cL_law 303 = .ok (.if_icmp .eq 5, 3) := by decide +kernel
theorem dL_law_306 : decode cL_law 306 = .ok (.iconst 0, 1) := by decide +kernel
theorem dL_law_307 : decode cL_law 307 = .ok (.ireturn, 1) := by decide +kernel
theorem dL_law_308 : decode cL_law 308 = .ok (.iload 5, 2) := by decide +kernel
theorem dL_law_310 : decode cL_law 310 = .ok (.ifCond .ne 15, 3) := by decide +kernel
theorem dL_law_313 : decode cL_law 313 = .ok (.aload_n 3, 1) := by decide +kernel
theorem dL_law_314 : decode cL_law 314 = .ok (.iconst 0, 1) := by decide +kernel
theorem dL_law_315 : decode cL_law 315 = .ok (.laload, 1) := by decide +kernel
theorem dL_law_316 : decode cL_law 316 = .ok (.iload 6, 2) := by decide +kernel
theorem dL_law_318 : decode cL_law 318 = .ok (.i2l, 1) := by decide +kernel
theorem dL_law_319 : decode cL_law 319 = .ok (.lcmp, 1) := by decide +kernel
theorem dL_law_320 : decode cL_law 320 = .ok (.ifCond .eq 5, 3) := by decide +kernel
theorem dL_law_323 : decode cL_law 323 = .ok (.iconst 0, 1) := by decide +kernel
theorem dL_law_324 : decode cL_law 324 = .ok (.ireturn, 1) := by decide +kernel
theorem dL_law_325 : decode cL_law 325 = .ok (.goto 1142, 3) := by decide +kernel
theorem dL_law_328 : decode cL_law 328 = .ok (.aload_n 1, 1) := by decide +kernel
theorem dL_law_329 : decode cL_law 329 = .ok (.aload_n 0, 1) := by decide +kernel
theorem dL_law_330 : decode cL_law 330 = .ok (.iload 4, 2) := by decide +kernel
theorem dL_law_332 : decode cL_law 332 = .ok (.iconst 1, 1) := by decide +kernel
theorem dL_law_333 : decode cL_law 333 = .ok (.iadd, 1) := by decide +kernel
theorem dL_law_334 : decode cL_law 334 = .ok (.iaload, 1) := by decide +kernel
theorem dL_law_335 : decode cL_law 335 = .ok (.aload_n 0, 1) := by decide +kernel
theorem dL_law_336 : decode cL_law 336 = .ok (.iload 4, 2) := by decide +kernel
theorem dL_law_338 : decode cL_law 338 = .ok (.iconst 2, 1) := by decide +kernel
theorem dL_law_339 : decode cL_law 339 = .ok (.iadd, 1) := by decide +kernel
theorem dL_law_340 : decode cL_law 340 = .ok (.iaload, 1) := by decide +kernel
theorem dL_law_341 : decode cL_law 341 = .ok (.aload_n 3, 1) := by decide +kernel
theorem dL_law_342 : decode cL_law 342 = .ok (.invokestatic 100, 3) := by decide +kernel
theorem dL_law_345 : decode cL_law 345 = .ok (.istore 5, 2) := by decide +kernel
theorem dL_law_347 : decode cL_law 347 = .ok (.aload_n 2, 1) := by decide +kernel
theorem dL_law_348 : decode cL_law 348 = .ok (.aload_n 0, 1) := by decide +kernel
theorem dL_law_349 : decode cL_law 349 = .ok (.iload 4, 2) := by decide +kernel
theorem dL_law_351 : decode cL_law 351 = .ok (.iconst 1, 1) := by decide +kernel
theorem dL_law_352 : decode cL_law 352 = .ok (.iadd, 1) := by decide +kernel
theorem dL_law_353 : decode cL_law 353 = .ok (.iaload, 1) := by decide +kernel
theorem dL_law_354 : decode cL_law 354 = .ok (.aload_n 0, 1) := by decide +kernel
theorem dL_law_355 : decode cL_law 355 = .ok (.iload 4, 2) := by decide +kernel
theorem dL_law_357 : decode cL_law 357 = .ok (.iconst 2, 1) := by decide +kernel
theorem dL_law_358 : decode cL_law 358 = .ok (.iadd, 1) := by decide +kernel
theorem dL_law_359 : decode cL_law 359 = .ok (.iaload, 1) := by decide +kernel
theorem dL_law_360 : decode cL_law 360 = .ok (.invokevirtual 103, 3) := by decide +kernel
theorem dL_law_363 : decode cL_law 363 = .ok (.istore 6, 2) := by decide +kernel
theorem dL_law_365 : decode cL_law 365 = .ok (.aload_n 2, 1) := by decide +kernel
theorem dL_law_366 : decode cL_law 366 = .ok (.invokevirtual 91, 3) := by decide +kernel
theorem dL_law_369 : decode cL_law 369 = .ok (.iload 5, 2) := by decide +kernel
theorem dL_law_371 : decode cL_law 371 = .ok (.if_icmp .eq 5, 3) := by decide +kernel
theorem dL_law_374 : decode cL_law 374 = .ok (.iconst 0, 1) := by decide +kernel
theorem dL_law_375 : decode cL_law 375 = .ok (.ireturn, 1) := by decide +kernel
theorem dL_law_376 : decode cL_law 376 = .ok (.iload 5, 2) := by decide +kernel
theorem dL_law_378 : decode cL_law 378 = .ok (.ifCond .ne 15, 3) := by decide +kernel
theorem dL_law_381 : decode cL_law 381 = .ok (.aload_n 3, 1) := by decide +kernel
theorem dL_law_382 : decode cL_law 382 = .ok (.iconst 0, 1) := by decide +kernel
theorem dL_law_383 : decode cL_law 383 = .ok (.laload, 1) := by decide +kernel
theorem dL_law_384 : decode cL_law 384 = .ok (.iload 6, 2) := by decide +kernel
theorem dL_law_386 : decode cL_law 386 = .ok (.i2l, 1) := by decide +kernel
theorem dL_law_387 : decode cL_law 387 = .ok (.lcmp, 1) := by decide +kernel
theorem dL_law_388 : decode cL_law 388 = .ok (.ifCond .eq 5, 3) := by decide +kernel
theorem dL_law_391 : decode cL_law 391 = .ok (.iconst 0, 1) := by decide +kernel
theorem dL_law_392 : decode cL_law 392 = .ok (.ireturn, 1) := by decide +kernel
theorem dL_law_393 : decode cL_law 393 = .ok (.goto 1074, 3) := by decide +kernel
theorem dL_law_396 : decode cL_law 396 = .ok (.aload_n 1, 1) := by decide +kernel
theorem dL_law_397 : decode cL_law 397 = .ok (.aload_n 0, 1) := by decide +kernel
theorem dL_law_398 : decode cL_law 398 = .ok (.iload 4, 2) := by decide +kernel
theorem dL_law_400 : decode cL_law 400 = .ok (.iconst 1, 1) := by decide +kernel
theorem dL_law_401 : decode cL_law 401 = .ok (.iadd, 1) := by decide +kernel
theorem dL_law_402 : decode cL_law 402 = .ok (.iaload, 1) := by decide +kernel
theorem dL_law_403 : decode cL_law 403 = .ok (.aload_n 3, 1) := by decide +kernel
theorem dL_law_404 : decode cL_law 404 = .ok (.invokestatic 104, 3) := by decide +kernel
theorem dL_law_407 : decode cL_law 407 = .ok (.istore 5, 2) := by decide +kernel
theorem dL_law_409 : decode cL_law 409 = .ok (.aload_n 2, 1) := by decide +kernel
theorem dL_law_410 : decode cL_law 410 = .ok (.aload_n 0, 1) := by decide +kernel
theorem dL_law_411 : decode cL_law 411 = .ok (.iload 4, 2) := by decide +kernel
theorem dL_law_413 : decode cL_law 413 = .ok (.iconst 1, 1) := by decide +kernel
theorem dL_law_414 : decode cL_law 414 = .ok (.iadd, 1) := by decide +kernel
