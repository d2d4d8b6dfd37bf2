set_option maxRecDepth 40000 in
theorem wsL_law0_r1_g : GoodIn lw_tbl wsL_law0_r1 := goodIn_r _ [77, 78, 62, 731, 732, 66, 1117, 79, 80, 81, 82, 83, 84, 85, 86, 63, 191, 192, 112, 113, 64, 195, 110, 196] (by decide +kernel) (by decide +kernel)
set_option maxRecDepth 40000 in
theorem wsL_law0_r2_g : GoodIn lw_tbl wsL_law0_r2 := goodIn_r _ [142, 143, 65, 197, 199, 87, 88, 89, 90, 91, 94, 96, 115, 116, 117, 141, 118, 122, 145, 146, 147, 148, 149, 150] (by decide +kernel) (by decide +kernel)
set_option maxRecDepth 40000 in
theorem wsL_law0_r3_g : GoodIn lw_tbl wsL_law0_r3 := goodIn_r _ [151, 153, 190, 155, 157, 158, 733, 734, 735, 736, 738, 739, 740, 742, 744, 745, 747, 748, 749, 752, 737, 570, 571, 61] (by decide +kernel) (by decide +kernel)
set_option maxRecDepth 40000 in
theorem wsL_law0_r4_g : GoodIn lw_tbl wsL_law0_r4 := goodIn_r _ [572, 573, 574, 575, 576, 577, 386, 70, 98, 100, 93, 579, 581, 15, 582, 193, 194, 198, 583, 584, 585, 586, 587, 273] (by decide +kernel) (by decide +kernel)
set_option maxRecDepth 40000 in
theorem wsL_law0_r5_g : GoodIn lw_tbl wsL_law0_r5 := goodIn_r _ [272, 71, 99, 796, 797, 798, 799, 800, 801, 802, 803, 805, 16, 806, 807, 809, 17, 810, 741, 792, 793, 794, 795, 588] (by decide +kernel) (by decide +kernel)
set_option maxRecDepth 40000 in
theorem wsL_law0_r6_g : GoodIn lw_tbl wsL_law0_r6 := goodIn_r _ [589, 590, 591, 592, 593, 594, 595, 597, 72, 483, 484, 485, 486, 487, 348, 349, 350, 351, 352, 353, 811, 812, 813, 814] (by decide +kernel) (by decide +kernel)
set_option maxRecDepth 40000 in
theorem wsL_law0_r7_g : GoodIn lw_tbl wsL_law0_r7 := goodIn_r _ [815, 817, 18, 818, 819, 821, 19, 822, 823, 824, 825, 613, 614, 615, 616, 617, 618, 619, 620, 458, 73, 478, 479, 480] (by decide +kernel) (by decide +kernel)
set_option maxRecDepth 40000 in
theorem wsL_law0_r8_g : GoodIn lw_tbl wsL_law0_r8 := goodIn_r _ [481, 346, 260, 261, 262, 826, 827, 828, 829, 830, 832, 20, 833, 834, 836, 21, 837, 621, 622, 623, 624, 625, 626, 627] (by decide +kernel) (by decide +kernel)
set_option maxRecDepth 40000 in
theorem wsL_law0_r9_g : GoodIn lw_tbl wsL_law0_r9 := goodIn_r _ [628, 630, 95, 838, 839, 840, 841, 842, 843, 844, 633, 634, 635, 636, 637, 638, 639, 546, 547, 548, 549, 497, 308, 309] (by decide +kernel) (by decide +kernel)
set_option maxRecDepth 40000 in
theorem wsL_law0_r10_g : GoodIn lw_tbl wsL_law0_r10 := goodIn_r _ [310, 311, 312, 313, 314, 315, 316, 74, 317, 318, 319, 320, 321, 322, 323, 324, 325, 326, 75, 327, 551, 552, 553, 554] (by decide +kernel) (by decide +kernel)
set_option maxRecDepth 40000 in
theorem wsL_law0_r11_g : GoodIn lw_tbl wsL_law0_r11 := goodIn_r _ [335, 336, 520, 521, 522, 523, 333, 279, 280, 281, 845, 846, 847, 848, 849, 851, 22, 852, 853, 855, 23, 856, 857, 859] (by decide +kernel) (by decide +kernel)
set_option maxRecDepth 40000 in
theorem wsL_law0_r12_g : GoodIn lw_tbl wsL_law0_r12 := goodIn_r _ [24, 860, 861, 863, 25, 864, 865, 867, 26, 868, 869, 871, 27, 872, 873, 875, 28, 876, 877, 878, 879, 640, 641, 642] (by decide +kernel) (by decide +kernel)
set_option maxRecDepth 40000 in
theorem wsL_law0_r13_g : GoodIn lw_tbl wsL_law0_r13 := goodIn_r _ [643, 644, 645, 646, 880, 881, 882, 883, 884, 885, 886, 648, 649, 650, 651, 652, 653, 654, 655, 376, 377, 887, 888, 889] (by decide +kernel) (by decide +kernel)
set_option maxRecDepth 40000 in
theorem wsL_law0_r14_g : GoodIn lw_tbl wsL_law0_r14 := goodIn_r _ [890, 891, 892, 893, 656, 657, 658, 659, 660, 661, 662, 894, 895, 896, 897, 664, 665, 666, 667, 668, 669, 670, 121, 119] (by decide +kernel) (by decide +kernel)
set_option maxRecDepth 40000 in
theorem wsL_law0_r15_g : GoodIn lw_tbl wsL_law0_r15 := goodIn_r _ [898, 899, 900, 901, 743, 219, 220, 221, 222, 902, 903, 904, 905, 223, 224, 225, 226, 227, 228, 229, 230, 124, 126, 127] (by decide +kernel) (by decide +kernel)
set_option maxRecDepth 40000 in
theorem wsL_law0_r16_g : GoodIn lw_tbl wsL_law0_r16 := goodIn_r _ [120, 231, 233, 0, 234, 235, 237, 1, 238, 239, 240, 241, 242, 243, 245, 2, 246, 247, 249, 3, 250, 906, 907, 908] (by decide +kernel) (by decide +kernel)
set_option maxRecDepth 40000 in
theorem wsL_law0_r17_g : GoodIn lw_tbl wsL_law0_r17 := goodIn_r _ [909, 750, 910, 912, 29, 913, 751, 753, 914, 916, 30, 917, 918, 920, 31, 921, 673, 674, 675, 676, 677, 678, 679, 125] (by decide +kernel) (by decide +kernel)
set_option maxRecDepth 40000 in
theorem wsL_law0_r18_g : GoodIn lw_tbl wsL_law0_r18 := goodIn_r _ [123, 680, 922, 923, 924, 925, 683, 684, 685, 686, 687, 688, 689, 926, 927, 928, 929, 691, 692, 693, 694, 475, 476, 477] (by decide +kernel) (by decide +kernel)
set_option maxRecDepth 40000 in
theorem wsL_law0_r19_g : GoodIn lw_tbl wsL_law0_r19 := goodIn_r _ [347, 488, 489, 490, 491, 492, 493, 494, 495, 496, 930, 931, 932, 933, 934, 936, 32, 937, 938, 940, 33, 941, 695, 696] (by decide +kernel) (by decide +kernel)
set_option maxRecDepth 40000 in
theorem wsL_law0_r20_g : GoodIn lw_tbl wsL_law0_r20 := goodIn_r _ [697, 698, 535, 536, 537, 538, 540, 942, 943, 944, 945, 946, 699, 700, 701, 702, 543, 544, 545, 947, 948, 949, 950, 703] (by decide +kernel) (by decide +kernel)
set_option maxRecDepth 40000 in
theorem wsL_law0_r21_g : GoodIn lw_tbl wsL_law0_r21 := goodIn_r _ [704, 705, 706, 512, 513, 514, 164, 154, 152, 378, 380, 13, 381, 255, 256, 257, 258, 97, 160, 92, 161, 163, 259, 263] (by decide +kernel) (by decide +kernel)
set_option maxRecDepth 40000 in
theorem wsL_law0_r22_g : GoodIn lw_tbl wsL_law0_r22 := goodIn_r _ [265, 4, 266, 159, 267, 269, 5, 270, 271, 274, 276, 6, 277, 283, 285, 7, 286, 287, 289, 8, 290, 291, 293, 9] (by decide +kernel) (by decide +kernel)
set_option maxRecDepth 40000 in
theorem wsL_law0_r23_g : GoodIn lw_tbl wsL_law0_r23 := goodIn_r _ [294, 295, 297, 10, 298, 299, 301, 11, 302, 303, 305, 12, 306, 307, 328, 329, 330, 331, 332, 516, 517, 518, 519, 525] (by decide +kernel) (by decide +kernel)
set_option maxRecDepth 40000 in
theorem wsL_law0_r24_g : GoodIn lw_tbl wsL_law0_r24 := goodIn_r _ [526, 527, 528, 951, 952, 953, 954, 955, 957, 34, 958, 959, 961, 35, 962, 746, 963, 965, 36, 966, 967, 969, 37, 970] (by decide +kernel) (by decide +kernel)
set_option maxRecDepth 40000 in
theorem wsL_law0_r25_g : GoodIn lw_tbl wsL_law0_r25 := goodIn_r _ [971, 973, 38, 974, 975, 977, 39, 978, 979, 981, 40, 982, 983, 985, 41, 986, 987, 989, 42, 990, 991, 993, 43, 994] (by decide +kernel) (by decide +kernel)
set_option maxRecDepth 40000 in
theorem wsL_law0_r26_g : GoodIn lw_tbl wsL_law0_r26 := goodIn_r _ [995, 997, 44, 998, 999, 1001, 45, 1002, 1003, 1005, 46, 1006, 707, 708, 709, 710, 530, 531, 532, 162, 156, 1007, 1008, 1009] (by decide +kernel) (by decide +kernel)
set_option maxRecDepth 40000 in
theorem wsL_law0_r27_g : GoodIn lw_tbl wsL_law0_r27 := goodIn_r _ [1010, 1011, 1013, 47, 1014, 711, 712, 713, 714, 500, 501, 502, 503, 504, 505, 506, 1015, 1016, 1017, 1018, 1019, 1021, 48, 1022] (by decide +kernel) (by decide +kernel)
set_option maxRecDepth 40000 in
theorem wsL_law0_r28_g : GoodIn lw_tbl wsL_law0_r28 := goodIn_r _ [715, 716, 717, 718, 362, 363, 364, 345, 365, 366, 367, 368, 369, 370, 371, 372, 373, 374, 375, 382, 383, 384, 385, 1023] (by decide +kernel) (by decide +kernel)
set_option maxRecDepth 40000 in
theorem wsL_law0_r29_g : GoodIn lw_tbl wsL_law0_r29 := goodIn_r _ [1024, 1025, 1026, 1027, 1029, 49, 1030, 1031, 1033, 50, 1034, 1035, 1037, 51, 1038, 719, 720, 721, 722, 455, 456, 457, 1039, 1040] (by decide +kernel) (by decide +kernel)
set_option maxRecDepth 40000 in
theorem wsL_law0_r30_g : GoodIn lw_tbl wsL_law0_r30 := goodIn_r _ [1041, 1042, 723, 724, 725, 726, 508, 509, 510, 1043, 1044, 1045, 1046, 1047, 1049, 52, 1050, 1051, 1053, 53, 1054, 727, 728, 729] (by decide +kernel) (by decide +kernel)
set_option maxRecDepth 40000 in
theorem wsL_law0_r31_g : GoodIn lw_tbl wsL_law0_r31 := goodIn_r _ [730, 557, 558, 559, 1055, 1056, 1057, 1058, 1059, 1061, 54, 1062, 251, 252, 253, 254, 1063, 1064, 1065, 1066, 1067, 1069, 55, 1070] (by decide +kernel) (by decide +kernel)
set_option maxRecDepth 40000 in
theorem wsL_law0_r32_g : GoodIn lw_tbl wsL_law0_r32 := goodIn_r _ [337, 338, 339, 340, 1071, 1072, 1073, 1074, 1075, 1077, 56, 1078, 1079, 1081, 57, 1082, 1083, 1085, 58, 1086, 341, 342, 343, 344] (by decide +kernel) (by decide +kernel)
set_option maxRecDepth 40000 in
theorem wsL_law0_r33_g : GoodIn lw_tbl wsL_law0_r33 := goodIn_r _ [354, 1087, 1088, 1089, 1090, 1091, 1093, 59, 1094, 1095, 355, 356, 357, 358, 359, 360, 541, 361, 454, 474, 499, 507, 511, 529] (by decide +kernel) (by decide +kernel)
set_option maxRecDepth 40000 in
theorem wsL_law0_r34_g : GoodIn lw_tbl wsL_law0_r34 := goodIn_r _ [534, 542, 556, 561, 562, 563, 564, 565, 566, 567, 568, 569, 1096, 1097, 1098, 1099, 1100, 754, 1106, 1101, 1103, 60, 1104, 1105] (by decide +kernel) (by decide +kernel)
set_option maxRecDepth 40000 in
theorem wsL_law0_r35_g : GoodIn lw_tbl wsL_law0_r35 := goodIn_r _ [1107, 1108, 76, 1109, 1113, 1115, 1114, 76, 1116, 1110, 1111, 1112] (by decide +kernel) (by decide +kernel)
set_option maxRecDepth 40000 in
theorem wsX30_lg : GoodIn lw_tbl wsX30 := goodIn_of _ (by decide +kernel)
set_option maxRecDepth 40000 in
theorem wsX40_lg : GoodIn lw_tbl wsX40 := goodIn_of _ (by decide +kernel)
set_option maxRecDepth 40000 in
theorem wsX20_lg : GoodIn lw_tbl wsX20 := goodIn_of _ (by decide +kernel)
set_option maxRecDepth 40000 in
theorem wsX10_lg : GoodIn lw_tbl wsX10 := goodIn_of _ (by decide +kernel)
set_option maxRecDepth 40000 in
theorem wsX00_lg : GoodIn lw_tbl wsX00 := goodIn_of _ (by decide +kernel)
theorem wsL_law_g0 : GoodIn lw_tbl wsL_law0 := goodIn_app (goodIn_app (goodIn_app (goodIn_app (goodIn_app (goodIn_app ((goodIn_app wsL_law0_r1_g (goodIn_app wsL_law0_r2_g (goodIn_app wsL_law0_r3_g (goodIn_app wsL_law0_r4_g (goodIn_app wsL_law0_r5_g (goodIn_app wsL_law0_r6_g (goodIn_app wsL_law0_r7_g (goodIn_app wsL_law0_r8_g (goodIn_app wsL_law0_r9_g (goodIn_app wsL_law0_r10_g (goodIn_app wsL_law0_r11_g (goodIn_app wsL_law0_r12_g (goodIn_app wsL_law0_r13_g (goodIn_app wsL_law0_r14_g (goodIn_app wsL_law0_r15_g (goodIn_app wsL_law0_r16_g (goodIn_app wsL_law0_r17_g (goodIn_app wsL_law0_r18_g (goodIn_app wsL_law0_r19_g (goodIn_app wsL_law0_r20_g (goodIn_app wsL_law0_r21_g (goodIn_app wsL_law0_r22_g (goodIn_app wsL_law0_r23_g (goodIn_app wsL_law0_r24_g (goodIn_app wsL_law0_r25_g (goodIn_app wsL_law0_r26_g (goodIn_app wsL_law0_r27_g (goodIn_app wsL_law0_r28_g (goodIn_app wsL_law0_r29_g (goodIn_app wsL_law0_r30_g (goodIn_app wsL_law0_r31_g (goodIn_app wsL_law0_r32_g (goodIn_app wsL_law0_r33_g (goodIn_app wsL_law0_r34_g (wsL_law0_r35_g)))))))))))))))))))))))))))))))))))) wsX30_lg) wsX40_lg) wsX20_lg) wsX10_lg) wsX00_lg) (fun _ h => absurd h List.not_mem_nil)
theorem wsL_law_in0 : ∀ w ∈ wsL_law0, w ∈ lw_tbl := fun w h => (wsL_law_g0 w h).1
theorem wsL_law_x0 : ∀ w ∈ (vx_atS RX3 45 "java/lang/IllegalArgumentException" ["java/lang/RuntimeException", "java/lang/Exception"]).filter goodWord, w ∈ lw_tbl := by decide +kernel
theorem wsL_law_x1 : ∀ w ∈ (vx_atS RX3 67 "java/lang/IllegalStateException" ["java/lang/RuntimeException", "java/lang/Exception"]).filter goodWord, w ∈ lw_tbl := by decide +kernel
theorem wsL_law_x2 : ∀ w ∈ (vx_atS RX3 80 "java/lang/IndexOutOfBoundsException" ["java/lang/RuntimeException", "java/lang/Exception"]).filter goodWord, w ∈ lw_tbl := by decide +kernel
theorem wsL_law_in : ∀ w ∈ wsL_law, w ∈ lw_tbl := fun w h => (List.mem_append.mp h).elim (fun h => (List.mem_append.mp h).elim (fun h => (List.mem_append.mp h).elim (fun h => wsL_law_in0 w h) (fun h => wsL_law_x0 w h)) (fun h => wsL_law_x1 w h)) (fun h => wsL_law_x2 w h)
