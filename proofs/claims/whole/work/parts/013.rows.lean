set_option maxRecDepth 20000 in
theorem gL_law_L_code : GoodIn wsL_law (va_wsS RL 137 yL_code wsL_code) := goodIn_app (goodIn_of _ (by decide +kernel)) ggL_law_L_code
set_option maxRecDepth 20000 in
theorem ggL_law_X4_code : GoodIn wsL_law wsX4_code := goodIn_r _ [466, 68, 467, 58, 103, 104, 5, 105, 282, 283, 284, 106, 107, 108, 109, 837, 838, 839, 840, 841, 842, 843, 844, 845, 846, 847, 848, 849, 850, 851, 852, 853, 854] (by decide +kernel) (by decide +kernel)
set_option maxRecDepth 20000 in
theorem gL_law_X4_code : GoodIn wsL_law (wsV RL 139 RX4 yX4_code wsX4_code) := goodIn_app (goodIn_of _ (by decide +kernel)) ggL_law_X4_code
set_option maxRecDepth 20000 in
theorem ggL_law_L_word : GoodIn wsL_law wsL_word := goodIn_ca (goodIn_r _ [470, 73, 471, 472, 473, 2, 474, 78, 79, 16, 209, 210, 211, 15, 212, 213, 214, 215, 216, 217, 218, 219, 220, 98, 221, 222, 223, 224, 225, 226, 227, 228, 229, 230, 231, 34, 232, 233, 234, 235, 236, 237, 238, 239, 240, 241, 242, 243, 244, 245, 35, 246, 170, 171, 172, 247, 248, 249, 828, 829, 830, 831, 832, 833, 834, 835, 836, 855, 856, 857, 858] (by decide +kernel) (by decide +kernel)) (goodIn_sub (fun _ h => List.mem_append_left _ (List.mem_append_left _ (List.mem_append_right _ h))) (by decide +kernel))
set_option maxRecDepth 20000 in
theorem gL_law_L_word : GoodIn wsL_law (va_wsS RL 140 yL_word wsL_word) := goodIn_app (goodIn_of _ (by decide +kernel)) ggL_law_L_word
set_option maxRecDepth 20000 in
theorem ggL_law_X4_word : GoodIn wsL_law wsX4_word := goodIn_r _ [478, 68, 254, 255, 256, 5, 257, 258, 259, 260, 261, 262, 263, 264, 265, 58, 181, 182, 183, 184, 266, 267, 268, 269, 270, 271, 272, 273, 274, 275, 276, 277, 278, 279, 280, 281, 282, 283, 284, 106, 107, 108, 109, 837, 838, 839, 840, 841, 842, 843, 844, 845, 846, 847, 848, 849, 850, 851, 852, 853, 854] (by decide +kernel) (by decide +kernel)
set_option maxRecDepth 20000 in
theorem gL_law_X4_word : GoodIn wsL_law (wsV RL 142 RX4 yX4_word wsX4_word) := goodIn_app (goodIn_of _ (by decide +kernel)) ggL_law_X4_word
def ggL_law_L_read_l : List Cond := (Cond.codeWith yL_read cL_read 4 (some .int) [(0, 9, 12, 13)] :: ((wsL_read_r1 ++ (wsL_read_r2 ++ (wsL_read_r3 ++ (wsL_read_r4 ++ (wsL_read_r5 ++ wsL_read_r6))))) ++ wsX00 ++ wsX30 ++ wsX20))
set_option maxRecDepth 40000 in
theorem ggL_law_L_read_p0 : GoodIn wsL_law ((ggL_law_L_read_l.drop 0).take 30) := goodIn_r _ [481, 73, 482, 483, 484, 2, 485, 78, 79, 486, 487, 16, 488, 489, 490, 491, 492, 89, 27, 194, 493, 494, 495, 26, 496, 497, 498, 45, 499, 500] (by decide +kernel) (by decide +kernel)
set_option maxRecDepth 40000 in
theorem ggL_law_L_read_p1 : GoodIn wsL_law ((ggL_law_L_read_l.drop 30).take 30) := goodIn_r _ [47, 48, 501, 49, 502, 170, 171, 15, 172, 98, 503, 504, 505, 506, 507, 508, 509, 510, 511, 46, 512, 95, 96, 97, 513, 514, 515, 516, 247, 248] (by decide +kernel) (by decide +kernel)
set_option maxRecDepth 40000 in
theorem ggL_law_L_read_p2 : GoodIn wsL_law ((ggL_law_L_read_l.drop 60).take 30) := goodIn_r _ [249, 517, 518, 519, 520, 521, 522, 523, 524, 52, 53, 525, 526, 527, 528, 529, 530, 531, 532, 533, 534, 535, 536, 537, 538, 539, 540, 51, 541, 214] (by decide +kernel) (by decide +kernel)
set_option maxRecDepth 40000 in
theorem ggL_law_L_read_p3 : GoodIn wsL_law ((ggL_law_L_read_l.drop 90).take 30) := goodIn_r _ [215, 216, 217, 218, 219, 220, 221, 222, 223, 224, 225, 226, 227, 228, 229, 230, 231, 34, 232, 233, 234, 235, 542, 543, 544, 545, 546, 35, 246, 240] (by decide +kernel) (by decide +kernel)
set_option maxRecDepth 40000 in
theorem ggL_law_L_read_p4 : GoodIn wsL_law ((ggL_law_L_read_l.drop 120).take 30) := goodIn_r _ [241, 547, 548, 549, 550, 213, 242, 243, 244, 245, 551, 552, 553, 554, 33, 865, 866, 867, 868, 869, 870, 871, 872, 873, 874, 875, 876, 828, 829, 830] (by decide +kernel) (by decide +kernel)
set_option maxRecDepth 40000 in
theorem ggL_law_L_read_p5 : GoodIn wsL_law ((ggL_law_L_read_l.drop 150).take 10) := goodIn_r _ [831, 832, 833, 834, 835, 836, 855, 856, 857, 858] (by decide +kernel) (by decide +kernel)
theorem ggL_law_L_read_a : GoodIn wsL_law ggL_law_L_read_l := goodIn_all 160 (by decide +kernel) (goodIn_ch 150 10 (goodIn_ch 120 30 (goodIn_ch 90 30 (goodIn_ch 60 30 (goodIn_ch 30 30 (goodIn_ch 0 30 goodIn_0 ggL_law_L_read_p0) ggL_law_L_read_p1) ggL_law_L_read_p2) ggL_law_L_read_p3) ggL_law_L_read_p4) ggL_law_L_read_p5)
set_option maxRecDepth 40000 in
theorem ggL_law_L_read : GoodIn wsL_law wsL_read := goodIn_ca (ggL_law_L_read_a) (goodIn_sub (fun _ h => List.mem_append_left _ (List.mem_append_left _ (List.mem_append_right _ h))) (by decide +kernel))
set_option maxRecDepth 20000 in
theorem gL_law_L_read : GoodIn wsL_law (va_wsS RL 143 yL_read wsL_read) := goodIn_app (goodIn_of _ (by decide +kernel)) ggL_law_L_read
def ggL_law_X4_read_l : List Cond := wsX4_read
set_option maxRecDepth 40000 in
theorem ggL_law_X4_read_p0 : GoodIn wsL_law ((ggL_law_X4_read_l.drop 0).take 30) := goodIn_r _ [558, 68, 103, 104, 5, 105, 559, 560, 561, 562, 62, 63, 58, 563, 564, 565, 566, 567, 568, 569, 570, 571, 64, 65, 572, 573, 574, 575, 576, 577] (by decide +kernel) (by decide +kernel)
set_option maxRecDepth 40000 in
theorem ggL_law_X4_read_p1 : GoodIn wsL_law ((ggL_law_X4_read_l.drop 30).take 30) := goodIn_r _ [578, 579, 580, 581, 582, 583, 66, 584, 585, 586, 587, 313, 314, 315, 282, 283, 284, 588, 589, 590, 591, 181, 182, 183, 184, 592, 593, 594, 595, 596] (by decide +kernel) (by decide +kernel)
set_option maxRecDepth 40000 in
theorem ggL_law_X4_read_p2 : GoodIn wsL_law ((ggL_law_X4_read_l.drop 60).take 30) := goodIn_r _ [597, 598, 599, 600, 601, 602, 603, 604, 605, 606, 607, 258, 259, 260, 261, 262, 263, 264, 265, 266, 267, 268, 269, 274, 275, 276, 277, 608, 609, 610] (by decide +kernel) (by decide +kernel)
set_option maxRecDepth 40000 in
theorem ggL_law_X4_read_p3 : GoodIn wsL_law ((ggL_law_X4_read_l.drop 90).take 23) := goodIn_r _ [611, 106, 107, 108, 109, 837, 838, 839, 840, 841, 842, 843, 844, 845, 846, 847, 848, 849, 850, 851, 852, 853, 854] (by decide +kernel) (by decide +kernel)
theorem ggL_law_X4_read_a : GoodIn wsL_law ggL_law_X4_read_l := goodIn_all 113 (by decide +kernel) (goodIn_ch 90 23 (goodIn_ch 60 30 (goodIn_ch 30 30 (goodIn_ch 0 30 goodIn_0 ggL_law_X4_read_p0) ggL_law_X4_read_p1) ggL_law_X4_read_p2) ggL_law_X4_read_p3)
set_option maxRecDepth 40000 in
theorem ggL_law_X4_read : GoodIn wsL_law wsX4_read := ggL_law_X4_read_a
set_option maxRecDepth 20000 in
theorem gL_law_X4_read : GoodIn wsL_law (wsV RL 145 RX4 yX4_read wsX4_read) := goodIn_app (goodIn_of _ (by decide +kernel)) ggL_law_X4_read
def ggL_law_L_path_l : List Cond := (Cond.codeWith yL_path cL_path 5 (some .int) [(0, 10, 13, 13)] :: ((wsL_path_r1 ++ (wsL_path_r2 ++ (wsL_path_r3 ++ (wsL_path_r4 ++ (wsL_path_r5 ++ wsL_path_r6))))) ++ wsX00 ++ wsX30 ++ wsX20))
set_option maxRecDepth 40000 in
theorem ggL_law_L_path_p0 : GoodIn wsL_law ((ggL_law_L_path_l.drop 0).take 30) := goodIn_r _ [614, 73, 615, 616, 617, 2, 618, 78, 79, 619, 487, 488, 620, 489, 490, 491, 492, 89, 27, 16, 194, 493, 494, 495, 26, 496, 497, 498, 45, 499] (by decide +kernel) (by decide +kernel)
set_option maxRecDepth 40000 in
theorem ggL_law_L_path_p1 : GoodIn wsL_law ((ggL_law_L_path_l.drop 30).take 30) := goodIn_r _ [500, 47, 48, 501, 49, 502, 170, 171, 15, 172, 98, 503, 504, 505, 506, 507, 508, 509, 510, 511, 46, 512, 95, 96, 97, 513, 514, 515, 516, 247] (by decide +kernel) (by decide +kernel)
set_option maxRecDepth 40000 in
theorem ggL_law_L_path_p2 : GoodIn wsL_law ((ggL_law_L_path_l.drop 60).take 30) := goodIn_r _ [248, 249, 517, 518, 519, 520, 521, 522, 523, 524, 52, 53, 525, 526, 527, 528, 529, 530, 531, 532, 533, 534, 535, 536, 537, 538, 539, 540, 51, 541] (by decide +kernel) (by decide +kernel)
set_option maxRecDepth 40000 in
theorem ggL_law_L_path_p3 : GoodIn wsL_law ((ggL_law_L_path_l.drop 90).take 30) := goodIn_r _ [214, 215, 216, 217, 218, 219, 220, 221, 222, 223, 224, 225, 226, 227, 228, 229, 230, 231, 34, 232, 233, 234, 235, 542, 543, 544, 545, 546, 35, 246] (by decide +kernel) (by decide +kernel)
set_option maxRecDepth 40000 in
theorem ggL_law_L_path_p4 : GoodIn wsL_law ((ggL_law_L_path_l.drop 120).take 27) := goodIn_r _ [240, 241, 865, 866, 867, 868, 869, 870, 871, 872, 873, 874, 875, 876, 828, 829, 830, 831, 832, 833, 834, 835, 836, 855, 856, 857, 858] (by decide +kernel) (by decide +kernel)
theorem ggL_law_L_path_a : GoodIn wsL_law ggL_law_L_path_l := goodIn_all 147 (by decide +kernel) (goodIn_ch 120 27 (goodIn_ch 90 30 (goodIn_ch 60 30 (goodIn_ch 30 30 (goodIn_ch 0 30 goodIn_0 ggL_law_L_path_p0) ggL_law_L_path_p1) ggL_law_L_path_p2) ggL_law_L_path_p3) ggL_law_L_path_p4)
set_option maxRecDepth 40000 in
theorem ggL_law_L_path : GoodIn wsL_law wsL_path := goodIn_ca (ggL_law_L_path_a) (goodIn_sub (fun _ h => List.mem_append_left _ (List.mem_append_left _ (List.mem_append_right _ h))) (by decide +kernel))
set_option maxRecDepth 20000 in
theorem gL_law_L_path : GoodIn wsL_law (va_wsS RL 146 yL_path wsL_path) := goodIn_app (goodIn_of _ (by decide +kernel)) ggL_law_L_path
def ggL_law_X4_path_l : List Cond := wsX4_path
set_option maxRecDepth 40000 in
theorem ggL_law_X4_path_p0 : GoodIn wsL_law ((ggL_law_X4_path_l.drop 0).take 30) := goodIn_r _ [624, 68, 103, 104, 5, 105, 625, 626, 627, 628, 567, 62, 63, 568, 569, 570, 571, 58, 64, 65, 572, 573, 574, 575, 576, 577, 578, 579, 580, 581] (by decide +kernel) (by decide +kernel)
set_option maxRecDepth 40000 in
theorem ggL_law_X4_path_p1 : GoodIn wsL_law ((ggL_law_X4_path_l.drop 30).take 30) := goodIn_r _ [582, 583, 66, 584, 585, 586, 587, 313, 314, 315, 282, 283, 284, 588, 589, 590, 591, 181, 182, 183, 184, 592, 593, 594, 595, 596, 597, 598, 599, 600] (by decide +kernel) (by decide +kernel)
set_option maxRecDepth 40000 in
theorem ggL_law_X4_path_p2 : GoodIn wsL_law ((ggL_law_X4_path_l.drop 60).take 30) := goodIn_r _ [601, 602, 603, 604, 605, 606, 607, 258, 259, 260, 261, 262, 263, 264, 265, 266, 267, 268, 269, 274, 275, 276, 277, 106, 107, 108, 109, 837, 838, 839] (by decide +kernel) (by decide +kernel)
set_option maxRecDepth 40000 in
theorem ggL_law_X4_path_p3 : GoodIn wsL_law ((ggL_law_X4_path_l.drop 90).take 15) := goodIn_r _ [840, 841, 842, 843, 844, 845, 846, 847, 848, 849, 850, 851, 852, 853, 854] (by decide +kernel) (by decide +kernel)
theorem ggL_law_X4_path_a : GoodIn wsL_law ggL_law_X4_path_l := goodIn_all 105 (by decide +kernel) (goodIn_ch 90 15 (goodIn_ch 60 30 (goodIn_ch 30 30 (goodIn_ch 0 30 goodIn_0 ggL_law_X4_path_p0) ggL_law_X4_path_p1) ggL_law_X4_path_p2) ggL_law_X4_path_p3)
set_option maxRecDepth 40000 in
theorem ggL_law_X4_path : GoodIn wsL_law wsX4_path := ggL_law_X4_path_a
set_option maxRecDepth 20000 in
theorem gL_law_X4_path : GoodIn wsL_law (wsV RL 148 RX4 yX4_path wsX4_path) := goodIn_app (goodIn_of _ (by decide +kernel)) ggL_law_X4_path
def ggL_law_L_heard_l : List Cond := (Cond.codeWith yL_heard cL_heard 4 (some .int) [(0, 9, 12, 23)] :: ((wsL_heard_r1 ++ (wsL_heard_r2 ++ (wsL_heard_r3 ++ (wsL_heard_r4 ++ (wsL_heard_r5 ++ wsL_heard_r6))))) ++ wsX30 ++ wsX20 ++ wsX00))
set_option maxRecDepth 40000 in
theorem ggL_law_L_heard_p0 : GoodIn wsL_law ((ggL_law_L_heard_l.drop 0).take 30) := goodIn_r _ [631, 158, 632, 633, 634, 2, 635, 163, 164, 16, 165, 166, 167, 15, 168, 35, 489, 490, 491, 492, 89, 27, 194, 493, 494, 495, 26, 496, 497, 498] (by decide +kernel) (by decide +kernel)
set_option maxRecDepth 40000 in
theorem ggL_law_L_heard_p1 : GoodIn wsL_law ((ggL_law_L_heard_l.drop 30).take 30) := goodIn_r _ [45, 499, 500, 47, 48, 501, 49, 502, 170, 171, 172, 98, 503, 504, 505, 506, 507, 508, 509, 510, 511, 46, 512, 95, 96, 97, 513, 514, 515, 516] (by decide +kernel) (by decide +kernel)
set_option maxRecDepth 40000 in
theorem ggL_law_L_heard_p2 : GoodIn wsL_law ((ggL_law_L_heard_l.drop 60).take 30) := goodIn_r _ [247, 248, 249, 517, 518, 519, 520, 521, 522, 523, 524, 52, 53, 525, 526, 527, 528, 529, 530, 531, 532, 533, 534, 535, 536, 537, 538, 539, 540, 51] (by decide +kernel) (by decide +kernel)
set_option maxRecDepth 40000 in
theorem ggL_law_L_heard_p3 : GoodIn wsL_law ((ggL_law_L_heard_l.drop 90).take 30) := goodIn_r _ [541, 214, 215, 216, 217, 218, 219, 220, 221, 222, 223, 224, 225, 226, 227, 228, 229, 230, 231, 34, 232, 233, 234, 235, 542, 543, 544, 545, 546, 246] (by decide +kernel) (by decide +kernel)
set_option maxRecDepth 40000 in
theorem ggL_law_L_heard_p4 : GoodIn wsL_law ((ggL_law_L_heard_l.drop 120).take 30) := goodIn_r _ [240, 241, 636, 637, 638, 639, 828, 829, 830, 831, 832, 833, 834, 835, 836, 855, 856, 857, 858, 865, 866, 867, 868, 869, 870, 871, 872, 873, 874, 875] (by decide +kernel) (by decide +kernel)
set_option maxRecDepth 40000 in
theorem ggL_law_L_heard_p5 : GoodIn wsL_law ((ggL_law_L_heard_l.drop 150).take 1) := goodIn_r _ [876] (by decide +kernel) (by decide +kernel)
theorem ggL_law_L_heard_a : GoodIn wsL_law ggL_law_L_heard_l := goodIn_all 151 (by decide +kernel) (goodIn_ch 150 1 (goodIn_ch 120 30 (goodIn_ch 90 30 (goodIn_ch 60 30 (goodIn_ch 30 30 (goodIn_ch 0 30 goodIn_0 ggL_law_L_heard_p0) ggL_law_L_heard_p1) ggL_law_L_heard_p2) ggL_law_L_heard_p3) ggL_law_L_heard_p4) ggL_law_L_heard_p5)
set_option maxRecDepth 40000 in
theorem ggL_law_L_heard : GoodIn wsL_law wsL_heard := goodIn_ca (ggL_law_L_heard_a) (goodIn_sub (fun _ h => List.mem_append_right _ h) (by decide +kernel))
set_option maxRecDepth 20000 in
theorem gL_law_L_heard : GoodIn wsL_law (va_wsS RL 149 yL_heard wsL_heard) := goodIn_app (goodIn_of _ (by decide +kernel)) ggL_law_L_heard
set_option maxRecDepth 20000 in
theorem ggL_law_X4_heard : GoodIn wsL_law wsX4_heard := goodIn_r _ [643, 68, 177, 178, 179, 5, 180, 58, 103, 104, 105, 644, 645, 646, 647, 62, 568, 569, 570, 571, 567, 63, 64, 65, 572, 573, 574, 575, 576, 577, 578, 579, 580, 581, 582, 583, 66, 584, 585, 586, 587, 313, 314, 315, 282, 283, 284, 588, 589, 590, 591, 181, 182, 183, 184, 592, 593, 594, 595, 596, 597, 598, 599, 106, 107, 108, 109, 837, 838, 839, 840, 841, 842, 843, 844, 845, 846, 847, 848, 849, 850, 851, 852, 853, 854] (by decide +kernel) (by decide +kernel)
set_option maxRecDepth 20000 in
theorem gL_law_X4_heard : GoodIn wsL_law (wsV RL 151 RX4 yX4_heard wsX4_heard) := goodIn_app (goodIn_of _ (by decide +kernel)) ggL_law_X4_heard
def ggL_law_L_count_l : List Cond := (Cond.codeWith yL_count cL_count 4 (some .int) [(0, 9, 12, 13)] :: ((wsL_count_r1 ++ (wsL_count_r2 ++ (wsL_count_r3 ++ (wsL_count_r4 ++ (wsL_count_r5 ++ wsL_count_r6))))) ++ wsX30 ++ wsX20 ++ wsX00))
set_option maxRecDepth 40000 in
theorem ggL_law_L_count_p0 : GoodIn wsL_law ((ggL_law_L_count_l.drop 0).take 30) := goodIn_r _ [650, 73, 651, 652, 653, 2, 654, 78, 79, 16, 80, 619, 88, 655, 218, 219, 15, 220, 98, 221, 222, 223, 224, 225, 226, 227, 656, 214, 215, 216] (by decide +kernel) (by decide +kernel)
set_option maxRecDepth 40000 in
theorem ggL_law_L_count_p1 : GoodIn wsL_law ((ggL_law_L_count_l.drop 30).take 30) := goodIn_r _ [217, 228, 229, 230, 231, 34, 232, 233, 234, 235, 657, 658, 659, 660, 661, 35, 33, 662, 663, 664, 665, 666, 307, 308, 489, 490, 491, 492, 89, 27] (by decide +kernel) (by decide +kernel)
set_option maxRecDepth 40000 in
theorem ggL_law_L_count_p2 : GoodIn wsL_law ((ggL_law_L_count_l.drop 60).take 30) := goodIn_r _ [194, 493, 494, 495, 26, 496, 497, 498, 45, 499, 500, 47, 48, 501, 49, 502, 170, 171, 172, 503, 504, 505, 506, 507, 508, 509, 510, 511, 46, 512] (by decide +kernel) (by decide +kernel)
set_option maxRecDepth 40000 in
theorem ggL_law_L_count_p3 : GoodIn wsL_law ((ggL_law_L_count_l.drop 90).take 30) := goodIn_r _ [95, 96, 97, 513, 514, 515, 516, 247, 248, 249, 517, 518, 519, 520, 521, 522, 523, 524, 52, 53, 525, 526, 527, 528, 529, 530, 531, 532, 533, 534] (by decide +kernel) (by decide +kernel)
set_option maxRecDepth 40000 in
theorem ggL_law_L_count_p4 : GoodIn wsL_law ((ggL_law_L_count_l.drop 120).take 30) := goodIn_r _ [535, 536, 537, 538, 539, 540, 51, 541, 542, 543, 544, 545, 546, 246, 240, 241, 667, 668, 669, 670, 828, 829, 830, 831, 832, 833, 834, 835, 836, 855] (by decide +kernel) (by decide +kernel)
set_option maxRecDepth 40000 in
theorem ggL_law_L_count_p5 : GoodIn wsL_law ((ggL_law_L_count_l.drop 150).take 15) := goodIn_r _ [856, 857, 858, 865, 866, 867, 868, 869, 870, 871, 872, 873, 874, 875, 876] (by decide +kernel) (by decide +kernel)
theorem ggL_law_L_count_a : GoodIn wsL_law ggL_law_L_count_l := goodIn_all 165 (by decide +kernel) (goodIn_ch 150 15 (goodIn_ch 120 30 (goodIn_ch 90 30 (goodIn_ch 60 30 (goodIn_ch 30 30 (goodIn_ch 0 30 goodIn_0 ggL_law_L_count_p0) ggL_law_L_count_p1) ggL_law_L_count_p2) ggL_law_L_count_p3) ggL_law_L_count_p4) ggL_law_L_count_p5)
set_option maxRecDepth 40000 in
theorem ggL_law_L_count : GoodIn wsL_law wsL_count := goodIn_ca (ggL_law_L_count_a) (goodIn_sub (fun _ h => List.mem_append_left _ (List.mem_append_left _ (List.mem_append_right _ h))) (by decide +kernel))
set_option maxRecDepth 20000 in
theorem gL_law_L_count : GoodIn wsL_law (va_wsS RL 152 yL_count wsL_count) := goodIn_app (goodIn_of _ (by decide +kernel)) ggL_law_L_count
def ggL_law_X4_count_l : List Cond := wsX4_count
set_option maxRecDepth 40000 in
theorem ggL_law_X4_count_p0 : GoodIn wsL_law ((ggL_law_X4_count_l.drop 0).take 30) := goodIn_r _ [674, 68, 103, 104, 5, 105, 675, 676, 677, 678, 58, 567, 114, 262, 263, 264, 265, 181, 182, 183, 184, 258, 259, 260, 261, 266, 267, 268, 269, 679] (by decide +kernel) (by decide +kernel)
set_option maxRecDepth 40000 in
theorem ggL_law_X4_count_p1 : GoodIn wsL_law ((ggL_law_X4_count_l.drop 30).take 30) := goodIn_r _ [680, 681, 682, 313, 314, 315, 568, 569, 570, 571, 62, 63, 64, 65, 572, 573, 574, 575, 576, 577, 578, 579, 580, 581, 582, 583, 66, 584, 585, 586] (by decide +kernel) (by decide +kernel)
set_option maxRecDepth 40000 in
theorem ggL_law_X4_count_p2 : GoodIn wsL_law ((ggL_law_X4_count_l.drop 60).take 30) := goodIn_r _ [587, 282, 283, 284, 588, 589, 590, 591, 592, 593, 594, 595, 596, 597, 598, 599, 683, 684, 685, 686, 600, 601, 602, 603, 604, 605, 606, 607, 274, 275] (by decide +kernel) (by decide +kernel)
set_option maxRecDepth 40000 in
theorem ggL_law_X4_count_p3 : GoodIn wsL_law ((ggL_law_X4_count_l.drop 90).take 24) := goodIn_r _ [276, 277, 106, 107, 108, 109, 837, 838, 839, 840, 841, 842, 843, 844, 845, 846, 847, 848, 849, 850, 851, 852, 853, 854] (by decide +kernel) (by decide +kernel)
theorem ggL_law_X4_count_a : GoodIn wsL_law ggL_law_X4_count_l := goodIn_all 114 (by decide +kernel) (goodIn_ch 90 24 (goodIn_ch 60 30 (goodIn_ch 30 30 (goodIn_ch 0 30 goodIn_0 ggL_law_X4_count_p0) ggL_law_X4_count_p1) ggL_law_X4_count_p2) ggL_law_X4_count_p3)
set_option maxRecDepth 40000 in
theorem ggL_law_X4_count : GoodIn wsL_law wsX4_count := ggL_law_X4_count_a
set_option maxRecDepth 20000 in
theorem gL_law_X4_count : GoodIn wsL_law (wsV RL 154 RX4 yX4_count wsX4_count) := goodIn_app (goodIn_of _ (by decide +kernel)) ggL_law_X4_count
set_option maxRecDepth 20000 in
theorem ggL_law_L_setting : GoodIn wsL_law wsL_setting := goodIn_ca (goodIn_r _ [689, 158, 690, 691, 692, 2, 693, 163, 164, 16, 194, 828, 829, 830, 831, 832, 833, 834, 835, 836, 855, 856, 857, 858] (by decide +kernel) (by decide +kernel)) (goodIn_sub (fun _ h => List.mem_append_right _ h) (by decide +kernel))
set_option maxRecDepth 20000 in
theorem gL_law_L_setting : GoodIn wsL_law (va_wsS RL 155 yL_setting wsL_setting) := goodIn_app (goodIn_of _ (by decide +kernel)) ggL_law_L_setting
set_option maxRecDepth 20000 in
theorem ggL_law_X4_setting : GoodIn wsL_law wsX4_setting := goodIn_r _ [697, 68, 58, 103, 104, 5, 105, 106, 107, 108, 109, 837, 838, 839, 840, 841, 842, 843, 844, 845, 846, 847, 848, 849, 850, 851, 852, 853, 854] (by decide +kernel) (by decide +kernel)
set_option maxRecDepth 20000 in
theorem gL_law_X4_setting : GoodIn wsL_law (wsV RL 157 RX4 yX4_setting wsX4_setting) := goodIn_app (goodIn_of _ (by decide +kernel)) ggL_law_X4_setting
def ggL_law_L_ifFlipped_l : List Cond := (Cond.codeWith yL_ifFlipped cL_ifFlipped 4 (some .int) [(0, 9, 12, 23)] :: ((wsL_ifFlipped_r1 ++ (wsL_ifFlipped_r2 ++ (wsL_ifFlipped_r3 ++ (wsL_ifFlipped_r4 ++ wsL_ifFlipped_r5)))) ++ wsX30 ++ wsX20 ++ wsX00))
set_option maxRecDepth 40000 in
theorem ggL_law_L_ifFlipped_p0 : GoodIn wsL_law ((ggL_law_L_ifFlipped_l.drop 0).take 30) := goodIn_r _ [700, 158, 701, 702, 703, 2, 704, 163, 164, 16, 28, 194, 165, 166, 167, 15, 168, 35, 493, 494, 495, 26, 496, 497, 498, 45, 499, 500, 47, 48] (by decide +kernel) (by decide +kernel)
set_option maxRecDepth 40000 in
theorem ggL_law_L_ifFlipped_p1 : GoodIn wsL_law ((ggL_law_L_ifFlipped_l.drop 30).take 30) := goodIn_r _ [501, 49, 502, 170, 171, 172, 98, 503, 504, 505, 506, 507, 508, 509, 510, 511, 46, 512, 95, 96, 97, 513, 514, 515, 516, 247, 248, 249, 517, 518] (by decide +kernel) (by decide +kernel)
set_option maxRecDepth 40000 in
theorem ggL_law_L_ifFlipped_p2 : GoodIn wsL_law ((ggL_law_L_ifFlipped_l.drop 60).take 30) := goodIn_r _ [519, 520, 521, 522, 523, 524, 52, 53, 525, 526, 527, 528, 529, 530, 531, 532, 533, 534, 535, 536, 537, 538, 539, 540, 51, 541, 214, 215, 216, 217] (by decide +kernel) (by decide +kernel)
set_option maxRecDepth 40000 in
theorem ggL_law_L_ifFlipped_p3 : GoodIn wsL_law ((ggL_law_L_ifFlipped_l.drop 90).take 30) := goodIn_r _ [218, 219, 220, 221, 222, 223, 224, 225, 226, 227, 228, 229, 230, 231, 34, 232, 233, 234, 235, 542, 543, 544, 545, 546, 246, 240, 241, 828, 829, 830] (by decide +kernel) (by decide +kernel)
set_option maxRecDepth 40000 in
theorem ggL_law_L_ifFlipped_p4 : GoodIn wsL_law ((ggL_law_L_ifFlipped_l.drop 120).take 22) := goodIn_r _ [831, 832, 833, 834, 835, 836, 855, 856, 857, 858, 865, 866, 867, 868, 869, 870, 871, 872, 873, 874, 875, 876] (by decide +kernel) (by decide +kernel)
theorem ggL_law_L_ifFlipped_a : GoodIn wsL_law ggL_law_L_ifFlipped_l := goodIn_all 142 (by decide +kernel) (goodIn_ch 120 22 (goodIn_ch 90 30 (goodIn_ch 60 30 (goodIn_ch 30 30 (goodIn_ch 0 30 goodIn_0 ggL_law_L_ifFlipped_p0) ggL_law_L_ifFlipped_p1) ggL_law_L_ifFlipped_p2) ggL_law_L_ifFlipped_p3) ggL_law_L_ifFlipped_p4)
set_option maxRecDepth 40000 in
theorem ggL_law_L_ifFlipped : GoodIn wsL_law wsL_ifFlipped := goodIn_ca (ggL_law_L_ifFlipped_a) (goodIn_sub (fun _ h => List.mem_append_right _ h) (by decide +kernel))
set_option maxRecDepth 20000 in
theorem gL_law_L_ifFlipped : GoodIn wsL_law (va_wsS RL 158 yL_ifFlipped wsL_ifFlipped) := goodIn_app (goodIn_of _ (by decide +kernel)) ggL_law_L_ifFlipped
def ggL_law_X4_ifFlipped_l : List Cond := wsX4_ifFlipped
set_option maxRecDepth 40000 in
theorem ggL_law_X4_ifFlipped_p0 : GoodIn wsL_law ((ggL_law_X4_ifFlipped_l.drop 0).take 30) := goodIn_r _ [708, 68, 177, 178, 179, 5, 180, 58, 103, 104, 105, 709, 710, 711, 712, 713, 714, 715, 716, 62, 563, 564, 565, 566, 567, 568, 569, 570, 571, 63] (by decide +kernel) (by decide +kernel)
set_option maxRecDepth 40000 in
theorem ggL_law_X4_ifFlipped_p1 : GoodIn wsL_law ((ggL_law_X4_ifFlipped_l.drop 30).take 30) := goodIn_r _ [64, 65, 572, 573, 574, 575, 576, 577, 578, 579, 580, 581, 582, 583, 66, 584, 585, 586, 587, 313, 314, 315, 282, 283, 284, 588, 589, 590, 591, 181] (by decide +kernel) (by decide +kernel)
set_option maxRecDepth 40000 in
theorem ggL_law_X4_ifFlipped_p2 : GoodIn wsL_law ((ggL_law_X4_ifFlipped_l.drop 60).take 30) := goodIn_r _ [182, 183, 184, 592, 593, 594, 595, 596, 597, 598, 599, 600, 601, 602, 603, 604, 605, 606, 607, 258, 259, 260, 261, 262, 263, 264, 265, 266, 267, 268] (by decide +kernel) (by decide +kernel)
set_option maxRecDepth 40000 in
theorem ggL_law_X4_ifFlipped_p3 : GoodIn wsL_law ((ggL_law_X4_ifFlipped_l.drop 90).take 27) := goodIn_r _ [269, 274, 275, 276, 277, 106, 107, 108, 109, 837, 838, 839, 840, 841, 842, 843, 844, 845, 846, 847, 848, 849, 850, 851, 852, 853, 854] (by decide +kernel) (by decide +kernel)
theorem ggL_law_X4_ifFlipped_a : GoodIn wsL_law ggL_law_X4_ifFlipped_l := goodIn_all 117 (by decide +kernel) (goodIn_ch 90 27 (goodIn_ch 60 30 (goodIn_ch 30 30 (goodIn_ch 0 30 goodIn_0 ggL_law_X4_ifFlipped_p0) ggL_law_X4_ifFlipped_p1) ggL_law_X4_ifFlipped_p2) ggL_law_X4_ifFlipped_p3)
set_option maxRecDepth 40000 in
theorem ggL_law_X4_ifFlipped : GoodIn wsL_law wsX4_ifFlipped := ggL_law_X4_ifFlipped_a
set_option maxRecDepth 20000 in
theorem gL_law_X4_ifFlipped : GoodIn wsL_law (wsV RL 160 RX4 yX4_ifFlipped wsX4_ifFlipped) := goodIn_app (goodIn_of _ (by decide +kernel)) ggL_law_X4_ifFlipped
def ggL_law_L_ifPaths_l : List Cond := (Cond.codeWith yL_ifPaths cL_ifPaths 4 (some .int) [(0, 9, 12, 13)] :: ((wsL_ifPaths_r1 ++ (wsL_ifPaths_r2 ++ (wsL_ifPaths_r3 ++ (wsL_ifPaths_r4 ++ wsL_ifPaths_r5)))) ++ wsX30 ++ wsX20 ++ wsX00))
set_option maxRecDepth 40000 in
theorem ggL_law_L_ifPaths_p0 : GoodIn wsL_law ((ggL_law_L_ifPaths_l.drop 0).take 30) := goodIn_r _ [719, 73, 720, 721, 722, 2, 723, 78, 79, 28, 16, 493, 494, 495, 26, 496, 497, 498, 45, 499, 500, 47, 48, 501, 49, 502, 170, 171, 15, 172] (by decide +kernel) (by decide +kernel)
set_option maxRecDepth 40000 in
theorem ggL_law_L_ifPaths_p1 : GoodIn wsL_law ((ggL_law_L_ifPaths_l.drop 30).take 30) := goodIn_r _ [98, 503, 504, 505, 506, 507, 508, 509, 510, 511, 46, 512, 95, 96, 97, 513, 514, 515, 516, 247, 248, 249, 517, 518, 519, 520, 521, 522, 523, 524] (by decide +kernel) (by decide +kernel)
set_option maxRecDepth 40000 in
theorem ggL_law_L_ifPaths_p2 : GoodIn wsL_law ((ggL_law_L_ifPaths_l.drop 60).take 30) := goodIn_r _ [52, 53, 525, 526, 527, 528, 529, 530, 531, 532, 533, 534, 535, 536, 537, 538, 539, 540, 51, 541, 214, 215, 216, 217, 218, 219, 220, 221, 222, 223] (by decide +kernel) (by decide +kernel)
set_option maxRecDepth 40000 in
theorem ggL_law_L_ifPaths_p3 : GoodIn wsL_law ((ggL_law_L_ifPaths_l.drop 90).take 30) := goodIn_r _ [224, 225, 226, 227, 228, 229, 230, 231, 34, 232, 233, 234, 235, 542, 543, 544, 545, 546, 35, 246, 240, 241, 828, 829, 830, 831, 832, 833, 834, 835] (by decide +kernel) (by decide +kernel)
set_option maxRecDepth 40000 in
theorem ggL_law_L_ifPaths_p4 : GoodIn wsL_law ((ggL_law_L_ifPaths_l.drop 120).take 17) := goodIn_r _ [836, 855, 856, 857, 858, 865, 866, 867, 868, 869, 870, 871, 872, 873, 874, 875, 876] (by decide +kernel) (by decide +kernel)
theorem ggL_law_L_ifPaths_a : GoodIn wsL_law ggL_law_L_ifPaths_l := goodIn_all 137 (by decide +kernel) (goodIn_ch 120 17 (goodIn_ch 90 30 (goodIn_ch 60 30 (goodIn_ch 30 30 (goodIn_ch 0 30 goodIn_0 ggL_law_L_ifPaths_p0) ggL_law_L_ifPaths_p1) ggL_law_L_ifPaths_p2) ggL_law_L_ifPaths_p3) ggL_law_L_ifPaths_p4)
set_option maxRecDepth 40000 in
theorem ggL_law_L_ifPaths : GoodIn wsL_law wsL_ifPaths := goodIn_ca (ggL_law_L_ifPaths_a) (goodIn_sub (fun _ h => List.mem_append_left _ (List.mem_append_left _ (List.mem_append_right _ h))) (by decide +kernel))
set_option maxRecDepth 20000 in
theorem gL_law_L_ifPaths : GoodIn wsL_law (va_wsS RL 161 yL_ifPaths wsL_ifPaths) := goodIn_app (goodIn_of _ (by decide +kernel)) ggL_law_L_ifPaths
def ggL_law_X4_ifPaths_l : List Cond := wsX4_ifPaths
set_option maxRecDepth 40000 in
theorem ggL_law_X4_ifPaths_p0 : GoodIn wsL_law ((ggL_law_X4_ifPaths_l.drop 0).take 30) := goodIn_r _ [727, 68, 103, 104, 5, 105, 728, 729, 730, 731, 58, 713, 714, 715, 716, 62, 563, 564, 565, 566, 567, 568, 569, 570, 571, 63, 64, 65, 572, 573] (by decide +kernel) (by decide +kernel)
set_option maxRecDepth 40000 in
theorem ggL_law_X4_ifPaths_p1 : GoodIn wsL_law ((ggL_law_X4_ifPaths_l.drop 30).take 30) := goodIn_r _ [574, 575, 576, 577, 578, 579, 580, 581, 582, 583, 66, 584, 585, 586, 587, 313, 314, 315, 282, 283, 284, 588, 589, 590, 591, 181, 182, 183, 184, 592] (by decide +kernel) (by decide +kernel)
set_option maxRecDepth 40000 in
theorem ggL_law_X4_ifPaths_p2 : GoodIn wsL_law ((ggL_law_X4_ifPaths_l.drop 60).take 30) := goodIn_r _ [593, 594, 595, 596, 597, 598, 599, 600, 601, 602, 603, 604, 605, 606, 607, 258, 259, 260, 261, 262, 263, 264, 265, 266, 267, 268, 269, 274, 275, 276] (by decide +kernel) (by decide +kernel)
set_option maxRecDepth 40000 in
theorem ggL_law_X4_ifPaths_p3 : GoodIn wsL_law ((ggL_law_X4_ifPaths_l.drop 90).take 23) := goodIn_r _ [277, 106, 107, 108, 109, 837, 838, 839, 840, 841, 842, 843, 844, 845, 846, 847, 848, 849, 850, 851, 852, 853, 854] (by decide +kernel) (by decide +kernel)
theorem ggL_law_X4_ifPaths_a : GoodIn wsL_law ggL_law_X4_ifPaths_l := goodIn_all 113 (by decide +kernel) (goodIn_ch 90 23 (goodIn_ch 60 30 (goodIn_ch 30 30 (goodIn_ch 0 30 goodIn_0 ggL_law_X4_ifPaths_p0) ggL_law_X4_ifPaths_p1) ggL_law_X4_ifPaths_p2) ggL_law_X4_ifPaths_p3)
set_option maxRecDepth 40000 in
theorem ggL_law_X4_ifPaths : GoodIn wsL_law wsX4_ifPaths := ggL_law_X4_ifPaths_a
set_option maxRecDepth 20000 in
theorem gL_law_X4_ifPaths : GoodIn wsL_law (wsV RL 163 RX4 yX4_ifPaths wsX4_ifPaths) := goodIn_app (goodIn_of _ (by decide +kernel)) ggL_law_X4_ifPaths
def ggL_law_X3_weakest_l : List Cond := wsX3_weakest
set_option maxRecDepth 40000 in
theorem ggL_law_X3_weakest_p0 : GoodIn wsL_law ((ggL_law_X3_weakest_l.drop 0).take 30) := goodIn_r _ [735, 16, 194, 28, 80, 493, 494, 495, 26, 496, 497, 498, 45, 499, 500, 47, 48, 501, 49, 502, 170, 171, 15, 172, 98, 503, 504, 505, 506, 507] (by decide +kernel) (by decide +kernel)
set_option maxRecDepth 40000 in
theorem ggL_law_X3_weakest_p1 : GoodIn wsL_law ((ggL_law_X3_weakest_l.drop 30).take 30) := goodIn_r _ [508, 509, 510, 511, 46, 512, 95, 96, 97, 513, 514, 515, 516, 247, 2, 248, 249, 517, 518, 519, 520, 521, 522, 523, 524, 52, 53, 525, 526, 527] (by decide +kernel) (by decide +kernel)
set_option maxRecDepth 40000 in
theorem ggL_law_X3_weakest_p2 : GoodIn wsL_law ((ggL_law_X3_weakest_l.drop 60).take 30) := goodIn_r _ [528, 529, 530, 531, 532, 533, 534, 535, 536, 537, 538, 539, 540, 51, 541, 214, 215, 216, 217, 218, 219, 220, 221, 222, 223, 224, 225, 226, 227, 228] (by decide +kernel) (by decide +kernel)
set_option maxRecDepth 40000 in
theorem ggL_law_X3_weakest_p3 : GoodIn wsL_law ((ggL_law_X3_weakest_l.drop 90).take 30) := goodIn_r _ [229, 230, 231, 34, 232, 233, 234, 235, 542, 543, 544, 545, 546, 35, 246, 240, 241, 828, 829, 830, 831, 832, 833, 834, 835, 836, 855, 856, 857, 858] (by decide +kernel) (by decide +kernel)
set_option maxRecDepth 40000 in
theorem ggL_law_X3_weakest_p4 : GoodIn wsL_law ((ggL_law_X3_weakest_l.drop 120).take 12) := goodIn_r _ [865, 866, 867, 868, 869, 870, 871, 872, 873, 874, 875, 876] (by decide +kernel) (by decide +kernel)
theorem ggL_law_X3_weakest_a : GoodIn wsL_law ggL_law_X3_weakest_l := goodIn_all 132 (by decide +kernel) (goodIn_ch 120 12 (goodIn_ch 90 30 (goodIn_ch 60 30 (goodIn_ch 30 30 (goodIn_ch 0 30 goodIn_0 ggL_law_X3_weakest_p0) ggL_law_X3_weakest_p1) ggL_law_X3_weakest_p2) ggL_law_X3_weakest_p3) ggL_law_X3_weakest_p4)
set_option maxRecDepth 40000 in
theorem ggL_law_X3_weakest : GoodIn wsL_law wsX3_weakest := ggL_law_X3_weakest_a
set_option maxRecDepth 20000 in
theorem gL_law_X3_weakest : GoodIn wsL_law (wsV RL 164 RX3 yX3_weakest wsX3_weakest) := goodIn_app (goodIn_of _ (by decide +kernel)) ggL_law_X3_weakest
def ggL_law_X4_weakest_l : List Cond := wsX4_weakest
set_option maxRecDepth 40000 in
theorem ggL_law_X4_weakest_p0 : GoodIn wsL_law ((ggL_law_X4_weakest_l.drop 0).take 30) := goodIn_r _ [739, 68, 740, 741, 742, 5, 743, 58, 713, 714, 715, 716, 62, 563, 564, 565, 566, 567, 568, 569, 570, 571, 63, 64, 65, 572, 573, 574, 575, 576] (by decide +kernel) (by decide +kernel)
set_option maxRecDepth 40000 in
theorem ggL_law_X4_weakest_p1 : GoodIn wsL_law ((ggL_law_X4_weakest_l.drop 30).take 30) := goodIn_r _ [577, 578, 579, 580, 581, 582, 583, 66, 584, 585, 586, 587, 313, 314, 315, 282, 283, 284, 588, 589, 590, 591, 181, 182, 183, 184, 592, 593, 594, 595] (by decide +kernel) (by decide +kernel)
set_option maxRecDepth 40000 in
theorem ggL_law_X4_weakest_p2 : GoodIn wsL_law ((ggL_law_X4_weakest_l.drop 60).take 30) := goodIn_r _ [596, 597, 598, 599, 600, 601, 602, 603, 604, 605, 606, 607, 258, 259, 260, 261, 262, 263, 264, 265, 266, 267, 268, 269, 274, 275, 276, 277, 709, 710] (by decide +kernel) (by decide +kernel)
set_option maxRecDepth 40000 in
theorem ggL_law_X4_weakest_p3 : GoodIn wsL_law ((ggL_law_X4_weakest_l.drop 90).take 20) := goodIn_r _ [711, 712, 837, 838, 839, 840, 841, 842, 843, 844, 845, 846, 847, 848, 849, 850, 851, 852, 853, 854] (by decide +kernel) (by decide +kernel)
theorem ggL_law_X4_weakest_a : GoodIn wsL_law ggL_law_X4_weakest_l := goodIn_all 110 (by decide +kernel) (goodIn_ch 90 20 (goodIn_ch 60 30 (goodIn_ch 30 30 (goodIn_ch 0 30 goodIn_0 ggL_law_X4_weakest_p0) ggL_law_X4_weakest_p1) ggL_law_X4_weakest_p2) ggL_law_X4_weakest_p3)
set_option maxRecDepth 40000 in
theorem ggL_law_X4_weakest : GoodIn wsL_law wsX4_weakest := ggL_law_X4_weakest_a
set_option maxRecDepth 20000 in
theorem gL_law_X4_weakest : GoodIn wsL_law (wsV RL 167 RX4 yX4_weakest wsX4_weakest) := goodIn_app (goodIn_of _ (by decide +kernel)) ggL_law_X4_weakest
def ggL_law_X3_borne_l : List Cond := wsX3_borne
set_option maxRecDepth 40000 in
theorem ggL_law_X3_borne_p0 : GoodIn wsL_law ((ggL_law_X3_borne_l.drop 0).take 30) := goodIn_r _ [747, 16, 194, 28, 80, 493, 494, 495, 26, 496, 497, 498, 45, 499, 500, 47, 48, 501, 49, 502, 170, 171, 15, 172, 98, 503, 504, 505, 506, 507] (by decide +kernel) (by decide +kernel)
set_option maxRecDepth 40000 in
theorem ggL_law_X3_borne_p1 : GoodIn wsL_law ((ggL_law_X3_borne_l.drop 30).take 30) := goodIn_r _ [508, 509, 510, 511, 46, 512, 95, 96, 97, 513, 514, 515, 516, 247, 2, 248, 249, 517, 518, 519, 520, 521, 522, 523, 524, 52, 53, 525, 526, 527] (by decide +kernel) (by decide +kernel)
set_option maxRecDepth 40000 in
theorem ggL_law_X3_borne_p2 : GoodIn wsL_law ((ggL_law_X3_borne_l.drop 60).take 30) := goodIn_r _ [528, 529, 530, 531, 532, 533, 534, 535, 536, 537, 538, 539, 540, 51, 541, 214, 215, 216, 217, 218, 219, 220, 221, 222, 223, 224, 225, 226, 227, 228] (by decide +kernel) (by decide +kernel)
set_option maxRecDepth 40000 in
theorem ggL_law_X3_borne_p3 : GoodIn wsL_law ((ggL_law_X3_borne_l.drop 90).take 30) := goodIn_r _ [229, 230, 231, 34, 232, 233, 234, 235, 542, 543, 544, 545, 546, 35, 246, 240, 241, 828, 829, 830, 831, 832, 833, 834, 835, 836, 855, 856, 857, 858] (by decide +kernel) (by decide +kernel)
set_option maxRecDepth 40000 in
theorem ggL_law_X3_borne_p4 : GoodIn wsL_law ((ggL_law_X3_borne_l.drop 120).take 12) := goodIn_r _ [865, 866, 867, 868, 869, 870, 871, 872, 873, 874, 875, 876] (by decide +kernel) (by decide +kernel)
theorem ggL_law_X3_borne_a : GoodIn wsL_law ggL_law_X3_borne_l := goodIn_all 132 (by decide +kernel) (goodIn_ch 120 12 (goodIn_ch 90 30 (goodIn_ch 60 30 (goodIn_ch 30 30 (goodIn_ch 0 30 goodIn_0 ggL_law_X3_borne_p0) ggL_law_X3_borne_p1) ggL_law_X3_borne_p2) ggL_law_X3_borne_p3) ggL_law_X3_borne_p4)
set_option maxRecDepth 40000 in
theorem ggL_law_X3_borne : GoodIn wsL_law wsX3_borne := ggL_law_X3_borne_a
set_option maxRecDepth 20000 in
theorem gL_law_X3_borne : GoodIn wsL_law (wsV RL 168 RX3 yX3_borne wsX3_borne) := goodIn_app (goodIn_of _ (by decide +kernel)) ggL_law_X3_borne
def ggL_law_X4_borne_l : List Cond := wsX4_borne
set_option maxRecDepth 40000 in
theorem ggL_law_X4_borne_p0 : GoodIn wsL_law ((ggL_law_X4_borne_l.drop 0).take 30) := goodIn_r _ [751, 68, 752, 753, 754, 5, 755, 58, 713, 714, 715, 716, 62, 563, 564, 565, 566, 567, 568, 569, 570, 571, 63, 64, 65, 572, 573, 574, 575, 576] (by decide +kernel) (by decide +kernel)
set_option maxRecDepth 40000 in
theorem ggL_law_X4_borne_p1 : GoodIn wsL_law ((ggL_law_X4_borne_l.drop 30).take 30) := goodIn_r _ [577, 578, 579, 580, 581, 582, 583, 66, 584, 585, 586, 587, 313, 314, 315, 282, 283, 284, 588, 589, 590, 591, 181, 182, 183, 184, 592, 593, 594, 595] (by decide +kernel) (by decide +kernel)
set_option maxRecDepth 40000 in
theorem ggL_law_X4_borne_p2 : GoodIn wsL_law ((ggL_law_X4_borne_l.drop 60).take 30) := goodIn_r _ [596, 597, 598, 599, 600, 601, 602, 603, 604, 605, 606, 607, 258, 259, 260, 261, 262, 263, 264, 265, 266, 267, 268, 269, 274, 275, 276, 277, 756, 757] (by decide +kernel) (by decide +kernel)
