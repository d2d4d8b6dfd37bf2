set_option maxRecDepth 40000 in
theorem ggL_law_X3_count_p1 : GoodIn wsL_law ((ggL_law_X3_count_l.drop 30).take 30) := goodIn_r _ [84, 85, 86, 87, 88, 89, 90, 91, 92, 31, 29, 93, 94, 95, 96, 97, 98, 99, 100, 101, 102, 2, 103, 104, 23, 105, 106, 107, 108, 22] (by decide +kernel) (by decide +kernel)
set_option maxRecDepth 40000 in
theorem ggL_law_X3_count_p2 : GoodIn wsL_law ((ggL_law_X3_count_l.drop 60).take 30) := goodIn_r _ [109, 110, 111, 41, 112, 113, 43, 44, 114, 45, 115, 116, 117, 118, 119, 120, 121, 122, 123, 124, 125, 126, 127, 42, 128, 129, 130, 131, 132, 133] (by decide +kernel) (by decide +kernel)
set_option maxRecDepth 40000 in
theorem ggL_law_X3_count_p3 : GoodIn wsL_law ((ggL_law_X3_count_l.drop 90).take 30) := goodIn_r _ [134, 135, 136, 137, 138, 139, 140, 141, 142, 143, 144, 145, 146, 48, 49, 147, 148, 149, 150, 151, 152, 153, 154, 155, 156, 157, 158, 159, 160, 161] (by decide +kernel) (by decide +kernel)
set_option maxRecDepth 40000 in
theorem ggL_law_X3_count_p4 : GoodIn wsL_law ((ggL_law_X3_count_l.drop 120).take 30) := goodIn_r _ [162, 47, 163, 164, 165, 166, 167, 168, 169, 170, 171, 172, 173, 174, 175, 375, 376, 377, 378, 379, 380, 381, 382, 383, 384, 385, 386, 387, 394, 395] (by decide +kernel) (by decide +kernel)
set_option maxRecDepth 40000 in
theorem ggL_law_X3_count_p5 : GoodIn wsL_law ((ggL_law_X3_count_l.drop 150).take 10) := goodIn_r _ [396, 397, 398, 399, 400, 401, 402, 403, 404, 405] (by decide +kernel) (by decide +kernel)
theorem ggL_law_X3_count_a : GoodIn wsL_law ggL_law_X3_count_l := goodIn_all 160 (by decide +kernel) (goodIn_ch 150 10 (goodIn_ch 120 30 (goodIn_ch 90 30 (goodIn_ch 60 30 (goodIn_ch 30 30 (goodIn_ch 0 30 goodIn_0 ggL_law_X3_count_p0) ggL_law_X3_count_p1) ggL_law_X3_count_p2) ggL_law_X3_count_p3) ggL_law_X3_count_p4) ggL_law_X3_count_p5)
set_option maxRecDepth 40000 in
theorem ggL_law_X3_count : GoodIn wsL_law wsX3_count := goodIn_ca (ggL_law_X3_count_a) (goodIn_sub (fun _ h => List.mem_append_left _ (List.mem_append_left _ (List.mem_append_right _ h))) (by decide +kernel))
set_option maxRecDepth 20000 in
theorem gL_law_X3_count : GoodIn wsL_law (wsV RL 12 RX3 yX3_count wsX3_count) := goodIn_app (goodIn_of _ (by decide +kernel)) ggL_law_X3_count
set_option maxRecDepth 20000 in
theorem ggL_law_X3_undo : GoodIn wsL_law wsX3_undo := goodIn_ca (goodIn_r _ [179, 180, 181, 62, 12, 13, 182, 104, 183, 184, 185, 11, 186, 29, 187, 129, 130, 131, 30, 31, 67, 375, 376, 377, 378, 379, 380, 381, 382, 383, 384, 385, 386, 387] (by decide +kernel) (by decide +kernel)) (goodIn_sub (fun _ h => List.mem_append_left _ (List.mem_append_right _ h)) (by decide +kernel))
set_option maxRecDepth 20000 in
theorem gL_law_X3_undo : GoodIn wsL_law (wsV RL 74 RX3 yX3_undo wsX3_undo) := goodIn_app (goodIn_of _ (by decide +kernel)) ggL_law_X3_undo
def ggL_law_L_told_l : List Cond := (Cond.code yL_told cL_told 4 (some .long) :: ((wsL_told_r1 ++ (wsL_told_r2 ++ (wsL_told_r3 ++ (wsL_told_r4 ++ (wsL_told_r5 ++ (wsL_told_r6 ++ (wsL_told_r7 ++ (wsL_told_r8 ++ wsL_told_r9)))))))) ++ wsX30 ++ wsX20 ++ wsX00))
set_option maxRecDepth 40000 in
theorem ggL_law_L_told_p0 : GoodIn wsL_law ((ggL_law_L_told_l.drop 0).take 30) := goodIn_r _ [190, 191, 192, 54, 55, 56, 2, 57, 58, 59, 12, 60, 61, 62, 63, 64, 65, 11, 66, 67, 68, 69, 70, 71, 72, 73, 74, 75, 76, 77] (by decide +kernel) (by decide +kernel)
set_option maxRecDepth 40000 in
theorem ggL_law_L_told_p1 : GoodIn wsL_law ((ggL_law_L_told_l.drop 30).take 30) := goodIn_r _ [78, 79, 80, 81, 82, 83, 30, 84, 85, 86, 87, 88, 89, 90, 91, 92, 31, 29, 93, 94, 95, 96, 97, 98, 99, 100, 101, 102, 103, 104] (by decide +kernel) (by decide +kernel)
set_option maxRecDepth 40000 in
theorem ggL_law_L_told_p2 : GoodIn wsL_law ((ggL_law_L_told_l.drop 60).take 30) := goodIn_r _ [23, 105, 106, 107, 108, 22, 109, 110, 111, 41, 112, 113, 43, 44, 114, 45, 115, 116, 117, 118, 119, 120, 121, 122, 123, 124, 125, 126, 127, 42] (by decide +kernel) (by decide +kernel)
set_option maxRecDepth 40000 in
theorem ggL_law_L_told_p3 : GoodIn wsL_law ((ggL_law_L_told_l.drop 90).take 30) := goodIn_r _ [128, 129, 130, 131, 132, 133, 134, 135, 136, 137, 138, 139, 140, 141, 142, 143, 144, 145, 146, 48, 49, 147, 148, 149, 150, 151, 152, 153, 154, 155] (by decide +kernel) (by decide +kernel)
set_option maxRecDepth 40000 in
theorem ggL_law_L_told_p4 : GoodIn wsL_law ((ggL_law_L_told_l.drop 120).take 30) := goodIn_r _ [156, 157, 158, 159, 160, 161, 162, 47, 163, 164, 165, 166, 167, 168, 169, 170, 171, 172, 173, 174, 175, 193, 194, 195, 196, 197, 198, 199, 200, 201] (by decide +kernel) (by decide +kernel)
set_option maxRecDepth 40000 in
theorem ggL_law_L_told_p5 : GoodIn wsL_law ((ggL_law_L_told_l.drop 150).take 30) := goodIn_r _ [202, 203, 204, 205, 206, 207, 208, 209, 210, 211, 212, 213, 214, 215, 216, 217, 218, 219, 220, 221, 222, 223, 224, 225, 226, 227, 228, 229, 230, 231] (by decide +kernel) (by decide +kernel)
set_option maxRecDepth 40000 in
theorem ggL_law_L_told_p6 : GoodIn wsL_law ((ggL_law_L_told_l.drop 180).take 30) := goodIn_r _ [232, 233, 234, 235, 236, 237, 238, 239, 240, 241, 242, 243, 244, 245, 246, 247, 248, 249, 375, 376, 377, 378, 379, 380, 381, 382, 383, 384, 385, 386] (by decide +kernel) (by decide +kernel)
set_option maxRecDepth 40000 in
theorem ggL_law_L_told_p7 : GoodIn wsL_law ((ggL_law_L_told_l.drop 210).take 13) := goodIn_r _ [387, 394, 395, 396, 397, 398, 399, 400, 401, 402, 403, 404, 405] (by decide +kernel) (by decide +kernel)
theorem ggL_law_L_told_a : GoodIn wsL_law ggL_law_L_told_l := goodIn_all 223 (by decide +kernel) (goodIn_ch 210 13 (goodIn_ch 180 30 (goodIn_ch 150 30 (goodIn_ch 120 30 (goodIn_ch 90 30 (goodIn_ch 60 30 (goodIn_ch 30 30 (goodIn_ch 0 30 goodIn_0 ggL_law_L_told_p0) ggL_law_L_told_p1) ggL_law_L_told_p2) ggL_law_L_told_p3) ggL_law_L_told_p4) ggL_law_L_told_p5) ggL_law_L_told_p6) ggL_law_L_told_p7)
set_option maxRecDepth 40000 in
theorem ggL_law_L_told : GoodIn wsL_law wsL_told := goodIn_ca (goodIn_ca (ggL_law_L_told_a) (goodIn_sub (fun _ h => List.mem_append_left _ (List.mem_append_left _ (List.mem_append_right _ h))) (by decide +kernel))) (goodIn_sub (fun _ h => List.mem_append_right _ h) (by decide +kernel))
set_option maxRecDepth 20000 in
theorem gL_law_L_told : GoodIn wsL_law (va_wsS RL 78 yL_told wsL_told) := goodIn_app (goodIn_of _ (by decide +kernel)) ggL_law_L_told
def ggL_law_L_act_l : List Cond := (Cond.code yL_act cL_act 6 (some .int) :: ((wsL_act_r1 ++ (wsL_act_r2 ++ (wsL_act_r3 ++ (wsL_act_r4 ++ (wsL_act_r5 ++ (wsL_act_r6 ++ (wsL_act_r7 ++ (wsL_act_r8 ++ (wsL_act_r9 ++ wsL_act_r10))))))))) ++ wsX30 ++ wsX20 ++ wsX00))
set_option maxRecDepth 40000 in
theorem ggL_law_L_act_p0 : GoodIn wsL_law ((ggL_law_L_act_l.drop 0).take 30) := goodIn_r _ [252, 54, 55, 56, 2, 57, 58, 59, 12, 60, 61, 62, 63, 64, 65, 11, 66, 67, 68, 69, 70, 71, 72, 73, 74, 75, 76, 77, 78, 79] (by decide +kernel) (by decide +kernel)
set_option maxRecDepth 40000 in
theorem ggL_law_L_act_p1 : GoodIn wsL_law ((ggL_law_L_act_l.drop 30).take 30) := goodIn_r _ [80, 81, 82, 83, 30, 84, 85, 86, 87, 88, 89, 90, 91, 92, 31, 29, 93, 94, 95, 96, 97, 98, 99, 100, 101, 102, 103, 104, 23, 105] (by decide +kernel) (by decide +kernel)
set_option maxRecDepth 40000 in
theorem ggL_law_L_act_p2 : GoodIn wsL_law ((ggL_law_L_act_l.drop 60).take 30) := goodIn_r _ [106, 107, 108, 22, 109, 110, 111, 41, 112, 113, 43, 44, 114, 45, 115, 116, 117, 118, 119, 120, 121, 122, 123, 124, 125, 126, 127, 42, 128, 129] (by decide +kernel) (by decide +kernel)
set_option maxRecDepth 40000 in
theorem ggL_law_L_act_p3 : GoodIn wsL_law ((ggL_law_L_act_l.drop 90).take 30) := goodIn_r _ [130, 131, 132, 133, 134, 135, 136, 137, 138, 139, 140, 141, 142, 143, 144, 145, 146, 48, 49, 147, 148, 149, 150, 151, 152, 153, 154, 155, 156, 157] (by decide +kernel) (by decide +kernel)
set_option maxRecDepth 40000 in
theorem ggL_law_L_act_p4 : GoodIn wsL_law ((ggL_law_L_act_l.drop 120).take 30) := goodIn_r _ [158, 159, 160, 161, 162, 47, 163, 164, 165, 166, 167, 168, 169, 170, 171, 172, 173, 174, 175, 253, 254, 52, 255, 256, 257, 258, 259, 260, 261, 203] (by decide +kernel) (by decide +kernel)
set_option maxRecDepth 40000 in
theorem ggL_law_L_act_p5 : GoodIn wsL_law ((ggL_law_L_act_l.drop 150).take 30) := goodIn_r _ [262, 263, 264, 265, 13, 182, 183, 184, 185, 186, 187, 266, 267, 268, 269, 180, 181, 216, 217, 218, 219, 220, 210, 211, 212, 213, 214, 215, 270, 271] (by decide +kernel) (by decide +kernel)
set_option maxRecDepth 40000 in
theorem ggL_law_L_act_p6 : GoodIn wsL_law ((ggL_law_L_act_l.drop 180).take 30) := goodIn_r _ [272, 273, 197, 198, 204, 205, 206, 207, 208, 274, 275, 276, 277, 278, 279, 280, 281, 282, 283, 284, 285, 286, 287, 230, 288, 289, 290, 291, 242, 243] (by decide +kernel) (by decide +kernel)
set_option maxRecDepth 40000 in
theorem ggL_law_L_act_p7 : GoodIn wsL_law ((ggL_law_L_act_l.drop 210).take 30) := goodIn_r _ [244, 245, 292, 293, 294, 295, 296, 297, 298, 299, 300, 19, 301, 302, 303, 304, 375, 376, 377, 378, 379, 380, 381, 382, 383, 384, 385, 386, 387, 394] (by decide +kernel) (by decide +kernel)
set_option maxRecDepth 40000 in
theorem ggL_law_L_act_p8 : GoodIn wsL_law ((ggL_law_L_act_l.drop 240).take 11) := goodIn_r _ [395, 396, 397, 398, 399, 400, 401, 402, 403, 404, 405] (by decide +kernel) (by decide +kernel)
theorem ggL_law_L_act_a : GoodIn wsL_law ggL_law_L_act_l := goodIn_all 251 (by decide +kernel) (goodIn_ch 240 11 (goodIn_ch 210 30 (goodIn_ch 180 30 (goodIn_ch 150 30 (goodIn_ch 120 30 (goodIn_ch 90 30 (goodIn_ch 60 30 (goodIn_ch 30 30 (goodIn_ch 0 30 goodIn_0 ggL_law_L_act_p0) ggL_law_L_act_p1) ggL_law_L_act_p2) ggL_law_L_act_p3) ggL_law_L_act_p4) ggL_law_L_act_p5) ggL_law_L_act_p6) ggL_law_L_act_p7) ggL_law_L_act_p8)
set_option maxRecDepth 40000 in
theorem ggL_law_L_act : GoodIn wsL_law wsL_act := goodIn_ca (goodIn_ca (goodIn_ca (ggL_law_L_act_a) (goodIn_sub (fun _ h => List.mem_append_left _ (List.mem_append_left _ (List.mem_append_right _ h))) (by decide +kernel))) (goodIn_sub (fun _ h => List.mem_append_left _ (List.mem_append_right _ h)) (by decide +kernel))) (goodIn_sub (fun _ h => List.mem_append_right _ h) (by decide +kernel))
set_option maxRecDepth 20000 in
theorem gL_law_L_act : GoodIn wsL_law (va_wsS RL 82 yL_act wsL_act) := goodIn_app (goodIn_of _ (by decide +kernel)) ggL_law_L_act
def ggL_law_L_holds_l : List Cond := (Cond.code yL_holds cL_holds 14 (some .boolean) :: ((wsL_holds_r1 ++ (wsL_holds_r2 ++ (wsL_holds_r3 ++ (wsL_holds_r4 ++ (wsL_holds_r5 ++ (wsL_holds_r6 ++ (wsL_holds_r7 ++ (wsL_holds_r8 ++ wsL_holds_r9)))))))) ++ wsX30 ++ wsX20 ++ wsX00))
set_option maxRecDepth 40000 in
theorem ggL_law_L_holds_p0 : GoodIn wsL_law ((ggL_law_L_holds_l.drop 0).take 30) := goodIn_r _ [307, 308, 54, 55, 56, 2, 57, 58, 59, 12, 60, 61, 62, 63, 64, 65, 11, 66, 67, 68, 69, 70, 71, 72, 73, 74, 75, 76, 77, 78] (by decide +kernel) (by decide +kernel)
set_option maxRecDepth 40000 in
theorem ggL_law_L_holds_p1 : GoodIn wsL_law ((ggL_law_L_holds_l.drop 30).take 30) := goodIn_r _ [79, 80, 81, 82, 83, 30, 84, 85, 86, 87, 88, 89, 90, 91, 92, 31, 29, 93, 94, 95, 96, 97, 98, 99, 100, 101, 102, 103, 104, 23] (by decide +kernel) (by decide +kernel)
set_option maxRecDepth 40000 in
theorem ggL_law_L_holds_p2 : GoodIn wsL_law ((ggL_law_L_holds_l.drop 60).take 30) := goodIn_r _ [105, 106, 107, 108, 22, 109, 110, 111, 41, 112, 113, 43, 44, 114, 45, 115, 116, 117, 118, 119, 120, 121, 122, 123, 124, 125, 126, 127, 42, 128] (by decide +kernel) (by decide +kernel)
set_option maxRecDepth 40000 in
theorem ggL_law_L_holds_p3 : GoodIn wsL_law ((ggL_law_L_holds_l.drop 90).take 30) := goodIn_r _ [129, 130, 131, 132, 133, 134, 135, 136, 137, 138, 139, 140, 141, 142, 143, 144, 145, 146, 48, 49, 147, 148, 149, 150, 151, 152, 153, 154, 155, 156] (by decide +kernel) (by decide +kernel)
set_option maxRecDepth 40000 in
theorem ggL_law_L_holds_p4 : GoodIn wsL_law ((ggL_law_L_holds_l.drop 120).take 30) := goodIn_r _ [157, 158, 159, 160, 161, 162, 47, 163, 164, 165, 166, 167, 168, 169, 170, 171, 172, 173, 174, 175, 199, 200, 201, 202, 197, 198, 203, 204, 205, 206] (by decide +kernel) (by decide +kernel)
set_option maxRecDepth 40000 in
theorem ggL_law_L_holds_p5 : GoodIn wsL_law ((ggL_law_L_holds_l.drop 150).take 30) := goodIn_r _ [207, 208, 209, 210, 211, 212, 213, 214, 215, 216, 217, 218, 219, 220, 221, 222, 223, 224, 225, 226, 227, 228, 229, 230, 309, 310, 311, 312, 236, 237] (by decide +kernel) (by decide +kernel)
set_option maxRecDepth 40000 in
theorem ggL_law_L_holds_p6 : GoodIn wsL_law ((ggL_law_L_holds_l.drop 180).take 30) := goodIn_r _ [313, 231, 232, 233, 234, 235, 238, 239, 240, 241, 242, 243, 244, 245, 246, 247, 248, 249, 314, 315, 316, 317, 318, 193, 194, 195, 196, 319, 320, 321] (by decide +kernel) (by decide +kernel)
set_option maxRecDepth 40000 in
theorem ggL_law_L_holds_p7 : GoodIn wsL_law ((ggL_law_L_holds_l.drop 210).take 27) := goodIn_r _ [322, 24, 375, 376, 377, 378, 379, 380, 381, 382, 383, 384, 385, 386, 387, 394, 395, 396, 397, 398, 399, 400, 401, 402, 403, 404, 405] (by decide +kernel) (by decide +kernel)
theorem ggL_law_L_holds_a : GoodIn wsL_law ggL_law_L_holds_l := goodIn_all 237 (by decide +kernel) (goodIn_ch 210 27 (goodIn_ch 180 30 (goodIn_ch 150 30 (goodIn_ch 120 30 (goodIn_ch 90 30 (goodIn_ch 60 30 (goodIn_ch 30 30 (goodIn_ch 0 30 goodIn_0 ggL_law_L_holds_p0) ggL_law_L_holds_p1) ggL_law_L_holds_p2) ggL_law_L_holds_p3) ggL_law_L_holds_p4) ggL_law_L_holds_p5) ggL_law_L_holds_p6) ggL_law_L_holds_p7)
set_option maxRecDepth 40000 in
theorem ggL_law_L_holds : GoodIn wsL_law wsL_holds := goodIn_ca (goodIn_ca (ggL_law_L_holds_a) (goodIn_sub (fun _ h => List.mem_append_left _ (List.mem_append_left _ (List.mem_append_right _ h))) (by decide +kernel))) (goodIn_sub (fun _ h => List.mem_append_right _ h) (by decide +kernel))
set_option maxRecDepth 20000 in
theorem gL_law_L_holds : GoodIn wsL_law (va_wsS RL 86 yL_holds wsL_holds) := goodIn_app (goodIn_of _ (by decide +kernel)) ggL_law_L_holds
def ggL_law_X3_digest_l : List Cond := (Cond.code yX3_digest cX3_digest 5 (some .long) :: ((wsX3_digest_r1 ++ (wsX3_digest_r2 ++ (wsX3_digest_r3 ++ (wsX3_digest_r4 ++ (wsX3_digest_r5 ++ (wsX3_digest_r6 ++ (wsX3_digest_r7 ++ (wsX3_digest_r8 ++ (wsX3_digest_r9 ++ (wsX3_digest_r10 ++ wsX3_digest_r11)))))))))) ++ wsX30 ++ wsX20 ++ wsX10 ++ wsX00))
set_option maxRecDepth 40000 in
theorem ggL_law_X3_digest_p0 : GoodIn wsL_law ((ggL_law_X3_digest_l.drop 0).take 30) := goodIn_r _ [326, 327, 328, 12, 60, 329, 17, 330, 331, 332, 55, 56, 2, 57, 58, 59, 61, 62, 63, 64, 65, 11, 66, 67, 68, 69, 70, 71, 72, 73] (by decide +kernel) (by decide +kernel)
set_option maxRecDepth 40000 in
theorem ggL_law_X3_digest_p1 : GoodIn wsL_law ((ggL_law_X3_digest_l.drop 30).take 30) := goodIn_r _ [74, 75, 76, 77, 78, 79, 80, 81, 82, 83, 30, 84, 85, 86, 87, 88, 89, 90, 91, 92, 31, 29, 93, 94, 95, 96, 97, 98, 99, 100] (by decide +kernel) (by decide +kernel)
set_option maxRecDepth 40000 in
theorem ggL_law_X3_digest_p2 : GoodIn wsL_law ((ggL_law_X3_digest_l.drop 60).take 30) := goodIn_r _ [101, 102, 103, 104, 23, 105, 106, 107, 108, 22, 109, 110, 111, 41, 112, 113, 43, 44, 114, 45, 115, 116, 117, 118, 119, 120, 121, 122, 123, 124] (by decide +kernel) (by decide +kernel)
set_option maxRecDepth 40000 in
theorem ggL_law_X3_digest_p3 : GoodIn wsL_law ((ggL_law_X3_digest_l.drop 90).take 30) := goodIn_r _ [125, 126, 127, 42, 128, 129, 130, 131, 132, 133, 134, 135, 136, 137, 138, 139, 140, 141, 142, 143, 144, 145, 146, 48, 49, 147, 148, 149, 150, 151] (by decide +kernel) (by decide +kernel)
set_option maxRecDepth 40000 in
theorem ggL_law_X3_digest_p4 : GoodIn wsL_law ((ggL_law_X3_digest_l.drop 120).take 30) := goodIn_r _ [152, 153, 154, 155, 156, 157, 158, 159, 160, 161, 162, 47, 163, 164, 165, 166, 167, 168, 169, 170, 171, 172, 173, 174, 175, 333, 194, 195, 196, 197] (by decide +kernel) (by decide +kernel)
set_option maxRecDepth 40000 in
theorem ggL_law_X3_digest_p5 : GoodIn wsL_law ((ggL_law_X3_digest_l.drop 150).take 30) := goodIn_r _ [198, 334, 200, 201, 202, 203, 204, 205, 206, 207, 208, 209, 210, 211, 212, 213, 214, 215, 216, 217, 218, 219, 220, 221, 222, 223, 224, 225, 226, 227] (by decide +kernel) (by decide +kernel)
set_option maxRecDepth 40000 in
theorem ggL_law_X3_digest_p6 : GoodIn wsL_law ((ggL_law_X3_digest_l.drop 180).take 30) := goodIn_r _ [228, 229, 230, 335, 336, 337, 338, 339, 340, 341, 342, 343, 344, 345, 346, 24, 347, 232, 233, 234, 235, 236, 237, 238, 239, 240, 241, 242, 243, 244] (by decide +kernel) (by decide +kernel)
set_option maxRecDepth 40000 in
theorem ggL_law_X3_digest_p7 : GoodIn wsL_law ((ggL_law_X3_digest_l.drop 210).take 30) := goodIn_r _ [245, 246, 247, 248, 249, 348, 310, 311, 312, 313, 349, 350, 351, 352, 353, 354, 355, 356, 357, 358, 284, 285, 286, 287, 288, 289, 290, 291, 359, 320] (by decide +kernel) (by decide +kernel)
set_option maxRecDepth 40000 in
theorem ggL_law_X3_digest_p8 : GoodIn wsL_law ((ggL_law_X3_digest_l.drop 240).take 30) := goodIn_r _ [321, 322, 360, 361, 362, 363, 364, 365, 366, 367, 368, 315, 316, 317, 318, 369, 370, 371, 372, 373, 374, 375, 376, 377, 378, 379, 380, 381, 382, 383] (by decide +kernel) (by decide +kernel)
set_option maxRecDepth 40000 in
theorem ggL_law_X3_digest_p9 : GoodIn wsL_law ((ggL_law_X3_digest_l.drop 270).take 22) := goodIn_r _ [384, 385, 386, 387, 388, 389, 390, 391, 392, 393, 394, 395, 396, 397, 398, 399, 400, 401, 402, 403, 404, 405] (by decide +kernel) (by decide +kernel)
theorem ggL_law_X3_digest_a : GoodIn wsL_law ggL_law_X3_digest_l := goodIn_all 292 (by decide +kernel) (goodIn_ch 270 22 (goodIn_ch 240 30 (goodIn_ch 210 30 (goodIn_ch 180 30 (goodIn_ch 150 30 (goodIn_ch 120 30 (goodIn_ch 90 30 (goodIn_ch 60 30 (goodIn_ch 30 30 (goodIn_ch 0 30 goodIn_0 ggL_law_X3_digest_p0) ggL_law_X3_digest_p1) ggL_law_X3_digest_p2) ggL_law_X3_digest_p3) ggL_law_X3_digest_p4) ggL_law_X3_digest_p5) ggL_law_X3_digest_p6) ggL_law_X3_digest_p7) ggL_law_X3_digest_p8) ggL_law_X3_digest_p9)
set_option maxRecDepth 40000 in
theorem ggL_law_X3_digest : GoodIn wsL_law wsX3_digest := goodIn_ca (goodIn_ca (ggL_law_X3_digest_a) (goodIn_sub (fun _ h => List.mem_append_left _ (List.mem_append_left _ (List.mem_append_right _ h))) (by decide +kernel))) (goodIn_sub (fun _ h => List.mem_append_right _ h) (by decide +kernel))
set_option maxRecDepth 20000 in
theorem gL_law_X3_digest : GoodIn wsL_law (wsV RL 90 RX3 yX3_digest wsX3_digest) := goodIn_app (goodIn_of _ (by decide +kernel)) ggL_law_X3_digest
theorem dL_law_0 : decode cL_law 0 = .ok (.new 13, 3) := by decide +kernel
theorem dL_law_3 : decode cL_law 3 = .ok (.dup, 1) := by decide +kernel
theorem dL_law_4 : decode cL_law 4 = .ok (.invokespecial 69, 3) := by decide +kernel
theorem dL_law_7 : decode cL_law 7 = .ok (.astore_n 1, 1) := by decide +kernel
theorem dL_law_8 : decode cL_law 8 = .ok (.iconst 0, 1) := by decide +kernel
theorem dL_law_9 : decode cL_law 9 = .ok (.istore_n 2, 1) := by decide +kernel
theorem dL_law_10 : decode cL_law 10 = .ok (.iload_n 2, 1) := by decide +kernel
theorem dL_law_11 : decode cL_law 11 = .ok (.bipush 40, 2) := by decide +kernel
theorem dL_law_13 : decode cL_law 13 = .ok (.if_icmp .ge 181, 3) := by decide +kernel
theorem dL_law_16 : decode cL_law 16 = .ok (.aload_n 0, 1) := by decide +kernel
theorem dL_law_17 : decode cL_law 17 = .ok (.iconst 2, 1) := by decide +kernel
theorem dL_law_18 : decode cL_law 18 = .ok (.iload_n 2, 1) := by decide +kernel
theorem dL_law_19 : decode cL_law 19 = .ok (.imul, 1) := by decide +kernel
theorem dL_law_20 : decode cL_law 20 = .ok (.invokestatic 70, 3) := by decide +kernel
theorem dL_law_23 : decode cL_law 23 = .ok (.istore_n 3, 1) := by decide +kernel
theorem dL_law_24 : decode cL_law 24 = .ok (.aload_n 0, 1) := by decide +kernel
theorem dL_law_25 : decode cL_law 25 = .ok (.iconst 2, 1) := by decide +kernel
theorem dL_law_26 : decode cL_law 26 = .ok (.iload_n 2, 1) := by decide +kernel
theorem dL_law_27 : decode cL_law 27 = .ok (.imul, 1) := by decide +kernel
theorem dL_law_28 : decode cL_law 28 = .ok (.iconst 1, 1) := by decide +kernel
theorem dL_law_29 : decode cL_law 29 = .ok (.iadd, 1) := by decide +kernel
theorem dL_law_30 : decode cL_law 30 = .ok (.invokestatic 70, 3) := by decide +kernel
theorem dL_law_33 : decode cL_law 33 = .ok (.istore 4, 2) := by decide +kernel
theorem dL_law_35 : decode cL_law 35 = .ok (.aload_n 1, 1) := by decide +kernel
theorem dL_law_36 : decode cL_law 36 = .ok (.bipush 8, 2) := by decide +kernel
theorem dL_law_38 : decode cL_law 38 = .ok (.invokevirtual 12, 3) := by decide +kernel
theorem dL_law_41 : decode cL_law 41 = .ok (.bipush 6, 2) := by decide +kernel
theorem dL_law_43 : decode cL_law 43 = .ok (.if_icmp .ne 13, 3) := by decide +kernel
theorem dL_law_46 : decode cL_law 46 = .ok (.aload_n 1, 1) := by decide +kernel
theorem dL_law_47 : decode cL_law 47 = .ok (.invokevirtual 74, 3) := by decide +kernel
theorem dL_law_50 : decode cL_law 50 = .ok (.pop, 1) := by decide +kernel
theorem dL_law_51 : decode cL_law 51 = .ok (.aload_n 1, 1) := by decide +kernel
theorem dL_law_52 : decode cL_law 52 = .ok (.invokevirtual 74, 3) := by decide +kernel
theorem dL_law_55 : decode cL_law 55 = .ok (.pop, 1) := by decide +kernel
theorem dL_law_56 : decode cL_law 56 = .ok (.aload_n 1, 1) := by decide +kernel
theorem dL_law_57 : decode cL_law 57 = .ok (.bipush 8, 2) := by decide +kernel
theorem dL_law_59 : decode cL_law 59 = .ok (.invokevirtual 12, 3) := by decide +kernel
theorem dL_law_62 : decode cL_law 62 = .ok (.istore 5, 2) := by decide +kernel
theorem dL_law_64 : decode cL_law 64 = .ok (.aload_n 1, 1) := by decide +kernel
theorem dL_law_65 : decode cL_law 65 = .ok (.invokestatic 78, 3) := by decide +kernel
theorem dL_law_68 : decode cL_law 68 = .ok (.lstore 6, 2) := by decide +kernel
theorem dL_law_70 : decode cL_law 70 = .ok (.aload_n 1, 1) := by decide +kernel
theorem dL_law_71 : decode cL_law 71 = .ok (.iload_n 3, 1) := by decide +kernel
theorem dL_law_72 : decode cL_law 72 = .ok (.iload 4, 2) := by decide +kernel
theorem dL_law_74 : decode cL_law 74 = .ok (.invokestatic 82, 3) := by decide +kernel
theorem dL_law_77 : decode cL_law 77 = .ok (.istore 8, 2) := by decide +kernel
theorem dL_law_79 : decode cL_law 79 = .ok (.aload_n 1, 1) := by decide +kernel
theorem dL_law_80 : decode cL_law 80 = .ok (.invokestatic 78, 3) := by decide +kernel
theorem dL_law_83 : decode cL_law 83 = .ok (.lstore 9, 2) := by decide +kernel
theorem dL_law_85 : decode cL_law 85 = .ok (.iload 8, 2) := by decide +kernel
theorem dL_law_87 : decode cL_law 87 = .ok (.ifCond .lt 16, 3) := by decide +kernel
theorem dL_law_90 : decode cL_law 90 = .ok (.aload_n 1, 1) := by decide +kernel
theorem dL_law_91 : decode cL_law 91 = .ok (.bipush 8, 2) := by decide +kernel
theorem dL_law_93 : decode cL_law 93 = .ok (.invokevirtual 12, 3) := by decide +kernel
theorem dL_law_96 : decode cL_law 96 = .ok (.iload 5, 2) := by decide +kernel
theorem dL_law_98 : decode cL_law 98 = .ok (.iconst 1, 1) := by decide +kernel
theorem dL_law_99 : decode cL_law 99 = .ok (.iadd, 1) := by decide +kernel
theorem dL_law_100 : decode cL_law 100 = .ok (.if_icmp .eq 5, 3) := by decide +kernel
theorem dL_law_103 : decode cL_law 103 = .ok (.iconst 0, 1) := by decide +kernel
theorem dL_law_104 : decode cL_law 104 = .ok (.ireturn, 1) := by decide +kernel
theorem dL_law_105 : decode cL_law 105 = .ok (.iload_n 3, 1) := by decide +kernel
theorem dL_law_106 : decode cL_law 106 = .ok (.bipush 9, 2) := by decide +kernel
theorem dL_law_108 : decode cL_law 108 = .ok (.ishr, 1) := by decide +kernel
theorem dL_law_109 : decode cL_law 109 = .ok (.iconst 1, 1) := by decide +kernel
theorem dL_law_110 : decode cL_law 110 = .ok (.iand, 1) := by decide +kernel
theorem dL_law_111 : decode cL_law 111 = .ok (.ifCond .ne 46, 3) := by decide +kernel
theorem dL_law_114 : decode cL_law 114 = .ok (.aload_n 1, 1) := by decide +kernel
theorem dL_law_115 : decode cL_law 115 = .ok (.invokevirtual 74, 3) := by decide +kernel
theorem dL_law_118 : decode cL_law 118 = .ok (.iload 5, 2) := by decide +kernel
theorem dL_law_120 : decode cL_law 120 = .ok (.if_icmp .ne 35, 3) := by decide +kernel
theorem dL_law_123 : decode cL_law 123 = .ok (.aload_n 1, 1) := by decide +kernel
theorem dL_law_124 : decode cL_law 124 = .ok (.invokestatic 78, 3) := by decide +kernel
theorem dL_law_127 : decode cL_law 127 = .ok (.lload 6, 2) := by decide +kernel
theorem dL_law_129 : decode cL_law 129 = .ok (.lcmp, 1) := by decide +kernel
theorem dL_law_130 : decode cL_law 130 = .ok (.ifCond .ne 25, 3) := by decide +kernel
theorem dL_law_133 : decode cL_law 133 = .ok (.aload_n 1, 1) := by decide +kernel
theorem dL_law_134 : decode cL_law 134 = .ok (.iload_n 3, 1) := by decide +kernel
theorem dL_law_135 : decode cL_law 135 = .ok (.iload 4, 2) := by decide +kernel
theorem dL_law_137 : decode cL_law 137 = .ok (.invokestatic 82, 3) := by decide +kernel
theorem dL_law_140 : decode cL_law 140 = .ok (.iload 8, 2) := by decide +kernel
theorem dL_law_142 : decode cL_law 142 = .ok (.if_icmp .ne 13, 3) := by decide +kernel
theorem dL_law_145 : decode cL_law 145 = .ok (.aload_n 1, 1) := by decide +kernel
theorem dL_law_146 : decode cL_law 146 = .ok (.invokestatic 78, 3) := by decide +kernel
theorem dL_law_149 : decode cL_law 149 = .ok (.lload 9, 2) := by decide +kernel
theorem dL_law_151 : decode cL_law 151 = .ok (.lcmp, 1) := by decide +kernel
theorem dL_law_152 : decode cL_law 152 = .ok (.ifCond .eq 5, 3) := by decide +kernel
theorem dL_law_155 : decode cL_law 155 = .ok (.iconst 0, 1) := by decide +kernel
theorem dL_law_156 : decode cL_law 156 = .ok (.ireturn, 1) := by decide +kernel
theorem dL_law_157 : decode cL_law 157 = .ok (.aload_n 1, 1) := by decide +kernel
theorem dL_law_158 : decode cL_law 158 = .ok (.invokestatic 86, 3) := by decide +kernel
theorem dL_law_161 : decode cL_law 161 = .ok (.ifCond .eq 25, 3) := by decide +kernel
theorem dL_law_164 : decode cL_law 164 = .ok (.aload_n 1, 1) := by decide +kernel
theorem dL_law_165 : decode cL_law 165 = .ok (.invokevirtual 90, 3) := by decide +kernel
theorem dL_law_168 : decode cL_law 168 = .ok (.aload_n 1, 1) := by decide +kernel
theorem dL_law_169 : decode cL_law 169 = .ok (.invokevirtual 90, 3) := by decide +kernel
theorem dL_law_172 : decode cL_law 172 = .ok (.lcmp, 1) := by decide +kernel
theorem dL_law_173 : decode cL_law 173 = .ok (.ifCond .ne 13, 3) := by decide +kernel
theorem dL_law_176 : decode cL_law 176 = .ok (.aload_n 1, 1) := by decide +kernel
theorem dL_law_177 : decode cL_law 177 = .ok (.invokestatic 78, 3) := by decide +kernel
theorem dL_law_180 : decode cL_law 180 = .ok (.lload 9, 2) := by decide +kernel
theorem dL_law_182 : decode cL_law 182 = .ok (.lcmp, 1) := by decide +kernel
theorem dL_law_183 : decode cL_law 183 = .ok (.ifCond .eq 5, 3) := by decide +kernel
theorem dL_law_186 : decode cL_law 186 = .ok (.iconst 0, 1) := by decide +kernel
theorem dL_law_187 : decode cL_law 187 = .ok (.ireturn, 1) := by decide +kernel
theorem dL_law_188 : decode cL_law 188 = .ok (.iinc 2 1, 3) := by decide +kernel
theorem dL_law_191 : decode cL_law 191 = .ok (.goto (-181), 3) := by decide +kernel
theorem dL_law_194 : decode cL_law 194 = .ok (.iconst 1, 1) := by decide +kernel
theorem dL_law_195 : decode cL_law 195 = .ok (.ireturn, 1) := by decide +kernel
