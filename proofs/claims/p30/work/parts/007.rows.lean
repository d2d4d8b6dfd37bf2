theorem dX3_bitsOfShare_60 : decode cX3_bitsOfShare 60 = .ok (.dconst 1, 1) := by decide +kernel
theorem dX3_bitsOfShare_61 : decode cX3_bitsOfShare 61 = .ok (.dsub, 1) := by decide +kernel
theorem dX3_bitsOfShare_62 : decode cX3_bitsOfShare 62 = .ok (.dload 6, 2) := by decide +kernel
theorem dX3_bitsOfShare_64 : decode cX3_bitsOfShare 64 = .ok (.dmul, 1) := by decide +kernel
theorem dX3_bitsOfShare_65 : decode cX3_bitsOfShare 65 = .ok (.d2l, 1) := by decide +kernel
theorem dX3_bitsOfShare_66 : decode cX3_bitsOfShare 66 = .ok (.ladd, 1) := by decide +kernel
theorem dX3_bitsOfShare_67 : decode cX3_bitsOfShare 67 = .ok (.lreturn, 1) := by decide +kernel
theorem dJ6_bitCount_0f7a4_0 : decode cJ6_bitCount_0f7a4 0 = .ok (.iload_n 0, 1) := by decide +kernel
theorem dJ6_bitCount_0f7a4_1 : decode cJ6_bitCount_0f7a4 1 = .ok (.iload_n 0, 1) := by decide +kernel
theorem dJ6_bitCount_0f7a4_2 : decode cJ6_bitCount_0f7a4 2 = .ok (.iconst 1, 1) := by decide +kernel
theorem dJ6_bitCount_0f7a4_3 : decode cJ6_bitCount_0f7a4 3 = .ok (.iushr, 1) := by decide +kernel
theorem dJ6_bitCount_0f7a4_4 : decode cJ6_bitCount_0f7a4 4 = .ok (.ldc_w 265, 3) := by decide +kernel
theorem dJ6_bitCount_0f7a4_7 : decode cJ6_bitCount_0f7a4 7 = .ok (.iand, 1) := by decide +kernel
theorem dJ6_bitCount_0f7a4_8 : decode cJ6_bitCount_0f7a4 8 = .ok (.isub, 1) := by decide +kernel
theorem dJ6_bitCount_0f7a4_9 : decode cJ6_bitCount_0f7a4 9 = .ok (.istore_n 0, 1) := by decide +kernel
theorem dJ6_bitCount_0f7a4_10 : decode cJ6_bitCount_0f7a4 10 = .ok (.iload_n 0, 1) := by decide +kernel
theorem dJ6_bitCount_0f7a4_11 : decode cJ6_bitCount_0f7a4 11 = .ok (.ldc_w 266, 3) := by decide +kernel
theorem dJ6_bitCount_0f7a4_14 : decode cJ6_bitCount_0f7a4 14 = .ok (.iand, 1) := by decide +kernel
theorem dJ6_bitCount_0f7a4_15 : decode cJ6_bitCount_0f7a4 15 = .ok (.iload_n 0, 1) := by decide +kernel
theorem dJ6_bitCount_0f7a4_16 : decode cJ6_bitCount_0f7a4 16 = .ok (.iconst 2, 1) := by decide +kernel
theorem dJ6_bitCount_0f7a4_17 : decode cJ6_bitCount_0f7a4 17 = .ok (.iushr, 1) := by decide +kernel
theorem dJ6_bitCount_0f7a4_18 : decode cJ6_bitCount_0f7a4 18 = .ok (.ldc_w 266, 3) := by decide +kernel
theorem dJ6_bitCount_0f7a4_21 : decode cJ6_bitCount_0f7a4 21 = .ok (.iand, 1) := by decide +kernel
theorem dJ6_bitCount_0f7a4_22 : decode cJ6_bitCount_0f7a4 22 = .ok (.iadd, 1) := by decide +kernel
theorem dJ6_bitCount_0f7a4_23 : decode cJ6_bitCount_0f7a4 23 = .ok (.istore_n 0, 1) := by decide +kernel
theorem dJ6_bitCount_0f7a4_24 : decode cJ6_bitCount_0f7a4 24 = .ok (.iload_n 0, 1) := by decide +kernel
theorem dJ6_bitCount_0f7a4_25 : decode cJ6_bitCount_0f7a4 25 = .ok (.iload_n 0, 1) := by decide +kernel
theorem dJ6_bitCount_0f7a4_26 : decode cJ6_bitCount_0f7a4 26 = .ok (.iconst 4, 1) := by decide +kernel
theorem dJ6_bitCount_0f7a4_27 : decode cJ6_bitCount_0f7a4 27 = .ok (.iushr, 1) := by decide +kernel
theorem dJ6_bitCount_0f7a4_28 : decode cJ6_bitCount_0f7a4 28 = .ok (.iadd, 1) := by decide +kernel
theorem dJ6_bitCount_0f7a4_29 : decode cJ6_bitCount_0f7a4 29 = .ok (.ldc_w 267, 3) := by decide +kernel
theorem dJ6_bitCount_0f7a4_32 : decode cJ6_bitCount_0f7a4 32 = .ok (.iand, 1) := by decide +kernel
theorem dJ6_bitCount_0f7a4_33 : decode cJ6_bitCount_0f7a4 33 = .ok (.istore_n 0, 1) := by decide +kernel
theorem dJ6_bitCount_0f7a4_34 : decode cJ6_bitCount_0f7a4 34 = .ok (.iload_n 0, 1) := by decide +kernel
theorem dJ6_bitCount_0f7a4_35 : decode cJ6_bitCount_0f7a4 35 = .ok (.iload_n 0, 1) := by decide +kernel
theorem dJ6_bitCount_0f7a4_36 : decode cJ6_bitCount_0f7a4 36 = .ok (.bipush 8, 2) := by decide +kernel
theorem dJ6_bitCount_0f7a4_38 : decode cJ6_bitCount_0f7a4 38 = .ok (.iushr, 1) := by decide +kernel
theorem dJ6_bitCount_0f7a4_39 : decode cJ6_bitCount_0f7a4 39 = .ok (.iadd, 1) := by decide +kernel
theorem dJ6_bitCount_0f7a4_40 : decode cJ6_bitCount_0f7a4 40 = .ok (.istore_n 0, 1) := by decide +kernel
theorem dJ6_bitCount_0f7a4_41 : decode cJ6_bitCount_0f7a4 41 = .ok (.iload_n 0, 1) := by decide +kernel
theorem dJ6_bitCount_0f7a4_42 : decode cJ6_bitCount_0f7a4 42 = .ok (.iload_n 0, 1) := by decide +kernel
theorem dJ6_bitCount_0f7a4_43 : decode cJ6_bitCount_0f7a4 43 = .ok (.bipush 16, 2) := by decide +kernel
theorem dJ6_bitCount_0f7a4_45 : decode cJ6_bitCount_0f7a4 45 = .ok (.iushr, 1) := by decide +kernel
theorem dJ6_bitCount_0f7a4_46 : decode cJ6_bitCount_0f7a4 46 = .ok (.iadd, 1) := by decide +kernel
theorem dJ6_bitCount_0f7a4_47 : decode cJ6_bitCount_0f7a4 47 = .ok (.istore_n 0, 1) := by decide +kernel
theorem dJ6_bitCount_0f7a4_48 : decode cJ6_bitCount_0f7a4 48 = .ok (.iload_n 0, 1) := by decide +kernel
theorem dJ6_bitCount_0f7a4_49 : decode cJ6_bitCount_0f7a4 49 = .ok (.bipush 63, 2) := by decide +kernel
theorem dJ6_bitCount_0f7a4_51 : decode cJ6_bitCount_0f7a4 51 = .ok (.iand, 1) := by decide +kernel
theorem dJ6_bitCount_0f7a4_52 : decode cJ6_bitCount_0f7a4 52 = .ok (.ireturn, 1) := by decide +kernel
theorem dJ9_abs_0f7a4_0 : decode cJ9_abs_0f7a4 0 = .ok (.iload_n 0, 1) := by decide +kernel
theorem dJ9_abs_0f7a4_1 : decode cJ9_abs_0f7a4 1 = .ok (.ifCond .ge 8, 3) := by decide +kernel
theorem dJ9_abs_0f7a4_4 : decode cJ9_abs_0f7a4 4 = .ok (.iload_n 0, 1) := by decide +kernel
theorem dJ9_abs_0f7a4_5 : decode cJ9_abs_0f7a4 5 = .ok (.ineg, 1) := by decide +kernel
theorem dJ9_abs_0f7a4_6 : decode cJ9_abs_0f7a4 6 = .ok (.goto 4, 3) := by decide +kernel
theorem dJ9_abs_0f7a4_9 : decode cJ9_abs_0f7a4 9 = .ok (.iload_n 0, 1) := by decide +kernel
theorem dJ9_abs_0f7a4_10 : decode cJ9_abs_0f7a4 10 = .ok (.ireturn, 1) := by decide +kernel
theorem dJ9_min_7cf53_0 : decode cJ9_min_7cf53 0 = .ok (.iload_n 0, 1) := by decide +kernel
theorem dJ9_min_7cf53_1 : decode cJ9_min_7cf53 1 = .ok (.iload_n 1, 1) := by decide +kernel
theorem dJ9_min_7cf53_2 : decode cJ9_min_7cf53 2 = .ok (.if_icmp .gt 7, 3) := by decide +kernel
theorem dJ9_min_7cf53_5 : decode cJ9_min_7cf53 5 = .ok (.iload_n 0, 1) := by decide +kernel
theorem dJ9_min_7cf53_6 : decode cJ9_min_7cf53 6 = .ok (.goto 4, 3) := by decide +kernel
theorem dJ9_min_7cf53_9 : decode cJ9_min_7cf53 9 = .ok (.iload_n 1, 1) := by decide +kernel
theorem dJ9_min_7cf53_10 : decode cJ9_min_7cf53 10 = .ok (.ireturn, 1) := by decide +kernel
theorem dL_cell_0 : decode cL_cell 0 = .ok (.iload_n 1, 1) := by decide +kernel
theorem dL_cell_1 : decode cL_cell 1 = .ok (.aload_n 0, 1) := by decide +kernel
theorem dL_cell_2 : decode cL_cell 2 = .ok (.arraylength, 1) := by decide +kernel
theorem dL_cell_3 : decode cL_cell 3 = .ok (.if_icmp .ge 9, 3) := by decide +kernel
theorem dL_cell_6 : decode cL_cell 6 = .ok (.aload_n 0, 1) := by decide +kernel
theorem dL_cell_7 : decode cL_cell 7 = .ok (.iload_n 1, 1) := by decide +kernel
theorem dL_cell_8 : decode cL_cell 8 = .ok (.iaload, 1) := by decide +kernel
theorem dL_cell_9 : decode cL_cell 9 = .ok (.goto 15, 3) := by decide +kernel
theorem dL_cell_12 : decode cL_cell 12 = .ok (.sipush 7919, 3) := by decide +kernel
theorem dL_cell_15 : decode cL_cell 15 = .ok (.iload_n 1, 1) := by decide +kernel
theorem dL_cell_16 : decode cL_cell 16 = .ok (.iconst 3, 1) := by decide +kernel
theorem dL_cell_17 : decode cL_cell 17 = .ok (.iadd, 1) := by decide +kernel
theorem dL_cell_18 : decode cL_cell 18 = .ok (.imul, 1) := by decide +kernel
theorem dL_cell_19 : decode cL_cell 19 = .ok (.iload_n 1, 1) := by decide +kernel
theorem dL_cell_20 : decode cL_cell 20 = .ok (.bipush 11, 2) := by decide +kernel
theorem dL_cell_22 : decode cL_cell 22 = .ok (.iadd, 1) := by decide +kernel
theorem dL_cell_23 : decode cL_cell 23 = .ok (.imul, 1) := by decide +kernel
theorem dL_cell_24 : decode cL_cell 24 = .ok (.ireturn, 1) := by decide +kernel
theorem dL_low_0 : decode cL_low 0 = .ok (.iload_n 0, 1) := by decide +kernel
theorem dL_low_1 : decode cL_low 1 = .ok (.ldc 7, 2) := by decide +kernel
theorem dL_low_3 : decode cL_low 3 = .ok (.iand, 1) := by decide +kernel
theorem dL_low_4 : decode cL_low 4 = .ok (.iload_n 1, 1) := by decide +kernel
theorem dL_low_5 : decode cL_low 5 = .ok (.irem, 1) := by decide +kernel
theorem dL_low_6 : decode cL_low 6 = .ok (.ireturn, 1) := by decide +kernel
def ggL_told_X3_count_l : List Cond := (Cond.code yX3_count cX3_count 2 (some .int) :: ((wsX3_count_r1 ++ (wsX3_count_r2 ++ (wsX3_count_r3 ++ (wsX3_count_r4 ++ (wsX3_count_r5 ++ wsX3_count_r6))))) ++ wsX30 ++ wsX20 ++ wsX00))
set_option maxRecDepth 40000 in
theorem ggL_told_X3_count_p0 : GoodIn wsL_told ((ggL_told_X3_count_l.drop 0).take 30) := goodIn_r _ [7, 8, 9, 10, 11, 12, 13, 14, 15, 16, 17, 18, 19, 20, 21, 22, 23, 24, 25, 26, 27, 28, 29, 30, 31, 32, 33, 34, 35, 36] (by decide +kernel) (by decide +kernel)
set_option maxRecDepth 40000 in
theorem ggL_told_X3_count_p1 : GoodIn wsL_told ((ggL_told_X3_count_l.drop 30).take 30) := goodIn_r _ [37, 38, 39, 40, 41, 42, 43, 44, 45, 46, 47, 48, 49, 50, 51, 52, 53, 54, 55, 56, 57, 6, 58, 59, 60, 61, 62, 63, 64, 65] (by decide +kernel) (by decide +kernel)
set_option maxRecDepth 40000 in
theorem ggL_told_X3_count_p2 : GoodIn wsL_told ((ggL_told_X3_count_l.drop 60).take 30) := goodIn_r _ [66, 67, 68, 69, 70, 71, 72, 73, 74, 75, 76, 77, 78, 79, 80, 81, 82, 83, 84, 85, 86, 87, 88, 89, 90, 91, 92, 93, 94, 95] (by decide +kernel) (by decide +kernel)
set_option maxRecDepth 40000 in
theorem ggL_told_X3_count_p3 : GoodIn wsL_told ((ggL_told_X3_count_l.drop 90).take 30) := goodIn_r _ [96, 97, 98, 99, 100, 101, 102, 103, 104, 105, 106, 107, 108, 109, 110, 111, 112, 113, 114, 115, 116, 117, 118, 119, 120, 121, 122, 123, 124, 125] (by decide +kernel) (by decide +kernel)
set_option maxRecDepth 40000 in
theorem ggL_told_X3_count_p4 : GoodIn wsL_told ((ggL_told_X3_count_l.drop 120).take 30) := goodIn_r _ [126, 127, 128, 129, 130, 131, 132, 133, 134, 135, 136, 137, 138, 139, 140, 198, 199, 200, 201, 202, 203, 204, 205, 206, 207, 208, 209, 210, 211, 212] (by decide +kernel) (by decide +kernel)
set_option maxRecDepth 40000 in
theorem ggL_told_X3_count_p5 : GoodIn wsL_told ((ggL_told_X3_count_l.drop 150).take 10) := goodIn_r _ [213, 214, 215, 216, 217, 218, 219, 220, 221, 222] (by decide +kernel) (by decide +kernel)
theorem ggL_told_X3_count_a : GoodIn wsL_told ggL_told_X3_count_l := goodIn_all 160 (by decide +kernel) (goodIn_ch 150 10 (goodIn_ch 120 30 (goodIn_ch 90 30 (goodIn_ch 60 30 (goodIn_ch 30 30 (goodIn_ch 0 30 goodIn_0 ggL_told_X3_count_p0) ggL_told_X3_count_p1) ggL_told_X3_count_p2) ggL_told_X3_count_p3) ggL_told_X3_count_p4) ggL_told_X3_count_p5)
set_option maxRecDepth 40000 in
theorem ggL_told_X3_count : GoodIn wsL_told wsX3_count := goodIn_ca (ggL_told_X3_count_a) (goodIn_sub (fun _ h => List.mem_cons_of_mem _ (List.mem_append_left _ (List.mem_append_right _ h))) (by decide +kernel))
set_option maxRecDepth 20000 in
theorem gL_told_X3_count : GoodIn wsL_told (wsV RL 12 RX3 yX3_count wsX3_count) := goodIn_app (goodIn_of _ (by decide +kernel)) ggL_told_X3_count
set_option maxRecDepth 20000 in
theorem ggL_told_X3_setting : GoodIn wsL_told wsX3_setting := goodIn_ca (goodIn_r _ [144, 145, 146, 10, 61, 198, 199, 200, 201, 202, 203, 204, 205, 206, 207, 208, 209, 210] (by decide +kernel) (by decide +kernel)) (goodIn_sub (fun _ h => List.mem_cons_of_mem _ (List.mem_append_right _ h)) (by decide +kernel))
set_option maxRecDepth 20000 in
theorem gL_told_X3_setting : GoodIn wsL_told (wsV RL 18 RX3 yX3_setting wsX3_setting) := goodIn_app (goodIn_of _ (by decide +kernel)) ggL_told_X3_setting
set_option maxRecDepth 20000 in
theorem ggL_told_X3_place : GoodIn wsL_told wsX3_place := goodIn_ca (goodIn_ca (goodIn_r _ [150, 145, 146, 8, 9, 10, 151, 152, 153, 154, 17, 155, 46, 156, 77, 78, 79, 19, 157, 158, 159, 160, 36, 161, 162, 163, 164, 165, 166, 167, 168, 169, 170, 171, 172, 20, 21, 22, 23, 24, 25, 26, 173, 174, 175, 176, 134, 177, 178, 28, 29, 30, 31, 15, 16, 18, 32, 33, 34, 35, 37, 38, 39, 40, 198, 199, 200, 201, 202, 203, 204, 205, 206, 207, 208, 209, 210] (by decide +kernel) (by decide +kernel)) (goodIn_sub (fun _ h => List.mem_cons_of_mem _ (List.mem_append_right _ h)) (by decide +kernel))) (goodIn_sub (fun _ h => List.mem_cons_of_mem _ (List.mem_append_left _ (List.mem_append_right _ h))) (by decide +kernel))
set_option maxRecDepth 20000 in
theorem gL_told_X3_place : GoodIn wsL_told (wsV RL 21 RX3 yX3_place wsX3_place) := goodIn_app (goodIn_of _ (by decide +kernel)) ggL_told_X3_place
def ggL_told_X3_read_l : List Cond := (Cond.code yX3_read cX3_read 5 (some .int) :: ((wsX3_read_r1 ++ (wsX3_read_r2 ++ (wsX3_read_r3 ++ (wsX3_read_r4 ++ (wsX3_read_r5 ++ wsX3_read_r6))))) ++ wsX00 ++ wsX30 ++ wsX20))
set_option maxRecDepth 40000 in
theorem ggL_told_X3_read_p0 : GoodIn wsL_told ((ggL_told_X3_read_l.drop 0).take 30) := goodIn_r _ [182, 8, 9, 183, 184, 10, 185, 55, 56, 57, 6, 58, 59, 60, 61, 62, 63, 64, 65, 66, 67, 68, 69, 70, 71, 72, 73, 74, 75, 76] (by decide +kernel) (by decide +kernel)
set_option maxRecDepth 40000 in
theorem ggL_told_X3_read_p1 : GoodIn wsL_told ((ggL_told_X3_read_l.drop 30).take 30) := goodIn_r _ [77, 78, 17, 79, 19, 80, 81, 82, 83, 84, 85, 86, 87, 88, 89, 90, 91, 92, 93, 94, 95, 96, 97, 98, 99, 100, 101, 102, 103, 104] (by decide +kernel) (by decide +kernel)
set_option maxRecDepth 40000 in
theorem ggL_told_X3_read_p2 : GoodIn wsL_told ((ggL_told_X3_read_l.drop 60).take 30) := goodIn_r _ [105, 106, 107, 108, 109, 110, 111, 112, 113, 114, 115, 116, 117, 118, 119, 120, 121, 122, 123, 124, 125, 126, 127, 128, 28, 29, 30, 31, 15, 16] (by decide +kernel) (by decide +kernel)
set_option maxRecDepth 40000 in
theorem ggL_told_X3_read_p3 : GoodIn wsL_told ((ggL_told_X3_read_l.drop 90).take 30) := goodIn_r _ [18, 20, 21, 22, 23, 24, 25, 26, 32, 33, 34, 35, 36, 37, 38, 39, 40, 129, 130, 131, 132, 133, 46, 134, 135, 136, 186, 187, 188, 189] (by decide +kernel) (by decide +kernel)
set_option maxRecDepth 40000 in
theorem ggL_told_X3_read_p4 : GoodIn wsL_told ((ggL_told_X3_read_l.drop 120).take 30) := goodIn_r _ [178, 190, 191, 192, 193, 194, 195, 196, 197, 47, 211, 212, 213, 214, 215, 216, 217, 218, 219, 220, 221, 222, 198, 199, 200, 201, 202, 203, 204, 205] (by decide +kernel) (by decide +kernel)
set_option maxRecDepth 40000 in
theorem ggL_told_X3_read_p5 : GoodIn wsL_told ((ggL_told_X3_read_l.drop 150).take 5) := goodIn_r _ [206, 207, 208, 209, 210] (by decide +kernel) (by decide +kernel)
theorem ggL_told_X3_read_a : GoodIn wsL_told ggL_told_X3_read_l := goodIn_all 155 (by decide +kernel) (goodIn_ch 150 5 (goodIn_ch 120 30 (goodIn_ch 90 30 (goodIn_ch 60 30 (goodIn_ch 30 30 (goodIn_ch 0 30 goodIn_0 ggL_told_X3_read_p0) ggL_told_X3_read_p1) ggL_told_X3_read_p2) ggL_told_X3_read_p3) ggL_told_X3_read_p4) ggL_told_X3_read_p5)
set_option maxRecDepth 40000 in
theorem ggL_told_X3_read : GoodIn wsL_told wsX3_read := goodIn_ca (ggL_told_X3_read_a) (goodIn_sub (fun _ h => List.mem_cons_of_mem _ (List.mem_append_left _ (List.mem_append_right _ h))) (by decide +kernel))
set_option maxRecDepth 20000 in
theorem gL_told_X3_read : GoodIn wsL_told (wsV RL 25 RX3 yX3_read wsX3_read) := goodIn_app (goodIn_of _ (by decide +kernel)) ggL_told_X3_read
theorem dL_told_0 : decode cL_told 0 = .ok (.ldc2_w 8, 3) := by decide +kernel
theorem dL_told_3 : decode cL_told 3 = .ok (.lstore_n 1, 1) := by decide +kernel
theorem dL_told_4 : decode cL_told 4 = .ok (.iconst 0, 1) := by decide +kernel
theorem dL_told_5 : decode cL_told 5 = .ok (.istore_n 3, 1) := by decide +kernel
theorem dL_told_6 : decode cL_told 6 = .ok (.iload_n 3, 1) := by decide +kernel
theorem dL_told_7 : decode cL_told 7 = .ok (.bipush 8, 2) := by decide +kernel
theorem dL_told_9 : decode cL_told 9 = .ok (.if_icmp .ge 22, 3) := by decide +kernel
theorem dL_told_12 : decode cL_told 12 = .ok (.ldc2_w 10, 3) := by decide +kernel
theorem dL_told_15 : decode cL_told 15 = .ok (.lload_n 1, 1) := by decide +kernel
theorem dL_told_16 : decode cL_told 16 = .ok (.lmul, 1) := by decide +kernel
theorem dL_told_17 : decode cL_told 17 = .ok (.aload_n 0, 1) := by decide +kernel
theorem dL_told_18 : decode cL_told 18 = .ok (.iload_n 3, 1) := by decide +kernel
theorem dL_told_19 : decode cL_told 19 = .ok (.invokevirtual 12, 3) := by decide +kernel
theorem dL_told_22 : decode cL_told 22 = .ok (.i2l, 1) := by decide +kernel
theorem dL_told_23 : decode cL_told 23 = .ok (.ladd, 1) := by decide +kernel
theorem dL_told_24 : decode cL_told 24 = .ok (.lstore_n 1, 1) := by decide +kernel
theorem dL_told_25 : decode cL_told 25 = .ok (.iinc 3 1, 3) := by decide +kernel
theorem dL_told_28 : decode cL_told 28 = .ok (.goto (-22), 3) := by decide +kernel
theorem dL_told_31 : decode cL_told 31 = .ok (.iconst 0, 1) := by decide +kernel
theorem dL_told_32 : decode cL_told 32 = .ok (.istore_n 3, 1) := by decide +kernel
theorem dL_told_33 : decode cL_told 33 = .ok (.iload_n 3, 1) := by decide +kernel
theorem dL_told_34 : decode cL_told 34 = .ok (.iconst 4, 1) := by decide +kernel
theorem dL_told_35 : decode cL_told 35 = .ok (.if_icmp .ge 22, 3) := by decide +kernel
theorem dL_told_38 : decode cL_told 38 = .ok (.ldc2_w 10, 3) := by decide +kernel
theorem dL_told_41 : decode cL_told 41 = .ok (.lload_n 1, 1) := by decide +kernel
theorem dL_told_42 : decode cL_told 42 = .ok (.lmul, 1) := by decide +kernel
theorem dL_told_43 : decode cL_told 43 = .ok (.aload_n 0, 1) := by decide +kernel
theorem dL_told_44 : decode cL_told 44 = .ok (.iload_n 3, 1) := by decide +kernel
theorem dL_told_45 : decode cL_told 45 = .ok (.invokevirtual 18, 3) := by decide +kernel
theorem dL_told_48 : decode cL_told 48 = .ok (.i2l, 1) := by decide +kernel
theorem dL_told_49 : decode cL_told 49 = .ok (.ladd, 1) := by decide +kernel
theorem dL_told_50 : decode cL_told 50 = .ok (.lstore_n 1, 1) := by decide +kernel
theorem dL_told_51 : decode cL_told 51 = .ok (.iinc 3 1, 3) := by decide +kernel
theorem dL_told_54 : decode cL_told 54 = .ok (.goto (-21), 3) := by decide +kernel
theorem dL_told_57 : decode cL_told 57 = .ok (.iconst 0, 1) := by decide +kernel
theorem dL_told_58 : decode cL_told 58 = .ok (.istore_n 3, 1) := by decide +kernel
theorem dL_told_59 : decode cL_told 59 = .ok (.iload_n 3, 1) := by decide +kernel
theorem dL_told_60 : decode cL_told 60 = .ok (.aload_n 0, 1) := by decide +kernel
theorem dL_told_61 : decode cL_told 61 = .ok (.iconst 0, 1) := by decide +kernel
theorem dL_told_62 : decode cL_told 62 = .ok (.invokevirtual 12, 3) := by decide +kernel
theorem dL_told_65 : decode cL_told 65 = .ok (.if_icmp .ge 35, 3) := by decide +kernel
theorem dL_told_68 : decode cL_told 68 = .ok (.ldc2_w 10, 3) := by decide +kernel
theorem dL_told_71 : decode cL_told 71 = .ok (.ldc2_w 10, 3) := by decide +kernel
theorem dL_told_74 : decode cL_told 74 = .ok (.lload_n 1, 1) := by decide +kernel
theorem dL_told_75 : decode cL_told 75 = .ok (.lmul, 1) := by decide +kernel
theorem dL_told_76 : decode cL_told 76 = .ok (.aload_n 0, 1) := by decide +kernel
theorem dL_told_77 : decode cL_told 77 = .ok (.iload_n 3, 1) := by decide +kernel
theorem dL_told_78 : decode cL_told 78 = .ok (.iconst 3, 1) := by decide +kernel
theorem dL_told_79 : decode cL_told 79 = .ok (.invokevirtual 21, 3) := by decide +kernel
theorem dL_told_82 : decode cL_told 82 = .ok (.i2l, 1) := by decide +kernel
theorem dL_told_83 : decode cL_told 83 = .ok (.ladd, 1) := by decide +kernel
theorem dL_told_84 : decode cL_told 84 = .ok (.lmul, 1) := by decide +kernel
theorem dL_told_85 : decode cL_told 85 = .ok (.aload_n 0, 1) := by decide +kernel
theorem dL_told_86 : decode cL_told 86 = .ok (.iload_n 3, 1) := by decide +kernel
theorem dL_told_87 : decode cL_told 87 = .ok (.iconst 0, 1) := by decide +kernel
theorem dL_told_88 : decode cL_told 88 = .ok (.invokevirtual 21, 3) := by decide +kernel
theorem dL_told_91 : decode cL_told 91 = .ok (.i2l, 1) := by decide +kernel
theorem dL_told_92 : decode cL_told 92 = .ok (.ladd, 1) := by decide +kernel
theorem dL_told_93 : decode cL_told 93 = .ok (.lstore_n 1, 1) := by decide +kernel
theorem dL_told_94 : decode cL_told 94 = .ok (.iinc 3 1, 3) := by decide +kernel
theorem dL_told_97 : decode cL_told 97 = .ok (.goto (-38), 3) := by decide +kernel
theorem dL_told_100 : decode cL_told 100 = .ok (.iconst 0, 1) := by decide +kernel
theorem dL_told_101 : decode cL_told 101 = .ok (.istore_n 3, 1) := by decide +kernel
theorem dL_told_102 : decode cL_told 102 = .ok (.iload_n 3, 1) := by decide +kernel
theorem dL_told_103 : decode cL_told 103 = .ok (.iconst 5, 1) := by decide +kernel
theorem dL_told_104 : decode cL_told 104 = .ok (.if_icmp .ge 22, 3) := by decide +kernel
theorem dL_told_107 : decode cL_told 107 = .ok (.ldc2_w 10, 3) := by decide +kernel
theorem dL_told_110 : decode cL_told 110 = .ok (.lload_n 1, 1) := by decide +kernel
theorem dL_told_111 : decode cL_told 111 = .ok (.lmul, 1) := by decide +kernel
theorem dL_told_112 : decode cL_told 112 = .ok (.aload_n 0, 1) := by decide +kernel
theorem dL_told_113 : decode cL_told 113 = .ok (.iload_n 3, 1) := by decide +kernel
theorem dL_told_114 : decode cL_told 114 = .ok (.invokevirtual 25, 3) := by decide +kernel
theorem dL_told_117 : decode cL_told 117 = .ok (.i2l, 1) := by decide +kernel
theorem dL_told_118 : decode cL_told 118 = .ok (.ladd, 1) := by decide +kernel
theorem dL_told_119 : decode cL_told 119 = .ok (.lstore_n 1, 1) := by decide +kernel
theorem dL_told_120 : decode cL_told 120 = .ok (.iinc 3 1, 3) := by decide +kernel
theorem dL_told_123 : decode cL_told 123 = .ok (.goto (-21), 3) := by decide +kernel
theorem dL_told_126 : decode cL_told 126 = .ok (.lload_n 1, 1) := by decide +kernel
theorem dL_told_127 : decode cL_told 127 = .ok (.lreturn, 1) := by decide +kernel
def ggL_act_X3_count_l : List Cond := (Cond.code yX3_count cX3_count 2 (some .int) :: ((wsX3_count_r1 ++ (wsX3_count_r2 ++ (wsX3_count_r3 ++ (wsX3_count_r4 ++ (wsX3_count_r5 ++ wsX3_count_r6))))) ++ wsX30 ++ wsX20 ++ wsX00))
set_option maxRecDepth 40000 in
theorem ggL_act_X3_count_p0 : GoodIn wsL_act ((ggL_act_X3_count_l.drop 0).take 30) := goodIn_r _ [5, 6, 7, 8, 9, 10, 11, 12, 13, 14, 15, 16, 17, 18, 19, 20, 21, 22, 23, 24, 25, 26, 27, 28, 29, 30, 31, 32, 33, 34] (by decide +kernel) (by decide +kernel)
set_option maxRecDepth 40000 in
theorem ggL_act_X3_count_p1 : GoodIn wsL_act ((ggL_act_X3_count_l.drop 30).take 30) := goodIn_r _ [35, 36, 37, 38, 39, 40, 41, 42, 43, 44, 45, 46, 47, 48, 49, 50, 51, 52, 53, 54, 55, 4, 56, 57, 58, 59, 60, 61, 62, 63] (by decide +kernel) (by decide +kernel)
set_option maxRecDepth 40000 in
theorem ggL_act_X3_count_p2 : GoodIn wsL_act ((ggL_act_X3_count_l.drop 60).take 30) := goodIn_r _ [64, 65, 66, 67, 68, 69, 70, 71, 72, 73, 74, 75, 76, 77, 78, 79, 80, 81, 82, 83, 84, 85, 86, 87, 88, 89, 90, 91, 92, 93] (by decide +kernel) (by decide +kernel)
set_option maxRecDepth 40000 in
theorem ggL_act_X3_count_p3 : GoodIn wsL_act ((ggL_act_X3_count_l.drop 90).take 30) := goodIn_r _ [94, 95, 96, 97, 98, 99, 100, 101, 102, 103, 104, 105, 106, 107, 108, 109, 110, 111, 112, 113, 114, 115, 116, 117, 118, 119, 120, 121, 122, 123] (by decide +kernel) (by decide +kernel)
set_option maxRecDepth 40000 in
theorem ggL_act_X3_count_p4 : GoodIn wsL_act ((ggL_act_X3_count_l.drop 120).take 30) := goodIn_r _ [124, 125, 126, 127, 128, 129, 130, 131, 132, 133, 134, 135, 136, 137, 138, 226, 227, 228, 229, 230, 231, 232, 233, 234, 235, 236, 237, 238, 239, 240] (by decide +kernel) (by decide +kernel)
set_option maxRecDepth 40000 in
theorem ggL_act_X3_count_p5 : GoodIn wsL_act ((ggL_act_X3_count_l.drop 150).take 10) := goodIn_r _ [241, 242, 243, 244, 245, 246, 247, 248, 249, 250] (by decide +kernel) (by decide +kernel)
theorem ggL_act_X3_count_a : GoodIn wsL_act ggL_act_X3_count_l := goodIn_all 160 (by decide +kernel) (goodIn_ch 150 10 (goodIn_ch 120 30 (goodIn_ch 90 30 (goodIn_ch 60 30 (goodIn_ch 30 30 (goodIn_ch 0 30 goodIn_0 ggL_act_X3_count_p0) ggL_act_X3_count_p1) ggL_act_X3_count_p2) ggL_act_X3_count_p3) ggL_act_X3_count_p4) ggL_act_X3_count_p5)
set_option maxRecDepth 40000 in
theorem ggL_act_X3_count : GoodIn wsL_act wsX3_count := goodIn_ca (ggL_act_X3_count_a) (goodIn_sub (fun _ h => List.mem_cons_of_mem _ (List.mem_append_left _ (List.mem_append_left _ (List.mem_append_right _ h)))) (by decide +kernel))
set_option maxRecDepth 20000 in
theorem gL_act_X3_count : GoodIn wsL_act (wsV RL 12 RX3 yX3_count wsX3_count) := goodIn_app (goodIn_of _ (by decide +kernel)) ggL_act_X3_count
set_option maxRecDepth 20000 in
theorem ggL_act_L_low : GoodIn wsL_act wsL_low := goodIn_r _ [142, 143] (by decide +kernel) (by decide +kernel)
set_option maxRecDepth 20000 in
theorem gL_act_L_low : GoodIn wsL_act (va_wsS RL 28 yL_low wsL_low) := goodIn_app (goodIn_of _ (by decide +kernel)) ggL_act_L_low
set_option maxRecDepth 20000 in
theorem ggL_act_X3_begin : GoodIn wsL_act wsX3_begin := goodIn_ca (goodIn_r _ [147, 6, 7, 8, 9, 148, 149, 150, 151, 152, 4, 153, 154, 155, 11, 57, 156, 157, 158, 15, 159, 45, 160, 89, 90, 91, 34, 44, 17, 226, 227, 228, 229, 230, 231, 232, 233, 234, 235, 236, 237, 238] (by decide +kernel) (by decide +kernel)) (goodIn_sub (fun _ h => List.mem_cons_of_mem _ (List.mem_append_left _ (List.mem_append_left _ (List.mem_append_right _ h)))) (by decide +kernel))
set_option maxRecDepth 20000 in
theorem gL_act_X3_begin : GoodIn wsL_act (wsV RL 33 RX3 yX3_begin wsX3_begin) := goodIn_app (goodIn_of _ (by decide +kernel)) ggL_act_X3_begin
set_option maxRecDepth 20000 in
theorem ggL_act_X3_open : GoodIn wsL_act wsX3_open := goodIn_ca (goodIn_ca (goodIn_r _ [164, 6, 7, 165, 166, 8, 9, 148, 150, 151, 152, 4, 153, 154, 155, 11, 57, 156, 157, 158, 15, 159, 45, 160, 89, 90, 91, 34, 44, 17, 167, 168, 169, 170, 171, 172, 173, 174, 175, 176, 177, 226, 227, 228, 229, 230, 231, 232, 233, 234, 235, 236, 237, 238] (by decide +kernel) (by decide +kernel)) (goodIn_sub (fun _ h => List.mem_cons_of_mem _ (List.mem_append_left _ (List.mem_append_left _ (List.mem_append_right _ h)))) (by decide +kernel))) (goodIn_sub (fun _ h => List.mem_cons_of_mem _ (List.mem_append_left _ (List.mem_append_right _ h))) (by decide +kernel))
set_option maxRecDepth 20000 in
theorem gL_act_X3_open : GoodIn wsL_act (wsV RL 36 RX3 yX3_open wsX3_open) := goodIn_app (goodIn_of _ (by decide +kernel)) ggL_act_X3_open
set_option maxRecDepth 20000 in
theorem ggL_act_X3_toggle : GoodIn wsL_act wsX3_toggle := goodIn_ca (goodIn_r _ [181, 182, 183, 8, 148, 184, 185, 186, 15, 187, 44, 150, 151, 152, 4, 153, 154, 155, 11, 57, 156, 157, 158, 159, 45, 160, 89, 90, 91, 34, 17, 188, 75, 76, 77, 226, 227, 228, 229, 230, 231, 232, 233, 234, 235, 236, 237, 238] (by decide +kernel) (by decide +kernel)) (goodIn_sub (fun _ h => List.mem_cons_of_mem _ (List.mem_append_right _ h)) (by decide +kernel))
set_option maxRecDepth 20000 in
theorem gL_act_X3_toggle : GoodIn wsL_act (wsV RL 39 RX3 yX3_toggle wsX3_toggle) := goodIn_app (goodIn_of _ (by decide +kernel)) ggL_act_X3_toggle
set_option maxRecDepth 20000 in
theorem ggL_act_X3_set : GoodIn wsL_act wsX3_set := goodIn_ca (goodIn_ca (goodIn_r _ [192, 182, 183, 6, 7, 193, 194, 8, 59, 150, 151, 152, 4, 153, 154, 155, 11, 57, 156, 157, 158, 15, 159, 45, 160, 89, 90, 91, 34, 44, 17, 226, 227, 228, 229, 230, 231, 232, 233, 234, 235, 236, 237, 238] (by decide +kernel) (by decide +kernel)) (goodIn_sub (fun _ h => List.mem_cons_of_mem _ (List.mem_append_right _ h)) (by decide +kernel))) (goodIn_sub (fun _ h => List.mem_cons_of_mem _ (List.mem_append_left _ (List.mem_append_left _ (List.mem_append_right _ h)))) (by decide +kernel))
set_option maxRecDepth 20000 in
theorem gL_act_X3_set : GoodIn wsL_act (wsV RL 42 RX3 yX3_set wsX3_set) := goodIn_app (goodIn_of _ (by decide +kernel)) ggL_act_X3_set
set_option maxRecDepth 20000 in
theorem ggL_act_X3_send : GoodIn wsL_act wsX3_send := goodIn_ca (goodIn_r _ [198, 6, 7, 8, 59, 9, 149, 199, 200, 201, 15, 202, 203, 26, 27, 28, 29, 13, 14, 16, 17, 18, 19, 20, 21, 22, 23, 24, 30, 31, 32, 33, 34, 35, 36, 37, 38, 150, 151, 152, 4, 153, 154, 155, 11, 57, 156, 157, 158, 159, 45, 160, 89, 90, 91, 44, 204, 205, 206, 207, 133, 134, 208, 209, 210, 211, 132, 75, 76, 77, 96, 97, 98, 226, 227, 228, 229, 230, 231, 232, 233, 234, 235, 236, 237, 238] (by decide +kernel) (by decide +kernel)) (goodIn_sub (fun _ h => List.mem_cons_of_mem _ (List.mem_append_left _ (List.mem_append_left _ (List.mem_append_right _ h)))) (by decide +kernel))
