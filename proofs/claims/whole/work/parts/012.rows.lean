theorem dL_word_12 : decode cL_word 12 = .ok (.astore_n 3, 1) := by decide +kernel
theorem dL_word_13 : decode cL_word 13 = .ok (.iconst 1, 1) := by decide +kernel
theorem dL_word_14 : decode cL_word 14 = .ok (.ireturn, 1) := by decide +kernel
theorem dL_word_15 : decode cL_word 15 = .ok (.iconst 0, 1) := by decide +kernel
theorem dL_word_16 : decode cL_word 16 = .ok (.ireturn, 1) := by decide +kernel
set_option maxRecDepth 20000 in
theorem ggL_read_X3_read : GoodIn wsL_read wsX3_read := goodIn_ca (goodIn_r _ [6, 7, 8, 9, 10, 11, 12, 13, 14, 15, 5, 16, 17, 18, 19, 20, 21, 22, 23, 24, 25, 26, 27, 28, 29, 30, 31, 32, 33, 34, 35, 36, 37, 38, 39, 40, 41, 42, 43, 44, 45, 46, 47, 48, 49, 50, 51, 52, 53, 54, 55, 56, 57, 58, 59, 60, 61, 62, 63, 64, 65, 66, 67, 68, 69, 70, 71, 72, 73, 74, 75, 76, 77, 78, 79, 80, 81, 82, 83, 84, 85, 86, 87, 88, 89, 90, 91, 92, 93, 94, 95, 96, 97, 98, 99, 100, 101, 102, 103, 104, 105, 106, 107, 108, 109, 110, 111, 112, 113, 114, 115, 116, 117, 118, 119, 120, 121, 122, 123, 124, 125, 126, 127, 128, 129, 130, 131, 132, 133, 134, 135, 136, 137, 138, 139, 140, 141, 142, 143, 144, 145, 146, 147, 148, 149, 150, 151, 152, 153, 154, 155, 156, 157, 158, 159] (by decide +kernel) (by decide +kernel)) (goodIn_sub (fun _ h => List.mem_cons_of_mem _ (List.mem_append_right _ h)) (by decide +kernel))
set_option maxRecDepth 20000 in
theorem gL_read_X3_read : GoodIn wsL_read (wsV RL 60 RX3 yX3_read wsX3_read) := goodIn_app (goodIn_of _ (by decide +kernel)) ggL_read_X3_read
theorem dL_read_0 : decode cL_read 0 = .ok (.aload_n 2, 1) := by decide +kernel
theorem dL_read_1 : decode cL_read 1 = .ok (.iconst 0, 1) := by decide +kernel
theorem dL_read_2 : decode cL_read 2 = .ok (.aload_n 0, 1) := by decide +kernel
theorem dL_read_3 : decode cL_read 3 = .ok (.iload_n 1, 1) := by decide +kernel
theorem dL_read_4 : decode cL_read 4 = .ok (.invokevirtual 60, 3) := by decide +kernel
theorem dL_read_7 : decode cL_read 7 = .ok (.i2l, 1) := by decide +kernel
theorem dL_read_8 : decode cL_read 8 = .ok (.lastore, 1) := by decide +kernel
theorem dL_read_9 : decode cL_read 9 = .ok (.goto 6, 3) := by decide +kernel
theorem dL_read_12 : decode cL_read 12 = .ok (.astore_n 3, 1) := by decide +kernel
theorem dL_read_13 : decode cL_read 13 = .ok (.iconst 1, 1) := by decide +kernel
theorem dL_read_14 : decode cL_read 14 = .ok (.ireturn, 1) := by decide +kernel
theorem dL_read_15 : decode cL_read 15 = .ok (.iconst 0, 1) := by decide +kernel
theorem dL_read_16 : decode cL_read 16 = .ok (.ireturn, 1) := by decide +kernel
set_option maxRecDepth 20000 in
theorem ggL_path_X3_path : GoodIn wsL_path wsX3_path := goodIn_ca (goodIn_r _ [6, 7, 8, 9, 10, 11, 12, 13, 14, 15, 5, 16, 17, 18, 19, 20, 21, 22, 23, 24, 25, 26, 27, 28, 29, 30, 31, 32, 33, 34, 35, 36, 37, 38, 39, 40, 41, 42, 43, 44, 45, 46, 47, 48, 49, 50, 51, 52, 53, 54, 55, 56, 57, 58, 59, 60, 61, 62, 63, 64, 65, 66, 67, 68, 69, 70, 71, 72, 73, 74, 75, 76, 77, 78, 79, 80, 81, 82, 83, 84, 85, 86, 87, 88, 89, 90, 91, 92, 93, 94, 95, 96, 97, 98, 99, 100, 101, 102, 103, 104, 105, 106, 107, 108, 109, 110, 111, 112, 113, 114, 115, 116, 117, 118, 119, 120, 121, 122, 123, 124, 125, 126, 127, 128, 129, 130, 131, 132, 133, 134, 135, 136, 137, 138, 139, 140, 141, 142, 143, 144, 145, 146] (by decide +kernel) (by decide +kernel)) (goodIn_sub (fun _ h => List.mem_cons_of_mem _ (List.mem_append_right _ h)) (by decide +kernel))
set_option maxRecDepth 20000 in
theorem gL_path_X3_path : GoodIn wsL_path (wsV RL 63 RX3 yX3_path wsX3_path) := goodIn_app (goodIn_of _ (by decide +kernel)) ggL_path_X3_path
theorem dL_path_0 : decode cL_path 0 = .ok (.aload_n 3, 1) := by decide +kernel
theorem dL_path_1 : decode cL_path 1 = .ok (.iconst 0, 1) := by decide +kernel
theorem dL_path_2 : decode cL_path 2 = .ok (.aload_n 0, 1) := by decide +kernel
theorem dL_path_3 : decode cL_path 3 = .ok (.iload_n 1, 1) := by decide +kernel
theorem dL_path_4 : decode cL_path 4 = .ok (.iload_n 2, 1) := by decide +kernel
theorem dL_path_5 : decode cL_path 5 = .ok (.invokevirtual 63, 3) := by decide +kernel
theorem dL_path_8 : decode cL_path 8 = .ok (.i2l, 1) := by decide +kernel
theorem dL_path_9 : decode cL_path 9 = .ok (.lastore, 1) := by decide +kernel
theorem dL_path_10 : decode cL_path 10 = .ok (.goto 7, 3) := by decide +kernel
theorem dL_path_13 : decode cL_path 13 = .ok (.astore 4, 2) := by decide +kernel
theorem dL_path_15 : decode cL_path 15 = .ok (.iconst 1, 1) := by decide +kernel
theorem dL_path_16 : decode cL_path 16 = .ok (.ireturn, 1) := by decide +kernel
theorem dL_path_17 : decode cL_path 17 = .ok (.iconst 0, 1) := by decide +kernel
theorem dL_path_18 : decode cL_path 18 = .ok (.ireturn, 1) := by decide +kernel
set_option maxRecDepth 20000 in
theorem ggL_heard_X3_heard : GoodIn wsL_heard wsX3_heard := goodIn_ca (goodIn_r _ [6, 7, 8, 9, 10, 11, 12, 13, 14, 15, 16, 17, 18, 5, 19, 20, 21, 22, 23, 24, 25, 26, 27, 28, 29, 30, 31, 32, 33, 34, 35, 36, 37, 38, 39, 40, 41, 42, 43, 44, 45, 46, 47, 48, 49, 50, 51, 52, 53, 54, 55, 56, 57, 58, 59, 60, 61, 62, 63, 64, 65, 66, 67, 68, 69, 70, 71, 72, 73, 74, 75, 76, 77, 78, 79, 80, 81, 82, 83, 84, 85, 86, 87, 88, 89, 90, 91, 92, 93, 94, 95, 96, 97, 98, 99, 100, 101, 102, 103, 104, 105, 106, 107, 108, 109, 110, 111, 112, 113, 114, 115, 116, 117, 118, 119, 120, 121, 122, 123, 124, 125, 126, 127, 128, 129, 130, 131, 132, 133, 134, 135, 136, 137, 138, 139, 140, 141, 142, 143, 144, 145, 146, 147, 148, 149, 150] (by decide +kernel) (by decide +kernel)) (goodIn_sub (fun _ h => List.mem_cons_of_mem _ (List.mem_append_right _ h)) (by decide +kernel))
set_option maxRecDepth 20000 in
theorem gL_heard_X3_heard : GoodIn wsL_heard (wsV RL 66 RX3 yX3_heard wsX3_heard) := goodIn_app (goodIn_of _ (by decide +kernel)) ggL_heard_X3_heard
theorem dL_heard_0 : decode cL_heard 0 = .ok (.aload_n 2, 1) := by decide +kernel
theorem dL_heard_1 : decode cL_heard 1 = .ok (.iconst 0, 1) := by decide +kernel
theorem dL_heard_2 : decode cL_heard 2 = .ok (.aload_n 0, 1) := by decide +kernel
theorem dL_heard_3 : decode cL_heard 3 = .ok (.iload_n 1, 1) := by decide +kernel
theorem dL_heard_4 : decode cL_heard 4 = .ok (.invokevirtual 66, 3) := by decide +kernel
theorem dL_heard_7 : decode cL_heard 7 = .ok (.i2l, 1) := by decide +kernel
theorem dL_heard_8 : decode cL_heard 8 = .ok (.lastore, 1) := by decide +kernel
theorem dL_heard_9 : decode cL_heard 9 = .ok (.goto 6, 3) := by decide +kernel
theorem dL_heard_12 : decode cL_heard 12 = .ok (.astore_n 3, 1) := by decide +kernel
theorem dL_heard_13 : decode cL_heard 13 = .ok (.iconst 1, 1) := by decide +kernel
theorem dL_heard_14 : decode cL_heard 14 = .ok (.ireturn, 1) := by decide +kernel
theorem dL_heard_15 : decode cL_heard 15 = .ok (.iconst 0, 1) := by decide +kernel
theorem dL_heard_16 : decode cL_heard 16 = .ok (.ireturn, 1) := by decide +kernel
set_option maxRecDepth 20000 in
theorem ggL_count_X3_count : GoodIn wsL_count wsX3_count := goodIn_ca (goodIn_r _ [6, 7, 8, 9, 10, 11, 12, 13, 14, 15, 16, 17, 18, 19, 20, 21, 22, 23, 24, 25, 26, 27, 28, 29, 30, 31, 32, 33, 34, 35, 36, 37, 38, 39, 40, 41, 42, 43, 44, 45, 46, 47, 48, 49, 50, 51, 52, 53, 54, 55, 56, 5, 57, 58, 59, 60, 61, 62, 63, 64, 65, 66, 67, 68, 69, 70, 71, 72, 73, 74, 75, 76, 77, 78, 79, 80, 81, 82, 83, 84, 85, 86, 87, 88, 89, 90, 91, 92, 93, 94, 95, 96, 97, 98, 99, 100, 101, 102, 103, 104, 105, 106, 107, 108, 109, 110, 111, 112, 113, 114, 115, 116, 117, 118, 119, 120, 121, 122, 123, 124, 125, 126, 127, 128, 129, 130, 131, 132, 133, 134, 135, 136, 137, 138, 139, 140, 141, 142, 143, 144, 145, 146, 147, 148, 149, 150, 151, 152, 153, 154, 155, 156, 157, 158, 159, 160, 161, 162, 163, 164] (by decide +kernel) (by decide +kernel)) (goodIn_sub (fun _ h => List.mem_cons_of_mem _ (List.mem_append_right _ h)) (by decide +kernel))
set_option maxRecDepth 20000 in
theorem gL_count_X3_count : GoodIn wsL_count (wsV RL 69 RX3 yX3_count wsX3_count) := goodIn_app (goodIn_of _ (by decide +kernel)) ggL_count_X3_count
theorem dL_count_0 : decode cL_count 0 = .ok (.aload_n 2, 1) := by decide +kernel
theorem dL_count_1 : decode cL_count 1 = .ok (.iconst 0, 1) := by decide +kernel
theorem dL_count_2 : decode cL_count 2 = .ok (.aload_n 0, 1) := by decide +kernel
theorem dL_count_3 : decode cL_count 3 = .ok (.iload_n 1, 1) := by decide +kernel
theorem dL_count_4 : decode cL_count 4 = .ok (.invokevirtual 69, 3) := by decide +kernel
theorem dL_count_7 : decode cL_count 7 = .ok (.i2l, 1) := by decide +kernel
theorem dL_count_8 : decode cL_count 8 = .ok (.lastore, 1) := by decide +kernel
theorem dL_count_9 : decode cL_count 9 = .ok (.goto 6, 3) := by decide +kernel
theorem dL_count_12 : decode cL_count 12 = .ok (.astore_n 3, 1) := by decide +kernel
theorem dL_count_13 : decode cL_count 13 = .ok (.iconst 1, 1) := by decide +kernel
theorem dL_count_14 : decode cL_count 14 = .ok (.ireturn, 1) := by decide +kernel
theorem dL_count_15 : decode cL_count 15 = .ok (.iconst 0, 1) := by decide +kernel
theorem dL_count_16 : decode cL_count 16 = .ok (.ireturn, 1) := by decide +kernel
set_option maxRecDepth 20000 in
theorem ggL_setting_X3_setting : GoodIn wsL_setting wsX3_setting := goodIn_ca (goodIn_r _ [6, 7, 8, 9, 10, 11, 12, 13, 14, 15, 16, 17, 18, 19, 20, 21, 22, 23] (by decide +kernel) (by decide +kernel)) (goodIn_sub (fun _ h => List.mem_cons_of_mem _ (List.mem_append_right _ h)) (by decide +kernel))
set_option maxRecDepth 20000 in
theorem gL_setting_X3_setting : GoodIn wsL_setting (wsV RL 72 RX3 yX3_setting wsX3_setting) := goodIn_app (goodIn_of _ (by decide +kernel)) ggL_setting_X3_setting
theorem dL_setting_0 : decode cL_setting 0 = .ok (.aload_n 2, 1) := by decide +kernel
theorem dL_setting_1 : decode cL_setting 1 = .ok (.iconst 0, 1) := by decide +kernel
theorem dL_setting_2 : decode cL_setting 2 = .ok (.aload_n 0, 1) := by decide +kernel
theorem dL_setting_3 : decode cL_setting 3 = .ok (.iload_n 1, 1) := by decide +kernel
theorem dL_setting_4 : decode cL_setting 4 = .ok (.invokevirtual 72, 3) := by decide +kernel
theorem dL_setting_7 : decode cL_setting 7 = .ok (.i2l, 1) := by decide +kernel
theorem dL_setting_8 : decode cL_setting 8 = .ok (.lastore, 1) := by decide +kernel
theorem dL_setting_9 : decode cL_setting 9 = .ok (.goto 6, 3) := by decide +kernel
theorem dL_setting_12 : decode cL_setting 12 = .ok (.astore_n 3, 1) := by decide +kernel
theorem dL_setting_13 : decode cL_setting 13 = .ok (.iconst 1, 1) := by decide +kernel
theorem dL_setting_14 : decode cL_setting 14 = .ok (.ireturn, 1) := by decide +kernel
theorem dL_setting_15 : decode cL_setting 15 = .ok (.iconst 0, 1) := by decide +kernel
theorem dL_setting_16 : decode cL_setting 16 = .ok (.ireturn, 1) := by decide +kernel
set_option maxRecDepth 20000 in
theorem ggL_ifFlipped_X3_ifFlipped : GoodIn wsL_ifFlipped wsX3_ifFlipped := goodIn_ca (goodIn_r _ [6, 7, 8, 9, 10, 11, 12, 13, 14, 15, 16, 17, 18, 19, 20, 21, 22, 23, 24, 25, 26, 27, 28, 29, 30, 31, 32, 33, 34, 35, 36, 37, 38, 39, 40, 41, 42, 43, 44, 45, 46, 47, 48, 49, 50, 51, 52, 53, 54, 55, 5, 56, 57, 58, 59, 60, 61, 62, 63, 64, 65, 66, 67, 68, 69, 70, 71, 72, 73, 74, 75, 76, 77, 78, 79, 80, 81, 82, 83, 84, 85, 86, 87, 88, 89, 90, 91, 92, 93, 94, 95, 96, 97, 98, 99, 100, 101, 102, 103, 104, 105, 106, 107, 108, 109, 110, 111, 112, 113, 114, 115, 116, 117, 118, 119, 120, 121, 122, 123, 124, 125, 126, 127, 128, 129, 130, 131, 132, 133, 134, 135, 136, 137, 138, 139, 140, 141] (by decide +kernel) (by decide +kernel)) (goodIn_sub (fun _ h => List.mem_cons_of_mem _ (List.mem_append_right _ h)) (by decide +kernel))
set_option maxRecDepth 20000 in
theorem gL_ifFlipped_X3_ifFlipped : GoodIn wsL_ifFlipped (wsV RL 75 RX3 yX3_ifFlipped wsX3_ifFlipped) := goodIn_app (goodIn_of _ (by decide +kernel)) ggL_ifFlipped_X3_ifFlipped
theorem dL_ifFlipped_0 : decode cL_ifFlipped 0 = .ok (.aload_n 2, 1) := by decide +kernel
theorem dL_ifFlipped_1 : decode cL_ifFlipped 1 = .ok (.iconst 0, 1) := by decide +kernel
theorem dL_ifFlipped_2 : decode cL_ifFlipped 2 = .ok (.aload_n 0, 1) := by decide +kernel
theorem dL_ifFlipped_3 : decode cL_ifFlipped 3 = .ok (.iload_n 1, 1) := by decide +kernel
theorem dL_ifFlipped_4 : decode cL_ifFlipped 4 = .ok (.invokevirtual 75, 3) := by decide +kernel
theorem dL_ifFlipped_7 : decode cL_ifFlipped 7 = .ok (.i2l, 1) := by decide +kernel
theorem dL_ifFlipped_8 : decode cL_ifFlipped 8 = .ok (.lastore, 1) := by decide +kernel
theorem dL_ifFlipped_9 : decode cL_ifFlipped 9 = .ok (.goto 6, 3) := by decide +kernel
theorem dL_ifFlipped_12 : decode cL_ifFlipped 12 = .ok (.astore_n 3, 1) := by decide +kernel
theorem dL_ifFlipped_13 : decode cL_ifFlipped 13 = .ok (.iconst 1, 1) := by decide +kernel
theorem dL_ifFlipped_14 : decode cL_ifFlipped 14 = .ok (.ireturn, 1) := by decide +kernel
theorem dL_ifFlipped_15 : decode cL_ifFlipped 15 = .ok (.iconst 0, 1) := by decide +kernel
theorem dL_ifFlipped_16 : decode cL_ifFlipped 16 = .ok (.ireturn, 1) := by decide +kernel
set_option maxRecDepth 20000 in
theorem ggL_ifPaths_X3_ifPaths : GoodIn wsL_ifPaths wsX3_ifPaths := goodIn_ca (goodIn_r _ [6, 7, 8, 9, 10, 11, 12, 13, 14, 15, 16, 17, 18, 19, 20, 21, 22, 23, 24, 25, 26, 27, 28, 29, 30, 31, 32, 33, 34, 35, 36, 37, 38, 39, 40, 41, 42, 43, 44, 45, 46, 47, 48, 49, 5, 50, 51, 52, 53, 54, 55, 56, 57, 58, 59, 60, 61, 62, 63, 64, 65, 66, 67, 68, 69, 70, 71, 72, 73, 74, 75, 76, 77, 78, 79, 80, 81, 82, 83, 84, 85, 86, 87, 88, 89, 90, 91, 92, 93, 94, 95, 96, 97, 98, 99, 100, 101, 102, 103, 104, 105, 106, 107, 108, 109, 110, 111, 112, 113, 114, 115, 116, 117, 118, 119, 120, 121, 122, 123, 124, 125, 126, 127, 128, 129, 130, 131, 132, 133, 134, 135, 136] (by decide +kernel) (by decide +kernel)) (goodIn_sub (fun _ h => List.mem_cons_of_mem _ (List.mem_append_right _ h)) (by decide +kernel))
set_option maxRecDepth 20000 in
theorem gL_ifPaths_X3_ifPaths : GoodIn wsL_ifPaths (wsV RL 78 RX3 yX3_ifPaths wsX3_ifPaths) := goodIn_app (goodIn_of _ (by decide +kernel)) ggL_ifPaths_X3_ifPaths
theorem dL_ifPaths_0 : decode cL_ifPaths 0 = .ok (.aload_n 2, 1) := by decide +kernel
theorem dL_ifPaths_1 : decode cL_ifPaths 1 = .ok (.iconst 0, 1) := by decide +kernel
theorem dL_ifPaths_2 : decode cL_ifPaths 2 = .ok (.aload_n 0, 1) := by decide +kernel
theorem dL_ifPaths_3 : decode cL_ifPaths 3 = .ok (.iload_n 1, 1) := by decide +kernel
theorem dL_ifPaths_4 : decode cL_ifPaths 4 = .ok (.invokevirtual 78, 3) := by decide +kernel
theorem dL_ifPaths_7 : decode cL_ifPaths 7 = .ok (.i2l, 1) := by decide +kernel
theorem dL_ifPaths_8 : decode cL_ifPaths 8 = .ok (.lastore, 1) := by decide +kernel
theorem dL_ifPaths_9 : decode cL_ifPaths 9 = .ok (.goto 6, 3) := by decide +kernel
theorem dL_ifPaths_12 : decode cL_ifPaths 12 = .ok (.astore_n 3, 1) := by decide +kernel
theorem dL_ifPaths_13 : decode cL_ifPaths 13 = .ok (.iconst 1, 1) := by decide +kernel
theorem dL_ifPaths_14 : decode cL_ifPaths 14 = .ok (.ireturn, 1) := by decide +kernel
theorem dL_ifPaths_15 : decode cL_ifPaths 15 = .ok (.iconst 0, 1) := by decide +kernel
theorem dL_ifPaths_16 : decode cL_ifPaths 16 = .ok (.ireturn, 1) := by decide +kernel
set_option maxRecDepth 20000 in
theorem ggL_law_X3_init : GoodIn wsL_law wsX3_init := goodIn_r _ [9, 10, 11, 12, 13, 14, 15, 16, 17, 18, 19, 20, 21, 22, 23, 24, 25, 26, 27, 28, 29, 30, 31, 32, 33, 34, 35, 36, 37, 38, 39, 40, 41, 42, 43, 44, 45, 46, 47, 48, 49, 50, 51, 52, 53, 855, 856, 857, 858, 828, 829, 830, 831, 832, 833, 834, 835, 836, 859, 860, 861, 862, 863, 864, 865, 866, 867, 868, 869, 870, 871, 872, 873, 874, 875, 876] (by decide +kernel) (by decide +kernel)
set_option maxRecDepth 20000 in
theorem gL_law_X3_init : GoodIn wsL_law (wsX3_init) := ggL_law_X3_init
set_option maxRecDepth 20000 in
theorem ggL_law_X4_init : GoodIn wsL_law wsX4_init := goodIn_r _ [56, 57, 11, 12, 22, 58, 59, 60, 61, 62, 63, 64, 65, 66, 67, 68, 837, 838, 839, 840, 841, 842, 843, 844, 845, 846, 847, 848, 849, 850, 851, 852, 853, 854] (by decide +kernel) (by decide +kernel)
set_option maxRecDepth 20000 in
theorem gL_law_X4_init : GoodIn wsL_law (wsX4_init) := ggL_law_X4_init
set_option maxRecDepth 20000 in
theorem ggL_law_L_begin : GoodIn wsL_law wsL_begin := goodIn_ca (goodIn_r _ [72, 73, 74, 75, 76, 2, 77, 78, 79, 16, 80, 81, 82, 83, 84, 85, 86, 17, 87, 88, 89, 90, 91, 92, 15, 93, 33, 94, 95, 96, 97, 34, 35, 98, 828, 829, 830, 831, 832, 833, 834, 835, 836, 855, 856, 857, 858] (by decide +kernel) (by decide +kernel)) (goodIn_sub (fun _ h => List.mem_append_left _ (List.mem_append_left _ (List.mem_append_right _ h))) (by decide +kernel))
set_option maxRecDepth 20000 in
theorem gL_law_L_begin : GoodIn wsL_law (va_wsS RL 85 yL_begin wsL_begin) := goodIn_app (goodIn_of _ (by decide +kernel)) ggL_law_L_begin
set_option maxRecDepth 20000 in
theorem ggL_law_X4_begin : GoodIn wsL_law wsX4_begin := goodIn_r _ [102, 68, 58, 103, 104, 5, 105, 106, 107, 108, 109, 110, 111, 112, 113, 114, 60, 837, 838, 839, 840, 841, 842, 843, 844, 845, 846, 847, 848, 849, 850, 851, 852, 853, 854] (by decide +kernel) (by decide +kernel)
set_option maxRecDepth 20000 in
theorem gL_law_X4_begin : GoodIn wsL_law (wsV RL 90 RX4 yX4_begin wsX4_begin) := goodIn_app (goodIn_of _ (by decide +kernel)) ggL_law_X4_begin
set_option maxRecDepth 20000 in
theorem ggL_law_X4_thrown : GoodIn wsL_law wsX4_thrown := goodIn_r _ [118, 68, 837, 838, 839, 840, 841, 842, 843, 844, 845, 846, 847, 848, 849, 850, 851, 852, 853, 854] (by decide +kernel) (by decide +kernel)
set_option maxRecDepth 20000 in
theorem gL_law_X4_thrown : GoodIn wsL_law (wsV RL 91 RX4 yX4_thrown wsX4_thrown) := goodIn_app (goodIn_of _ (by decide +kernel)) ggL_law_X4_thrown
set_option maxRecDepth 20000 in
theorem ggL_law_L_open : GoodIn wsL_law wsL_open := goodIn_ca (goodIn_ca (goodIn_r _ [121, 73, 122, 123, 124, 125, 2, 126, 78, 79, 127, 128, 16, 80, 81, 83, 84, 85, 86, 17, 87, 88, 89, 90, 91, 92, 15, 93, 33, 94, 95, 96, 97, 34, 35, 98, 129, 130, 131, 132, 133, 134, 135, 136, 137, 138, 139, 828, 829, 830, 831, 832, 833, 834, 835, 836, 855, 856, 857, 858] (by decide +kernel) (by decide +kernel)) (goodIn_sub (fun _ h => List.mem_append_left _ (List.mem_append_left _ (List.mem_append_right _ h))) (by decide +kernel))) (goodIn_sub (fun _ h => List.mem_append_left _ (List.mem_append_right _ h)) (by decide +kernel))
set_option maxRecDepth 20000 in
theorem gL_law_L_open : GoodIn wsL_law (va_wsS RL 94 yL_open wsL_open) := goodIn_app (goodIn_of _ (by decide +kernel)) ggL_law_L_open
set_option maxRecDepth 20000 in
theorem ggL_law_X4_open : GoodIn wsL_law wsX4_open := goodIn_r _ [143, 68, 58, 103, 104, 5, 105, 106, 107, 108, 109, 110, 111, 112, 113, 114, 60, 144, 145, 146, 147, 148, 149, 150, 151, 152, 153, 154, 837, 838, 839, 840, 841, 842, 843, 844, 845, 846, 847, 848, 849, 850, 851, 852, 853, 854] (by decide +kernel) (by decide +kernel)
set_option maxRecDepth 20000 in
theorem gL_law_X4_open : GoodIn wsL_law (wsV RL 96 RX4 yX4_open wsX4_open) := goodIn_app (goodIn_of _ (by decide +kernel)) ggL_law_X4_open
set_option maxRecDepth 20000 in
theorem ggL_law_L_toggle : GoodIn wsL_law wsL_toggle := goodIn_ca (goodIn_r _ [157, 158, 159, 160, 161, 2, 162, 163, 164, 16, 81, 165, 166, 167, 15, 168, 35, 83, 84, 85, 86, 17, 87, 88, 89, 90, 91, 92, 93, 33, 94, 95, 96, 97, 34, 98, 169, 170, 171, 172, 828, 829, 830, 831, 832, 833, 834, 835, 836, 855, 856, 857, 858] (by decide +kernel) (by decide +kernel)) (goodIn_sub (fun _ h => List.mem_append_right _ h) (by decide +kernel))
set_option maxRecDepth 20000 in
theorem gL_law_L_toggle : GoodIn wsL_law (va_wsS RL 97 yL_toggle wsL_toggle) := goodIn_app (goodIn_of _ (by decide +kernel)) ggL_law_L_toggle
set_option maxRecDepth 20000 in
theorem ggL_law_X4_toggle : GoodIn wsL_law wsX4_toggle := goodIn_r _ [176, 68, 58, 177, 178, 179, 5, 180, 103, 104, 105, 106, 107, 108, 109, 110, 111, 112, 113, 114, 60, 181, 182, 183, 184, 837, 838, 839, 840, 841, 842, 843, 844, 845, 846, 847, 848, 849, 850, 851, 852, 853, 854] (by decide +kernel) (by decide +kernel)
set_option maxRecDepth 20000 in
theorem gL_law_X4_toggle : GoodIn wsL_law (wsV RL 99 RX4 yX4_toggle wsX4_toggle) := goodIn_app (goodIn_of _ (by decide +kernel)) ggL_law_X4_toggle
set_option maxRecDepth 20000 in
theorem ggL_law_L_set : GoodIn wsL_law wsL_set := goodIn_ca (goodIn_ca (goodIn_r _ [187, 158, 73, 188, 189, 190, 2, 191, 163, 164, 78, 79, 192, 193, 16, 194, 83, 84, 85, 86, 17, 87, 88, 89, 90, 91, 92, 15, 93, 33, 94, 95, 96, 97, 34, 35, 98, 828, 829, 830, 831, 832, 833, 834, 835, 836, 855, 856, 857, 858] (by decide +kernel) (by decide +kernel)) (goodIn_sub (fun _ h => List.mem_append_right _ h) (by decide +kernel))) (goodIn_sub (fun _ h => List.mem_append_left _ (List.mem_append_left _ (List.mem_append_right _ h))) (by decide +kernel))
set_option maxRecDepth 20000 in
theorem gL_law_L_set : GoodIn wsL_law (va_wsS RL 100 yL_set wsL_set) := goodIn_app (goodIn_of _ (by decide +kernel)) ggL_law_L_set
set_option maxRecDepth 20000 in
theorem ggL_law_X4_set : GoodIn wsL_law wsX4_set := goodIn_r _ [198, 68, 58, 103, 104, 5, 105, 106, 107, 108, 109, 199, 200, 201, 110, 111, 112, 113, 114, 60, 837, 838, 839, 840, 841, 842, 843, 844, 845, 846, 847, 848, 849, 850, 851, 852, 853, 854] (by decide +kernel) (by decide +kernel)
set_option maxRecDepth 20000 in
theorem gL_law_X4_set : GoodIn wsL_law (wsV RL 103 RX4 yX4_set wsX4_set) := goodIn_app (goodIn_of _ (by decide +kernel)) ggL_law_X4_set
set_option maxRecDepth 20000 in
theorem ggL_law_L_send : GoodIn wsL_law wsL_send := goodIn_ca (goodIn_r _ [204, 73, 205, 206, 207, 2, 208, 78, 79, 16, 194, 80, 82, 209, 210, 211, 15, 212, 213, 214, 215, 216, 217, 218, 219, 220, 98, 221, 222, 223, 224, 225, 226, 227, 228, 229, 230, 231, 34, 232, 233, 234, 235, 83, 84, 85, 86, 17, 87, 88, 89, 90, 91, 92, 93, 33, 94, 95, 96, 97, 35, 236, 237, 238, 239, 240, 241, 242, 243, 244, 245, 246, 170, 171, 172, 247, 248, 249, 828, 829, 830, 831, 832, 833, 834, 835, 836, 855, 856, 857, 858] (by decide +kernel) (by decide +kernel)) (goodIn_sub (fun _ h => List.mem_append_left _ (List.mem_append_left _ (List.mem_append_right _ h))) (by decide +kernel))
set_option maxRecDepth 20000 in
theorem gL_law_L_send : GoodIn wsL_law (va_wsS RL 104 yL_send wsL_send) := goodIn_app (goodIn_of _ (by decide +kernel)) ggL_law_L_send
set_option maxRecDepth 20000 in
theorem ggL_law_X4_send : GoodIn wsL_law wsX4_send := goodIn_r _ [253, 68, 58, 254, 255, 256, 5, 257, 258, 259, 260, 261, 262, 263, 264, 265, 181, 182, 183, 184, 266, 267, 268, 269, 106, 107, 108, 109, 110, 111, 112, 113, 114, 60, 270, 271, 272, 273, 274, 275, 276, 277, 278, 279, 280, 281, 282, 283, 284, 837, 838, 839, 840, 841, 842, 843, 844, 845, 846, 847, 848, 849, 850, 851, 852, 853, 854] (by decide +kernel) (by decide +kernel)
set_option maxRecDepth 20000 in
theorem gL_law_X4_send : GoodIn wsL_law (wsV RL 106 RX4 yX4_send wsX4_send) := goodIn_app (goodIn_of _ (by decide +kernel)) ggL_law_X4_send
set_option maxRecDepth 20000 in
theorem ggL_law_L_receive : GoodIn wsL_law wsL_receive := goodIn_ca (goodIn_ca (goodIn_r _ [287, 158, 73, 288, 289, 290, 2, 291, 163, 164, 78, 79, 16, 82, 165, 166, 167, 15, 168, 35, 83, 84, 85, 86, 17, 87, 88, 89, 90, 91, 92, 93, 33, 94, 95, 96, 97, 34, 98, 828, 829, 830, 831, 832, 833, 834, 835, 836, 855, 856, 857, 858] (by decide +kernel) (by decide +kernel)) (goodIn_sub (fun _ h => List.mem_append_right _ h) (by decide +kernel))) (goodIn_sub (fun _ h => List.mem_append_left _ (List.mem_append_left _ (List.mem_append_right _ h))) (by decide +kernel))
set_option maxRecDepth 20000 in
theorem gL_law_L_receive : GoodIn wsL_law (va_wsS RL 107 yL_receive wsL_receive) := goodIn_app (goodIn_of _ (by decide +kernel)) ggL_law_L_receive
set_option maxRecDepth 20000 in
theorem ggL_law_X4_receive : GoodIn wsL_law wsX4_receive := goodIn_r _ [295, 68, 58, 177, 178, 179, 5, 180, 103, 104, 105, 106, 107, 108, 109, 110, 111, 112, 113, 114, 60, 296, 297, 298, 837, 838, 839, 840, 841, 842, 843, 844, 845, 846, 847, 848, 849, 850, 851, 852, 853, 854] (by decide +kernel) (by decide +kernel)
set_option maxRecDepth 20000 in
theorem gL_law_X4_receive : GoodIn wsL_law (wsV RL 109 RX4 yX4_receive wsX4_receive) := goodIn_app (goodIn_of _ (by decide +kernel)) ggL_law_X4_receive
set_option maxRecDepth 20000 in
theorem ggL_law_L_flip : GoodIn wsL_law wsL_flip := goodIn_ca (goodIn_r _ [301, 158, 302, 303, 304, 2, 305, 163, 164, 16, 82, 306, 307, 234, 308, 165, 166, 167, 15, 168, 35, 83, 84, 85, 86, 17, 87, 88, 89, 90, 91, 92, 93, 33, 94, 95, 96, 97, 34, 98, 828, 829, 830, 831, 832, 833, 834, 835, 836, 855, 856, 857, 858] (by decide +kernel) (by decide +kernel)) (goodIn_sub (fun _ h => List.mem_append_right _ h) (by decide +kernel))
set_option maxRecDepth 20000 in
theorem gL_law_L_flip : GoodIn wsL_law (va_wsS RL 110 yL_flip wsL_flip) := goodIn_app (goodIn_of _ (by decide +kernel)) ggL_law_L_flip
set_option maxRecDepth 20000 in
theorem ggL_law_X4_flip : GoodIn wsL_law wsX4_flip := goodIn_r _ [312, 68, 58, 177, 178, 179, 5, 180, 103, 104, 105, 106, 107, 108, 109, 110, 111, 112, 113, 114, 60, 313, 314, 315, 837, 838, 839, 840, 841, 842, 843, 844, 845, 846, 847, 848, 849, 850, 851, 852, 853, 854] (by decide +kernel) (by decide +kernel)
set_option maxRecDepth 20000 in
theorem gL_law_X4_flip : GoodIn wsL_law (wsV RL 112 RX4 yX4_flip wsX4_flip) := goodIn_app (goodIn_of _ (by decide +kernel)) ggL_law_X4_flip
set_option maxRecDepth 20000 in
theorem ggL_law_L_roll : GoodIn wsL_law wsL_roll := goodIn_ca (goodIn_r _ [318, 73, 319, 320, 321, 2, 322, 78, 79, 16, 80, 23, 82, 83, 84, 85, 86, 17, 87, 88, 89, 90, 91, 92, 15, 93, 33, 94, 95, 96, 97, 34, 35, 98, 828, 829, 830, 831, 832, 833, 834, 835, 836, 855, 856, 857, 858] (by decide +kernel) (by decide +kernel)) (goodIn_sub (fun _ h => List.mem_append_left _ (List.mem_append_left _ (List.mem_append_right _ h))) (by decide +kernel))
set_option maxRecDepth 20000 in
theorem gL_law_L_roll : GoodIn wsL_law (va_wsS RL 113 yL_roll wsL_roll) := goodIn_app (goodIn_of _ (by decide +kernel)) ggL_law_L_roll
set_option maxRecDepth 20000 in
theorem ggL_law_X4_roll : GoodIn wsL_law wsX4_roll := goodIn_r _ [326, 68, 58, 66, 103, 104, 5, 105, 106, 107, 108, 109, 110, 111, 112, 113, 114, 60, 837, 838, 839, 840, 841, 842, 843, 844, 845, 846, 847, 848, 849, 850, 851, 852, 853, 854] (by decide +kernel) (by decide +kernel)
set_option maxRecDepth 20000 in
theorem gL_law_X4_roll : GoodIn wsL_law (wsV RL 115 RX4 yX4_roll wsX4_roll) := goodIn_app (goodIn_of _ (by decide +kernel)) ggL_law_X4_roll
set_option maxRecDepth 20000 in
theorem ggL_law_L_append : GoodIn wsL_law wsL_append := goodIn_ca (goodIn_ca (goodIn_r _ [329, 73, 122, 330, 331, 332, 2, 333, 78, 79, 127, 128, 21, 334, 335, 828, 829, 830, 831, 832, 833, 834, 835, 836, 859, 860, 861, 862, 863, 864] (by decide +kernel) (by decide +kernel)) (goodIn_sub (fun _ h => List.mem_append_left _ (List.mem_append_left _ (List.mem_append_right _ h))) (by decide +kernel))) (goodIn_sub (fun _ h => List.mem_append_left _ (List.mem_append_right _ h)) (by decide +kernel))
set_option maxRecDepth 20000 in
theorem gL_law_L_append : GoodIn wsL_law (va_wsS RL 116 yL_append wsL_append) := goodIn_app (goodIn_of _ (by decide +kernel)) ggL_law_L_append
set_option maxRecDepth 20000 in
theorem ggL_law_X4_append : GoodIn wsL_law wsX4_append := goodIn_r _ [339, 68, 340, 61, 103, 104, 5, 105, 106, 107, 108, 109, 837, 838, 839, 840, 841, 842, 843, 844, 845, 846, 847, 848, 849, 850, 851, 852, 853, 854] (by decide +kernel) (by decide +kernel)
set_option maxRecDepth 20000 in
theorem gL_law_X4_append : GoodIn wsL_law (wsV RL 118 RX4 yX4_append wsX4_append) := goodIn_app (goodIn_of _ (by decide +kernel)) ggL_law_X4_append
set_option maxRecDepth 20000 in
theorem ggL_law_X3_clearBuffer : GoodIn wsL_law wsX3_clearBuffer := goodIn_r _ [344, 21, 334, 828, 829, 830, 831, 832, 833, 834, 835, 836, 859, 860, 861, 862, 863, 864] (by decide +kernel) (by decide +kernel)
set_option maxRecDepth 20000 in
theorem gL_law_X3_clearBuffer : GoodIn wsL_law (wsV RL 119 RX3 yX3_clearBuffer wsX3_clearBuffer) := goodIn_app (goodIn_of _ (by decide +kernel)) ggL_law_X3_clearBuffer
set_option maxRecDepth 20000 in
theorem ggL_law_X4_clearBuffer : GoodIn wsL_law wsX4_clearBuffer := goodIn_r _ [348, 68, 340, 837, 838, 839, 840, 841, 842, 843, 844, 845, 846, 847, 848, 849, 850, 851, 852, 853, 854] (by decide +kernel) (by decide +kernel)
set_option maxRecDepth 20000 in
theorem gL_law_X4_clearBuffer : GoodIn wsL_law (wsV RL 122 RX4 yX4_clearBuffer wsX4_clearBuffer) := goodIn_app (goodIn_of _ (by decide +kernel)) ggL_law_X4_clearBuffer
set_option maxRecDepth 20000 in
theorem ggL_law_X3_firstError : GoodIn wsL_law wsX3_firstError := goodIn_r _ [352, 21, 353, 354, 355, 20, 356, 357, 358, 359, 360, 40, 361, 362, 363, 364, 365, 366, 367, 368, 369, 370, 371, 372, 373, 374, 375, 376, 377, 378, 379, 380, 41, 828, 829, 830, 831, 832, 833, 834, 835, 836, 859, 860, 861, 862, 863, 864] (by decide +kernel) (by decide +kernel)
set_option maxRecDepth 20000 in
theorem gL_law_X3_firstError : GoodIn wsL_law (wsV RL 123 RX3 yX3_firstError wsX3_firstError) := goodIn_app (goodIn_of _ (by decide +kernel)) ggL_law_X3_firstError
set_option maxRecDepth 20000 in
theorem ggL_law_X4_firstError : GoodIn wsL_law wsX4_firstError := goodIn_r _ [384, 68, 385, 386, 387, 388, 5, 389, 390, 391, 340, 392, 393, 394, 395, 67, 396, 397, 398, 399, 61, 103, 104, 105, 837, 838, 839, 840, 841, 842, 843, 844, 845, 846, 847, 848, 849, 850, 851, 852, 853, 854] (by decide +kernel) (by decide +kernel)
set_option maxRecDepth 20000 in
theorem gL_law_X4_firstError : GoodIn wsL_law (wsV RL 126 RX4 yX4_firstError wsX4_firstError) := goodIn_app (goodIn_of _ (by decide +kernel)) ggL_law_X4_firstError
set_option maxRecDepth 20000 in
theorem ggL_law_L_receiveAll : GoodIn wsL_law wsL_receiveAll := goodIn_ca (goodIn_ca (goodIn_r _ [402, 73, 122, 403, 404, 405, 2, 406, 78, 79, 127, 128, 21, 334, 407, 16, 80, 82, 408, 353, 354, 355, 20, 356, 357, 358, 359, 360, 40, 361, 362, 363, 364, 365, 366, 367, 368, 369, 370, 371, 372, 373, 374, 375, 376, 377, 378, 379, 380, 41, 409, 83, 84, 85, 86, 17, 87, 88, 89, 90, 91, 92, 15, 93, 33, 94, 95, 96, 97, 34, 35, 98, 828, 829, 830, 831, 832, 833, 834, 835, 836, 859, 860, 861, 862, 863, 864, 855, 856, 857, 858] (by decide +kernel) (by decide +kernel)) (goodIn_sub (fun _ h => List.mem_append_left _ (List.mem_append_left _ (List.mem_append_right _ h))) (by decide +kernel))) (goodIn_sub (fun _ h => List.mem_append_left _ (List.mem_append_right _ h)) (by decide +kernel))
set_option maxRecDepth 20000 in
theorem gL_law_L_receiveAll : GoodIn wsL_law (va_wsS RL 127 yL_receiveAll wsL_receiveAll) := goodIn_app (goodIn_of _ (by decide +kernel)) ggL_law_L_receiveAll
set_option maxRecDepth 20000 in
theorem ggL_law_X4_receiveAll : GoodIn wsL_law wsX4_receiveAll := goodIn_r _ [413, 68, 390, 391, 58, 340, 67, 386, 387, 388, 5, 389, 385, 392, 393, 394, 395, 396, 397, 398, 399, 61, 103, 104, 105, 106, 107, 108, 109, 110, 111, 112, 113, 114, 60, 837, 838, 839, 840, 841, 842, 843, 844, 845, 846, 847, 848, 849, 850, 851, 852, 853, 854] (by decide +kernel) (by decide +kernel)
set_option maxRecDepth 20000 in
theorem gL_law_X4_receiveAll : GoodIn wsL_law (wsV RL 130 RX4 yX4_receiveAll wsX4_receiveAll) := goodIn_app (goodIn_of _ (by decide +kernel)) ggL_law_X4_receiveAll
set_option maxRecDepth 20000 in
theorem ggL_law_L_undo : GoodIn wsL_law wsL_undo := goodIn_ca (goodIn_r _ [416, 122, 417, 418, 419, 2, 420, 127, 128, 88, 16, 17, 87, 89, 90, 91, 92, 15, 93, 33, 94, 95, 96, 97, 34, 35, 98, 828, 829, 830, 831, 832, 833, 834, 835, 836, 855, 856, 857, 858] (by decide +kernel) (by decide +kernel)) (goodIn_sub (fun _ h => List.mem_append_left _ (List.mem_append_right _ h)) (by decide +kernel))
set_option maxRecDepth 20000 in
theorem gL_law_L_undo : GoodIn wsL_law (va_wsS RL 131 yL_undo wsL_undo) := goodIn_app (goodIn_of _ (by decide +kernel)) ggL_law_L_undo
set_option maxRecDepth 20000 in
theorem ggL_law_X4_undo : GoodIn wsL_law wsX4_undo := goodIn_r _ [424, 68, 114, 58, 60, 106, 107, 108, 5, 109, 837, 838, 839, 840, 841, 842, 843, 844, 845, 846, 847, 848, 849, 850, 851, 852, 853, 854] (by decide +kernel) (by decide +kernel)
set_option maxRecDepth 20000 in
theorem gL_law_X4_undo : GoodIn wsL_law (wsV RL 133 RX4 yX4_undo wsX4_undo) := goodIn_app (goodIn_of _ (by decide +kernel)) ggL_law_X4_undo
set_option maxRecDepth 20000 in
theorem ggL_law_L_place : GoodIn wsL_law wsL_place := goodIn_ca (goodIn_ca (goodIn_r _ [427, 158, 73, 428, 429, 430, 2, 431, 163, 164, 78, 79, 16, 82, 165, 166, 167, 15, 168, 35, 169, 170, 171, 172, 98, 432, 134, 135, 136, 34, 137, 138, 139, 129, 130, 131, 132, 133, 433, 434, 435, 436, 221, 222, 223, 224, 225, 226, 227, 437, 438, 439, 440, 246, 441, 213, 214, 215, 216, 217, 218, 219, 220, 228, 229, 230, 231, 232, 233, 234, 235, 828, 829, 830, 831, 832, 833, 834, 835, 836, 855, 856, 857, 858] (by decide +kernel) (by decide +kernel)) (goodIn_sub (fun _ h => List.mem_append_right _ h) (by decide +kernel))) (goodIn_sub (fun _ h => List.mem_append_left _ (List.mem_append_left _ (List.mem_append_right _ h))) (by decide +kernel))
set_option maxRecDepth 20000 in
theorem gL_law_L_place : GoodIn wsL_law (va_wsS RL 134 yL_place wsL_place) := goodIn_app (goodIn_of _ (by decide +kernel)) ggL_law_L_place
set_option maxRecDepth 20000 in
theorem ggL_law_X4_place : GoodIn wsL_law wsX4_place := goodIn_r _ [445, 68, 177, 178, 179, 5, 180, 58, 103, 104, 105, 106, 107, 108, 109, 446, 447, 448, 449, 181, 182, 183, 184, 148, 149, 150, 151, 152, 153, 154, 144, 145, 146, 147, 450, 451, 452, 453, 258, 259, 260, 261, 262, 263, 264, 265, 266, 267, 268, 269, 837, 838, 839, 840, 841, 842, 843, 844, 845, 846, 847, 848, 849, 850, 851, 852, 853, 854] (by decide +kernel) (by decide +kernel)
set_option maxRecDepth 20000 in
theorem gL_law_X4_place : GoodIn wsL_law (wsV RL 136 RX4 yX4_place wsX4_place) := goodIn_app (goodIn_of _ (by decide +kernel)) ggL_law_X4_place
set_option maxRecDepth 20000 in
theorem ggL_law_L_code : GoodIn wsL_law wsL_code := goodIn_ca (goodIn_r _ [456, 73, 457, 458, 459, 2, 460, 78, 79, 461, 16, 80, 462, 247, 248, 249, 828, 829, 830, 831, 832, 833, 834, 835, 836, 855, 856, 857, 858] (by decide +kernel) (by decide +kernel)) (goodIn_sub (fun _ h => List.mem_append_left _ (List.mem_append_left _ (List.mem_append_right _ h))) (by decide +kernel))
