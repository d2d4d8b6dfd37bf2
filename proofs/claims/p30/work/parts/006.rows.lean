set_option maxRecDepth 20000 in
theorem gX3_word_X2_withChecks : GoodIn wsX3_word (wsV RX3 102 RX2 yX2_withChecks wsX2_withChecks) := goodIn_app (goodIn_of _ (by decide +kernel)) ggX3_word_X2_withChecks
set_option maxRecDepth 20000 in
theorem ggX3_word_X2_wordOf : GoodIn wsX3_word wsX2_wordOf := goodIn_r _ [44, 45, 46, 47, 48, 7, 49, 17, 50, 39, 51, 52, 62, 63, 64, 65] (by decide +kernel) (by decide +kernel)
set_option maxRecDepth 20000 in
theorem gX3_word_X2_wordOf : GoodIn wsX3_word (wsV RX3 105 RX2 yX2_wordOf wsX2_wordOf) := goodIn_app (goodIn_of _ (by decide +kernel)) ggX3_word_X2_wordOf
theorem dX3_word_0 : decode cX3_word 0 = .ok (.aload_n 0, 1) := by decide +kernel
theorem dX3_word_1 : decode cX3_word 1 = .ok (.getfield 10, 3) := by decide +kernel
theorem dX3_word_4 : decode cX3_word 4 = .ok (.iload_n 1, 1) := by decide +kernel
theorem dX3_word_5 : decode cX3_word 5 = .ok (.invokevirtual 97, 3) := by decide +kernel
theorem dX3_word_8 : decode cX3_word 8 = .ok (.ifCond .ne 13, 3) := by decide +kernel
theorem dX3_word_11 : decode cX3_word 11 = .ok (.new 41, 3) := by decide +kernel
theorem dX3_word_14 : decode cX3_word 14 = .ok (.dup, 1) := by decide +kernel
theorem dX3_word_15 : decode cX3_word 15 = .ok (.ldc 100, 2) := by decide +kernel
theorem dX3_word_17 : decode cX3_word 17 = .ok (.invokespecial 45, 3) := by decide +kernel
theorem dX3_word_20 : decode cX3_word 20 = .ok (.athrow, 1) := by decide +kernel
theorem dX3_word_21 : decode cX3_word 21 = .ok (.aload_n 0, 1) := by decide +kernel
theorem dX3_word_22 : decode cX3_word 22 = .ok (.getfield 10, 3) := by decide +kernel
theorem dX3_word_25 : decode cX3_word 25 = .ok (.aload_n 0, 1) := by decide +kernel
theorem dX3_word_26 : decode cX3_word 26 = .ok (.getfield 10, 3) := by decide +kernel
theorem dX3_word_29 : decode cX3_word 29 = .ok (.iload_n 1, 1) := by decide +kernel
theorem dX3_word_30 : decode cX3_word 30 = .ok (.invokevirtual 102, 3) := by decide +kernel
theorem dX3_word_33 : decode cX3_word 33 = .ok (.invokevirtual 105, 3) := by decide +kernel
theorem dX3_word_36 : decode cX3_word 36 = .ok (.ireturn, 1) := by decide +kernel
set_option maxRecDepth 20000 in
theorem ggX3_read_X3_currentReading : GoodIn wsX3_read wsX3_currentReading := goodIn_r _ [11, 12, 13, 5, 14, 15, 16, 17, 18, 19, 20, 21, 22, 23, 24, 25, 26, 27, 28, 29, 30, 31, 32, 33, 34, 35, 36, 37, 38, 39, 40, 41, 42, 43, 44, 45, 46, 47, 48, 49, 50, 51, 52, 53, 10, 54, 55, 56, 57, 58, 59, 60, 61, 62, 63, 64, 65, 66, 67, 68, 69, 70, 71, 72, 73, 74, 75, 76, 77, 78, 79, 80, 81, 82, 83, 84, 85, 86, 87, 88, 89, 90, 91, 92, 93, 94, 95, 96, 97, 98, 99, 100, 101, 102, 103, 104, 105, 106, 107, 108, 109, 110, 111, 112, 113, 114, 115, 142, 143, 144, 145, 146, 147, 148, 149, 150, 151, 152, 153, 154, 130, 131, 132, 133, 134, 135, 136, 137, 138, 139, 140, 141] (by decide +kernel) (by decide +kernel)
set_option maxRecDepth 20000 in
theorem gX3_read_X3_currentReading : GoodIn wsX3_read (wsV RX3 180 RX3 yX3_currentReading wsX3_currentReading) := goodIn_app (goodIn_of _ (by decide +kernel)) ggX3_read_X3_currentReading
set_option maxRecDepth 20000 in
theorem ggX3_read_X2_bodyOf : GoodIn wsX3_read wsX2_bodyOf := goodIn_r _ [119, 120, 84, 85, 32, 86, 87, 88, 89, 90, 34, 91, 92, 93, 94, 95, 96, 97, 98, 99, 100, 101, 102, 103, 104, 105, 106, 151, 152, 153, 154] (by decide +kernel) (by decide +kernel)
set_option maxRecDepth 20000 in
theorem gX3_read_X2_bodyOf : GoodIn wsX3_read (wsV RX3 190 RX2 yX2_bodyOf wsX2_bodyOf) := goodIn_app (goodIn_of _ (by decide +kernel)) ggX3_read_X2_bodyOf
set_option maxRecDepth 20000 in
theorem ggX3_read_X2_wordOf : GoodIn wsX3_read wsX2_wordOf := goodIn_r _ [124, 112, 113, 30, 31, 32, 33, 34, 53, 10, 54, 55, 151, 152, 153, 154] (by decide +kernel) (by decide +kernel)
set_option maxRecDepth 20000 in
theorem gX3_read_X2_wordOf : GoodIn wsX3_read (wsV RX3 105 RX2 yX2_wordOf wsX2_wordOf) := goodIn_app (goodIn_of _ (by decide +kernel)) ggX3_read_X2_wordOf
set_option maxRecDepth 20000 in
theorem ggX3_read_X2_differences : GoodIn wsX3_read wsX2_differences := goodIn_r _ [128, 112, 129, 151, 152, 153, 154] (by decide +kernel) (by decide +kernel)
set_option maxRecDepth 20000 in
theorem gX3_read_X2_differences : GoodIn wsX3_read (wsV RX3 196 RX2 yX2_differences wsX2_differences) := goodIn_app (goodIn_of _ (by decide +kernel)) ggX3_read_X2_differences
theorem dX3_read_0 : decode cX3_read 0 = .ok (.iload_n 1, 1) := by decide +kernel
theorem dX3_read_1 : decode cX3_read 1 = .ok (.ifCond .lt 8, 3) := by decide +kernel
theorem dX3_read_4 : decode cX3_read 4 = .ok (.iload_n 1, 1) := by decide +kernel
theorem dX3_read_5 : decode cX3_read 5 = .ok (.iconst 4, 1) := by decide +kernel
theorem dX3_read_6 : decode cX3_read 6 = .ok (.if_icmp .le 13, 3) := by decide +kernel
theorem dX3_read_9 : decode cX3_read 9 = .ok (.new 41, 3) := by decide +kernel
theorem dX3_read_12 : decode cX3_read 12 = .ok (.dup, 1) := by decide +kernel
theorem dX3_read_13 : decode cX3_read 13 = .ok (.ldc 178, 2) := by decide +kernel
theorem dX3_read_15 : decode cX3_read 15 = .ok (.invokespecial 45, 3) := by decide +kernel
theorem dX3_read_18 : decode cX3_read 18 = .ok (.athrow, 1) := by decide +kernel
theorem dX3_read_19 : decode cX3_read 19 = .ok (.aload_n 0, 1) := by decide +kernel
theorem dX3_read_20 : decode cX3_read 20 = .ok (.invokevirtual 180, 3) := by decide +kernel
theorem dX3_read_23 : decode cX3_read 23 = .ok (.astore_n 2, 1) := by decide +kernel
theorem dX3_read_24 : decode cX3_read 24 = .ok (.aload_n 2, 1) := by decide +kernel
theorem dX3_read_25 : decode cX3_read 25 = .ok (.getfield 184, 3) := by decide +kernel
theorem dX3_read_28 : decode cX3_read 28 = .ok (.istore_n 3, 1) := by decide +kernel
theorem dX3_read_29 : decode cX3_read 29 = .ok (.iload_n 3, 1) := by decide +kernel
theorem dX3_read_30 : decode cX3_read 30 = .ok (.ifCond .lt 8, 3) := by decide +kernel
theorem dX3_read_33 : decode cX3_read 33 = .ok (.iload_n 3, 1) := by decide +kernel
theorem dX3_read_34 : decode cX3_read 34 = .ok (.iconst 4, 1) := by decide +kernel
theorem dX3_read_35 : decode cX3_read 35 = .ok (.if_icmp .lt 5, 3) := by decide +kernel
theorem dX3_read_38 : decode cX3_read 38 = .ok (.iconst (-1), 1) := by decide +kernel
theorem dX3_read_39 : decode cX3_read 39 = .ok (.ireturn, 1) := by decide +kernel
theorem dX3_read_40 : decode cX3_read 40 = .ok (.aload_n 2, 1) := by decide +kernel
theorem dX3_read_41 : decode cX3_read 41 = .ok (.getfield 187, 3) := by decide +kernel
theorem dX3_read_44 : decode cX3_read 44 = .ok (.iload_n 3, 1) := by decide +kernel
theorem dX3_read_45 : decode cX3_read 45 = .ok (.iaload, 1) := by decide +kernel
theorem dX3_read_46 : decode cX3_read 46 = .ok (.istore 4, 2) := by decide +kernel
theorem dX3_read_48 : decode cX3_read 48 = .ok (.iload_n 1, 1) := by decide +kernel
theorem dX3_read_49 : decode cX3_read 49 = .ok (.tableswitch 53 0 3 #[31, 34, 44, 46], 31) := by decide +kernel
theorem dX3_read_80 : decode cX3_read 80 = .ok (.iload 4, 2) := by decide +kernel
theorem dX3_read_82 : decode cX3_read 82 = .ok (.ireturn, 1) := by decide +kernel
theorem dX3_read_83 : decode cX3_read 83 = .ok (.aload_n 0, 1) := by decide +kernel
theorem dX3_read_84 : decode cX3_read 84 = .ok (.getfield 10, 3) := by decide +kernel
theorem dX3_read_87 : decode cX3_read 87 = .ok (.iload 4, 2) := by decide +kernel
theorem dX3_read_89 : decode cX3_read 89 = .ok (.invokevirtual 190, 3) := by decide +kernel
theorem dX3_read_92 : decode cX3_read 92 = .ok (.ireturn, 1) := by decide +kernel
theorem dX3_read_93 : decode cX3_read 93 = .ok (.iload_n 3, 1) := by decide +kernel
theorem dX3_read_94 : decode cX3_read 94 = .ok (.ireturn, 1) := by decide +kernel
theorem dX3_read_95 : decode cX3_read 95 = .ok (.aload_n 2, 1) := by decide +kernel
theorem dX3_read_96 : decode cX3_read 96 = .ok (.getfield 193, 3) := by decide +kernel
theorem dX3_read_99 : decode cX3_read 99 = .ok (.iload_n 3, 1) := by decide +kernel
theorem dX3_read_100 : decode cX3_read 100 = .ok (.iaload, 1) := by decide +kernel
theorem dX3_read_101 : decode cX3_read 101 = .ok (.ireturn, 1) := by decide +kernel
theorem dX3_read_102 : decode cX3_read 102 = .ok (.aload_n 0, 1) := by decide +kernel
theorem dX3_read_103 : decode cX3_read 103 = .ok (.getfield 10, 3) := by decide +kernel
theorem dX3_read_106 : decode cX3_read 106 = .ok (.aload_n 0, 1) := by decide +kernel
theorem dX3_read_107 : decode cX3_read 107 = .ok (.getfield 10, 3) := by decide +kernel
theorem dX3_read_110 : decode cX3_read 110 = .ok (.iload 4, 2) := by decide +kernel
theorem dX3_read_112 : decode cX3_read 112 = .ok (.invokevirtual 105, 3) := by decide +kernel
theorem dX3_read_115 : decode cX3_read 115 = .ok (.invokevirtual 196, 3) := by decide +kernel
theorem dX3_read_118 : decode cX3_read 118 = .ok (.ireturn, 1) := by decide +kernel
set_option maxRecDepth 20000 in
theorem ggX3_path_X3_currentReading : GoodIn wsX3_path wsX3_currentReading := goodIn_r _ [11, 12, 13, 14, 15, 16, 17, 18, 19, 20, 21, 22, 23, 24, 25, 26, 27, 28, 29, 30, 31, 32, 33, 34, 35, 36, 37, 38, 39, 40, 41, 42, 43, 44, 45, 46, 47, 48, 49, 50, 51, 52, 53, 54, 10, 55, 56, 57, 58, 59, 60, 61, 62, 63, 64, 65, 66, 67, 68, 69, 70, 71, 72, 73, 74, 75, 76, 77, 78, 79, 80, 81, 82, 83, 84, 85, 86, 87, 88, 89, 90, 91, 92, 93, 94, 95, 96, 97, 98, 99, 100, 101, 102, 103, 104, 105, 106, 107, 108, 109, 110, 111, 112, 113, 114, 115, 116, 129, 130, 131, 132, 133, 134, 135, 136, 137, 138, 139, 140, 141, 117, 118, 119, 120, 121, 122, 123, 124, 125, 126, 127, 128] (by decide +kernel) (by decide +kernel)
set_option maxRecDepth 20000 in
theorem gX3_path_X3_currentReading : GoodIn wsX3_path (wsV RX3 180 RX3 yX3_currentReading wsX3_currentReading) := goodIn_app (goodIn_of _ (by decide +kernel)) ggX3_path_X3_currentReading
theorem dX3_path_0 : decode cX3_path 0 = .ok (.iload_n 1, 1) := by decide +kernel
theorem dX3_path_1 : decode cX3_path 1 = .ok (.ifCond .lt 12, 3) := by decide +kernel
theorem dX3_path_4 : decode cX3_path 4 = .ok (.iload_n 2, 1) := by decide +kernel
theorem dX3_path_5 : decode cX3_path 5 = .ok (.ifCond .lt 8, 3) := by decide +kernel
theorem dX3_path_8 : decode cX3_path 8 = .ok (.iload_n 2, 1) := by decide +kernel
theorem dX3_path_9 : decode cX3_path 9 = .ok (.iconst 2, 1) := by decide +kernel
theorem dX3_path_10 : decode cX3_path 10 = .ok (.if_icmp .le 13, 3) := by decide +kernel
theorem dX3_path_13 : decode cX3_path 13 = .ok (.new 41, 3) := by decide +kernel
theorem dX3_path_16 : decode cX3_path 16 = .ok (.dup, 1) := by decide +kernel
theorem dX3_path_17 : decode cX3_path 17 = .ok (.ldc 199, 2) := by decide +kernel
theorem dX3_path_19 : decode cX3_path 19 = .ok (.invokespecial 45, 3) := by decide +kernel
theorem dX3_path_22 : decode cX3_path 22 = .ok (.athrow, 1) := by decide +kernel
theorem dX3_path_23 : decode cX3_path 23 = .ok (.aload_n 0, 1) := by decide +kernel
theorem dX3_path_24 : decode cX3_path 24 = .ok (.invokevirtual 180, 3) := by decide +kernel
theorem dX3_path_27 : decode cX3_path 27 = .ok (.astore_n 3, 1) := by decide +kernel
theorem dX3_path_28 : decode cX3_path 28 = .ok (.iload_n 1, 1) := by decide +kernel
theorem dX3_path_29 : decode cX3_path 29 = .ok (.aload_n 3, 1) := by decide +kernel
theorem dX3_path_30 : decode cX3_path 30 = .ok (.getfield 201, 3) := by decide +kernel
theorem dX3_path_33 : decode cX3_path 33 = .ok (.if_icmp .ge 8, 3) := by decide +kernel
theorem dX3_path_36 : decode cX3_path 36 = .ok (.iload_n 1, 1) := by decide +kernel
theorem dX3_path_37 : decode cX3_path 37 = .ok (.iconst 4, 1) := by decide +kernel
theorem dX3_path_38 : decode cX3_path 38 = .ok (.if_icmp .lt 5, 3) := by decide +kernel
theorem dX3_path_41 : decode cX3_path 41 = .ok (.iconst (-1), 1) := by decide +kernel
theorem dX3_path_42 : decode cX3_path 42 = .ok (.ireturn, 1) := by decide +kernel
theorem dX3_path_43 : decode cX3_path 43 = .ok (.iload_n 2, 1) := by decide +kernel
theorem dX3_path_44 : decode cX3_path 44 = .ok (.lookupswitch 42 #[(0, 28), (1, 35)], 28) := by decide +kernel
theorem dX3_path_72 : decode cX3_path 72 = .ok (.aload_n 3, 1) := by decide +kernel
theorem dX3_path_73 : decode cX3_path 73 = .ok (.getfield 187, 3) := by decide +kernel
theorem dX3_path_76 : decode cX3_path 76 = .ok (.iload_n 1, 1) := by decide +kernel
theorem dX3_path_77 : decode cX3_path 77 = .ok (.iaload, 1) := by decide +kernel
theorem dX3_path_78 : decode cX3_path 78 = .ok (.ireturn, 1) := by decide +kernel
theorem dX3_path_79 : decode cX3_path 79 = .ok (.aload_n 3, 1) := by decide +kernel
theorem dX3_path_80 : decode cX3_path 80 = .ok (.getfield 193, 3) := by decide +kernel
theorem dX3_path_83 : decode cX3_path 83 = .ok (.iload_n 1, 1) := by decide +kernel
theorem dX3_path_84 : decode cX3_path 84 = .ok (.iaload, 1) := by decide +kernel
theorem dX3_path_85 : decode cX3_path 85 = .ok (.ireturn, 1) := by decide +kernel
theorem dX3_path_86 : decode cX3_path 86 = .ok (.aload_n 3, 1) := by decide +kernel
theorem dX3_path_87 : decode cX3_path 87 = .ok (.getfield 204, 3) := by decide +kernel
theorem dX3_path_90 : decode cX3_path 90 = .ok (.iload_n 1, 1) := by decide +kernel
theorem dX3_path_91 : decode cX3_path 91 = .ok (.baload, 1) := by decide +kernel
theorem dX3_path_92 : decode cX3_path 92 = .ok (.ifCond .eq 7, 3) := by decide +kernel
theorem dX3_path_95 : decode cX3_path 95 = .ok (.iconst 1, 1) := by decide +kernel
theorem dX3_path_96 : decode cX3_path 96 = .ok (.goto 4, 3) := by decide +kernel
theorem dX3_path_99 : decode cX3_path 99 = .ok (.iconst 0, 1) := by decide +kernel
theorem dX3_path_100 : decode cX3_path 100 = .ok (.ireturn, 1) := by decide +kernel
set_option maxRecDepth 20000 in
theorem ggX3_heard_X2_hasPlace : GoodIn wsX3_heard wsX2_hasPlace := goodIn_r _ [8, 9, 130, 131, 132, 133] (by decide +kernel) (by decide +kernel)
set_option maxRecDepth 20000 in
theorem gX3_heard_X2_hasPlace : GoodIn wsX3_heard (wsV RX3 72 RX2 yX2_hasPlace wsX2_hasPlace) := goodIn_app (goodIn_of _ (by decide +kernel)) ggX3_heard_X2_hasPlace
set_option maxRecDepth 20000 in
theorem ggX3_heard_X3_currentReading : GoodIn wsX3_heard wsX3_currentReading := goodIn_r _ [14, 15, 16, 3, 17, 18, 19, 20, 21, 22, 23, 24, 25, 26, 27, 28, 29, 30, 31, 32, 33, 34, 7, 35, 36, 37, 38, 39, 40, 41, 42, 43, 44, 45, 46, 47, 48, 49, 50, 51, 52, 53, 54, 55, 13, 56, 57, 58, 59, 60, 61, 62, 63, 64, 65, 66, 67, 68, 69, 70, 71, 72, 73, 74, 75, 76, 77, 78, 79, 80, 81, 82, 83, 84, 85, 86, 87, 88, 89, 90, 91, 92, 93, 94, 95, 96, 97, 98, 99, 100, 101, 102, 103, 104, 105, 106, 107, 108, 109, 110, 111, 112, 113, 9, 114, 115, 116, 121, 122, 123, 124, 125, 126, 127, 128, 129, 130, 131, 132, 133, 134, 135, 136, 137, 138, 139, 140, 141, 142, 143, 144, 145] (by decide +kernel) (by decide +kernel)
set_option maxRecDepth 20000 in
theorem gX3_heard_X3_currentReading : GoodIn wsX3_heard (wsV RX3 180 RX3 yX3_currentReading wsX3_currentReading) := goodIn_app (goodIn_of _ (by decide +kernel)) ggX3_heard_X3_currentReading
set_option maxRecDepth 20000 in
theorem ggX3_heard_X0_heardByFirst : GoodIn wsX3_heard wsX0_heardByFirst := goodIn_r _ [120, 28, 42, 43, 44, 21, 45, 25, 46, 47, 48, 49, 50, 24, 51, 52, 53, 54, 55, 13, 56, 57, 58, 59, 60, 61, 134, 135, 136, 137, 138, 139, 140, 141, 142, 143, 144, 145] (by decide +kernel) (by decide +kernel)
set_option maxRecDepth 20000 in
theorem gX3_heard_X0_heardByFirst : GoodIn wsX3_heard (wsV RX3 208 RX0 yX0_heardByFirst wsX0_heardByFirst) := goodIn_app (goodIn_of _ (by decide +kernel)) ggX3_heard_X0_heardByFirst
theorem dX3_heard_0 : decode cX3_heard 0 = .ok (.aload_n 0, 1) := by decide +kernel
theorem dX3_heard_1 : decode cX3_heard 1 = .ok (.getfield 10, 3) := by decide +kernel
theorem dX3_heard_4 : decode cX3_heard 4 = .ok (.iload_n 1, 1) := by decide +kernel
theorem dX3_heard_5 : decode cX3_heard 5 = .ok (.invokevirtual 72, 3) := by decide +kernel
theorem dX3_heard_8 : decode cX3_heard 8 = .ok (.ifCond .ne 13, 3) := by decide +kernel
theorem dX3_heard_11 : decode cX3_heard 11 = .ok (.new 76, 3) := by decide +kernel
theorem dX3_heard_14 : decode cX3_heard 14 = .ok (.dup, 1) := by decide +kernel
theorem dX3_heard_15 : decode cX3_heard 15 = .ok (.ldc 78, 2) := by decide +kernel
theorem dX3_heard_17 : decode cX3_heard 17 = .ok (.invokespecial 80, 3) := by decide +kernel
theorem dX3_heard_20 : decode cX3_heard 20 = .ok (.athrow, 1) := by decide +kernel
theorem dX3_heard_21 : decode cX3_heard 21 = .ok (.aload_n 0, 1) := by decide +kernel
theorem dX3_heard_22 : decode cX3_heard 22 = .ok (.invokevirtual 180, 3) := by decide +kernel
theorem dX3_heard_25 : decode cX3_heard 25 = .ok (.iload_n 1, 1) := by decide +kernel
theorem dX3_heard_26 : decode cX3_heard 26 = .ok (.invokevirtual 208, 3) := by decide +kernel
theorem dX3_heard_29 : decode cX3_heard 29 = .ok (.sipush 10000, 3) := by decide +kernel
theorem dX3_heard_32 : decode cX3_heard 32 = .ok (.iadd, 1) := by decide +kernel
theorem dX3_heard_33 : decode cX3_heard 33 = .ok (.ireturn, 1) := by decide +kernel
set_option maxRecDepth 20000 in
theorem ggX3_count_X2_openPlaces : GoodIn wsX3_count wsX2_openPlaces := goodIn_r _ [11, 12, 13, 14, 15, 16, 17, 18, 19, 144, 145, 146, 147] (by decide +kernel) (by decide +kernel)
set_option maxRecDepth 20000 in
theorem gX3_count_X2_openPlaces : GoodIn wsX3_count (wsV RX3 211 RX2 yX2_openPlaces wsX2_openPlaces) := goodIn_app (goodIn_of _ (by decide +kernel)) ggX3_count_X2_openPlaces
set_option maxRecDepth 20000 in
theorem ggX3_count_X2_bodyBits : GoodIn wsX3_count wsX2_bodyBits := goodIn_r _ [23, 24, 8, 9, 10, 11, 12, 13, 14, 15, 16, 17, 18, 19, 25, 26, 27, 28, 29, 30, 31, 32, 33, 144, 145, 146, 147] (by decide +kernel) (by decide +kernel)
set_option maxRecDepth 20000 in
theorem gX3_count_X2_bodyBits : GoodIn wsX3_count (wsV RX3 214 RX2 yX2_bodyBits wsX2_bodyBits) := goodIn_app (goodIn_of _ (by decide +kernel)) ggX3_count_X2_bodyBits
set_option maxRecDepth 20000 in
theorem ggX3_count_X2_checkBits : GoodIn wsX3_count wsX2_checkBits := goodIn_r _ [28, 29, 30, 31, 32, 33, 24, 8, 9, 10, 11, 12, 13, 14, 15, 16, 17, 18, 19, 144, 145, 146, 147] (by decide +kernel) (by decide +kernel)
set_option maxRecDepth 20000 in
theorem gX3_count_X2_checkBits : GoodIn wsX3_count (wsV RX3 217 RX2 yX2_checkBits wsX2_checkBits) := goodIn_app (goodIn_of _ (by decide +kernel)) ggX3_count_X2_checkBits
set_option maxRecDepth 20000 in
theorem ggX3_count_X2_zeroValues : GoodIn wsX3_count wsX2_zeroValues := goodIn_r _ [38, 39, 40, 144, 145, 146, 147] (by decide +kernel) (by decide +kernel)
set_option maxRecDepth 20000 in
theorem gX3_count_X2_zeroValues : GoodIn wsX3_count (wsV RX3 220 RX2 yX2_zeroValues wsX2_zeroValues) := goodIn_app (goodIn_of _ (by decide +kernel)) ggX3_count_X2_zeroValues
set_option maxRecDepth 20000 in
theorem ggX3_count_X2_sumOfSizes : GoodIn wsX3_count wsX2_sumOfSizes := goodIn_r _ [44, 39, 40, 45, 46, 32, 47, 144, 145, 146, 147] (by decide +kernel) (by decide +kernel)
set_option maxRecDepth 20000 in
theorem gX3_count_X2_sumOfSizes : GoodIn wsX3_count (wsV RX3 223 RX2 yX2_sumOfSizes wsX2_sumOfSizes) := goodIn_app (goodIn_of _ (by decide +kernel)) ggX3_count_X2_sumOfSizes
set_option maxRecDepth 20000 in
theorem ggX3_count_X3_currentReading : GoodIn wsX3_count wsX3_currentReading := goodIn_r _ [52, 53, 54, 3, 55, 56, 57, 58, 59, 60, 61, 62, 63, 64, 65, 66, 67, 68, 69, 70, 71, 72, 10, 73, 12, 74, 75, 76, 77, 78, 79, 80, 81, 82, 83, 84, 85, 86, 87, 88, 89, 90, 91, 92, 51, 93, 94, 95, 96, 97, 98, 99, 100, 101, 102, 103, 104, 105, 106, 107, 108, 109, 110, 111, 112, 113, 114, 115, 116, 117, 118, 119, 120, 121, 122, 21, 22, 23, 24, 8, 9, 11, 13, 14, 15, 16, 17, 18, 19, 25, 26, 27, 28, 29, 30, 31, 32, 33, 123, 124, 125, 126, 127, 39, 128, 129, 130, 135, 136, 137, 138, 139, 140, 141, 142, 143, 144, 145, 146, 147, 148, 149, 150, 151, 152, 153, 154, 155, 156, 157, 158, 159] (by decide +kernel) (by decide +kernel)
set_option maxRecDepth 20000 in
theorem gX3_count_X3_currentReading : GoodIn wsX3_count (wsV RX3 180 RX3 yX3_currentReading wsX3_currentReading) := goodIn_app (goodIn_of _ (by decide +kernel)) ggX3_count_X3_currentReading
set_option maxRecDepth 20000 in
theorem ggX3_count_X0_rightPaths : GoodIn wsX3_count wsX0_rightPaths := goodIn_r _ [134, 65, 121, 148, 149, 150, 151, 152, 153, 154, 155, 156, 157, 158, 159] (by decide +kernel) (by decide +kernel)
set_option maxRecDepth 20000 in
theorem gX3_count_X0_rightPaths : GoodIn wsX3_count (wsV RX3 226 RX0 yX0_rightPaths wsX0_rightPaths) := goodIn_app (goodIn_of _ (by decide +kernel)) ggX3_count_X0_rightPaths
theorem dX3_count_0 : decode cX3_count 0 = .ok (.iload_n 1, 1) := by decide +kernel
theorem dX3_count_1 : decode cX3_count 1 = .ok (.tableswitch 120 0 8 #[51, 59, 67, 75, 83, 91, 99, 107, 115], 51) := by decide +kernel
theorem dX3_count_52 : decode cX3_count 52 = .ok (.aload_n 0, 1) := by decide +kernel
theorem dX3_count_53 : decode cX3_count 53 = .ok (.getfield 10, 3) := by decide +kernel
theorem dX3_count_56 : decode cX3_count 56 = .ok (.getfield 51, 3) := by decide +kernel
theorem dX3_count_59 : decode cX3_count 59 = .ok (.ireturn, 1) := by decide +kernel
theorem dX3_count_60 : decode cX3_count 60 = .ok (.aload_n 0, 1) := by decide +kernel
theorem dX3_count_61 : decode cX3_count 61 = .ok (.getfield 10, 3) := by decide +kernel
theorem dX3_count_64 : decode cX3_count 64 = .ok (.invokevirtual 211, 3) := by decide +kernel
theorem dX3_count_67 : decode cX3_count 67 = .ok (.ireturn, 1) := by decide +kernel
theorem dX3_count_68 : decode cX3_count 68 = .ok (.aload_n 0, 1) := by decide +kernel
theorem dX3_count_69 : decode cX3_count 69 = .ok (.getfield 10, 3) := by decide +kernel
theorem dX3_count_72 : decode cX3_count 72 = .ok (.invokevirtual 214, 3) := by decide +kernel
theorem dX3_count_75 : decode cX3_count 75 = .ok (.ireturn, 1) := by decide +kernel
theorem dX3_count_76 : decode cX3_count 76 = .ok (.aload_n 0, 1) := by decide +kernel
theorem dX3_count_77 : decode cX3_count 77 = .ok (.getfield 10, 3) := by decide +kernel
theorem dX3_count_80 : decode cX3_count 80 = .ok (.invokevirtual 217, 3) := by decide +kernel
theorem dX3_count_83 : decode cX3_count 83 = .ok (.ireturn, 1) := by decide +kernel
theorem dX3_count_84 : decode cX3_count 84 = .ok (.aload_n 0, 1) := by decide +kernel
theorem dX3_count_85 : decode cX3_count 85 = .ok (.getfield 10, 3) := by decide +kernel
theorem dX3_count_88 : decode cX3_count 88 = .ok (.invokevirtual 220, 3) := by decide +kernel
theorem dX3_count_91 : decode cX3_count 91 = .ok (.ireturn, 1) := by decide +kernel
theorem dX3_count_92 : decode cX3_count 92 = .ok (.aload_n 0, 1) := by decide +kernel
theorem dX3_count_93 : decode cX3_count 93 = .ok (.getfield 10, 3) := by decide +kernel
theorem dX3_count_96 : decode cX3_count 96 = .ok (.invokevirtual 223, 3) := by decide +kernel
theorem dX3_count_99 : decode cX3_count 99 = .ok (.ireturn, 1) := by decide +kernel
theorem dX3_count_100 : decode cX3_count 100 = .ok (.aload_n 0, 1) := by decide +kernel
theorem dX3_count_101 : decode cX3_count 101 = .ok (.invokevirtual 180, 3) := by decide +kernel
theorem dX3_count_104 : decode cX3_count 104 = .ok (.getfield 201, 3) := by decide +kernel
theorem dX3_count_107 : decode cX3_count 107 = .ok (.ireturn, 1) := by decide +kernel
theorem dX3_count_108 : decode cX3_count 108 = .ok (.aload_n 0, 1) := by decide +kernel
theorem dX3_count_109 : decode cX3_count 109 = .ok (.invokevirtual 180, 3) := by decide +kernel
theorem dX3_count_112 : decode cX3_count 112 = .ok (.invokevirtual 226, 3) := by decide +kernel
theorem dX3_count_115 : decode cX3_count 115 = .ok (.ireturn, 1) := by decide +kernel
theorem dX3_count_116 : decode cX3_count 116 = .ok (.aload_n 0, 1) := by decide +kernel
theorem dX3_count_117 : decode cX3_count 117 = .ok (.getfield 144, 3) := by decide +kernel
theorem dX3_count_120 : decode cX3_count 120 = .ok (.ireturn, 1) := by decide +kernel
theorem dX3_count_121 : decode cX3_count 121 = .ok (.new 41, 3) := by decide +kernel
theorem dX3_count_124 : decode cX3_count 124 = .ok (.dup, 1) := by decide +kernel
theorem dX3_count_125 : decode cX3_count 125 = .ok (.ldc 229, 2) := by decide +kernel
theorem dX3_count_127 : decode cX3_count 127 = .ok (.invokespecial 45, 3) := by decide +kernel
theorem dX3_count_130 : decode cX3_count 130 = .ok (.athrow, 1) := by decide +kernel
theorem dX3_setting_0 : decode cX3_setting 0 = .ok (.iload_n 1, 1) := by decide +kernel
theorem dX3_setting_1 : decode cX3_setting 1 = .ok (.ifCond .lt 8, 3) := by decide +kernel
theorem dX3_setting_4 : decode cX3_setting 4 = .ok (.iload_n 1, 1) := by decide +kernel
theorem dX3_setting_5 : decode cX3_setting 5 = .ok (.iconst 4, 1) := by decide +kernel
theorem dX3_setting_6 : decode cX3_setting 6 = .ok (.if_icmp .lt 13, 3) := by decide +kernel
theorem dX3_setting_9 : decode cX3_setting 9 = .ok (.new 76, 3) := by decide +kernel
theorem dX3_setting_12 : decode cX3_setting 12 = .ok (.dup, 1) := by decide +kernel
theorem dX3_setting_13 : decode cX3_setting 13 = .ok (.ldc 84, 2) := by decide +kernel
theorem dX3_setting_15 : decode cX3_setting 15 = .ok (.invokespecial 80, 3) := by decide +kernel
theorem dX3_setting_18 : decode cX3_setting 18 = .ok (.athrow, 1) := by decide +kernel
theorem dX3_setting_19 : decode cX3_setting 19 = .ok (.aload_n 0, 1) := by decide +kernel
theorem dX3_setting_20 : decode cX3_setting 20 = .ok (.getfield 10, 3) := by decide +kernel
theorem dX3_setting_23 : decode cX3_setting 23 = .ok (.getfield 94, 3) := by decide +kernel
theorem dX3_setting_26 : decode cX3_setting 26 = .ok (.iload_n 1, 1) := by decide +kernel
theorem dX3_setting_27 : decode cX3_setting 27 = .ok (.iaload, 1) := by decide +kernel
theorem dX3_setting_28 : decode cX3_setting 28 = .ok (.ireturn, 1) := by decide +kernel
set_option maxRecDepth 20000 in
theorem ggX3_ifFlipped_X2_hasPlace : GoodIn wsX3_ifFlipped wsX2_hasPlace := goodIn_r _ [10, 11, 121, 122, 123, 124] (by decide +kernel) (by decide +kernel)
set_option maxRecDepth 20000 in
theorem gX3_ifFlipped_X2_hasPlace : GoodIn wsX3_ifFlipped (wsV RX3 72 RX2 yX2_hasPlace wsX2_hasPlace) := goodIn_app (goodIn_of _ (by decide +kernel)) ggX3_ifFlipped_X2_hasPlace
set_option maxRecDepth 20000 in
theorem ggX3_ifFlipped_X0_messageRead : GoodIn wsX3_ifFlipped wsX0_messageRead := goodIn_r _ [16, 17, 18, 19, 20, 21, 22, 23, 24, 25, 26, 27, 28, 9, 29, 30, 31, 32, 33, 15, 34, 35, 36, 37, 38, 39, 40, 41, 42, 43, 44, 45, 46, 47, 48, 49, 50, 51, 52, 53, 54, 55, 56, 57, 58, 59, 60, 61, 62, 63, 64, 65, 66, 67, 68, 69, 70, 71, 72, 73, 74, 75, 76, 77, 78, 79, 80, 81, 82, 83, 84, 85, 86, 87, 88, 89, 90, 91, 92, 93, 94, 95, 96, 97, 98, 99, 100, 101, 102, 103, 104, 105, 106, 107, 108, 11, 109, 110, 111, 121, 122, 123, 124, 125, 126, 127, 128, 129, 130, 131, 132, 133, 134, 135, 136] (by decide +kernel) (by decide +kernel)
set_option maxRecDepth 20000 in
theorem gX3_ifFlipped_X0_messageRead : GoodIn wsX3_ifFlipped (wsV RX3 231 RX0 yX0_messageRead wsX0_messageRead) := goodIn_app (goodIn_of _ (by decide +kernel)) ggX3_ifFlipped_X0_messageRead
theorem dX3_ifFlipped_0 : decode cX3_ifFlipped 0 = .ok (.aload_n 0, 1) := by decide +kernel
theorem dX3_ifFlipped_1 : decode cX3_ifFlipped 1 = .ok (.getfield 10, 3) := by decide +kernel
theorem dX3_ifFlipped_4 : decode cX3_ifFlipped 4 = .ok (.iload_n 1, 1) := by decide +kernel
theorem dX3_ifFlipped_5 : decode cX3_ifFlipped 5 = .ok (.invokevirtual 72, 3) := by decide +kernel
theorem dX3_ifFlipped_8 : decode cX3_ifFlipped 8 = .ok (.ifCond .ne 13, 3) := by decide +kernel
theorem dX3_ifFlipped_11 : decode cX3_ifFlipped 11 = .ok (.new 76, 3) := by decide +kernel
theorem dX3_ifFlipped_14 : decode cX3_ifFlipped 14 = .ok (.dup, 1) := by decide +kernel
theorem dX3_ifFlipped_15 : decode cX3_ifFlipped 15 = .ok (.ldc 78, 2) := by decide +kernel
theorem dX3_ifFlipped_17 : decode cX3_ifFlipped 17 = .ok (.invokespecial 80, 3) := by decide +kernel
theorem dX3_ifFlipped_20 : decode cX3_ifFlipped 20 = .ok (.athrow, 1) := by decide +kernel
theorem dX3_ifFlipped_21 : decode cX3_ifFlipped 21 = .ok (.aload_n 0, 1) := by decide +kernel
theorem dX3_ifFlipped_22 : decode cX3_ifFlipped 22 = .ok (.getfield 38, 3) := by decide +kernel
theorem dX3_ifFlipped_25 : decode cX3_ifFlipped 25 = .ok (.aload_n 0, 1) := by decide +kernel
theorem dX3_ifFlipped_26 : decode cX3_ifFlipped 26 = .ok (.getfield 10, 3) := by decide +kernel
theorem dX3_ifFlipped_29 : decode cX3_ifFlipped 29 = .ok (.iconst 1, 1) := by decide +kernel
theorem dX3_ifFlipped_30 : decode cX3_ifFlipped 30 = .ok (.iload_n 1, 1) := by decide +kernel
theorem dX3_ifFlipped_31 : decode cX3_ifFlipped 31 = .ok (.ishl, 1) := by decide +kernel
theorem dX3_ifFlipped_32 : decode cX3_ifFlipped 32 = .ok (.aload_n 0, 1) := by decide +kernel
theorem dX3_ifFlipped_33 : decode cX3_ifFlipped 33 = .ok (.getfield 10, 3) := by decide +kernel
theorem dX3_ifFlipped_36 : decode cX3_ifFlipped 36 = .ok (.getfield 94, 3) := by decide +kernel
theorem dX3_ifFlipped_39 : decode cX3_ifFlipped 39 = .ok (.iconst 1, 1) := by decide +kernel
theorem dX3_ifFlipped_40 : decode cX3_ifFlipped 40 = .ok (.iaload, 1) := by decide +kernel
theorem dX3_ifFlipped_41 : decode cX3_ifFlipped 41 = .ok (.invokevirtual 231, 3) := by decide +kernel
theorem dX3_ifFlipped_44 : decode cX3_ifFlipped 44 = .ok (.ireturn, 1) := by decide +kernel
set_option maxRecDepth 20000 in
theorem ggX3_ifPaths_X0_messageRead : GoodIn wsX3_ifPaths wsX0_messageRead := goodIn_r _ [9, 10, 11, 12, 13, 14, 15, 16, 17, 18, 19, 20, 21, 22, 23, 24, 25, 26, 27, 8, 28, 29, 30, 31, 32, 33, 34, 35, 36, 37, 38, 39, 40, 41, 42, 43, 44, 45, 46, 47, 48, 49, 50, 51, 52, 53, 54, 55, 56, 57, 58, 59, 60, 61, 62, 63, 64, 65, 66, 67, 68, 69, 70, 71, 72, 73, 74, 75, 76, 77, 78, 79, 80, 81, 82, 83, 84, 85, 86, 87, 88, 89, 90, 91, 92, 93, 94, 95, 96, 97, 98, 99, 100, 101, 102, 103, 104, 105, 106, 116, 117, 118, 119, 120, 121, 122, 123, 124, 125, 126, 127, 128, 129, 130, 131] (by decide +kernel) (by decide +kernel)
set_option maxRecDepth 20000 in
theorem gX3_ifPaths_X0_messageRead : GoodIn wsX3_ifPaths (wsV RX3 231 RX0 yX0_messageRead wsX0_messageRead) := goodIn_app (goodIn_of _ (by decide +kernel)) ggX3_ifPaths_X0_messageRead
theorem dX3_ifPaths_0 : decode cX3_ifPaths 0 = .ok (.iload_n 1, 1) := by decide +kernel
theorem dX3_ifPaths_1 : decode cX3_ifPaths 1 = .ok (.iconst 1, 1) := by decide +kernel
theorem dX3_ifPaths_2 : decode cX3_ifPaths 2 = .ok (.if_icmp .lt 8, 3) := by decide +kernel
theorem dX3_ifPaths_5 : decode cX3_ifPaths 5 = .ok (.iload_n 1, 1) := by decide +kernel
theorem dX3_ifPaths_6 : decode cX3_ifPaths 6 = .ok (.iconst 4, 1) := by decide +kernel
theorem dX3_ifPaths_7 : decode cX3_ifPaths 7 = .ok (.if_icmp .le 13, 3) := by decide +kernel
theorem dX3_ifPaths_10 : decode cX3_ifPaths 10 = .ok (.new 41, 3) := by decide +kernel
theorem dX3_ifPaths_13 : decode cX3_ifPaths 13 = .ok (.dup, 1) := by decide +kernel
theorem dX3_ifPaths_14 : decode cX3_ifPaths 14 = .ok (.ldc 235, 2) := by decide +kernel
theorem dX3_ifPaths_16 : decode cX3_ifPaths 16 = .ok (.invokespecial 45, 3) := by decide +kernel
theorem dX3_ifPaths_19 : decode cX3_ifPaths 19 = .ok (.athrow, 1) := by decide +kernel
theorem dX3_ifPaths_20 : decode cX3_ifPaths 20 = .ok (.aload_n 0, 1) := by decide +kernel
theorem dX3_ifPaths_21 : decode cX3_ifPaths 21 = .ok (.getfield 38, 3) := by decide +kernel
theorem dX3_ifPaths_24 : decode cX3_ifPaths 24 = .ok (.aload_n 0, 1) := by decide +kernel
theorem dX3_ifPaths_25 : decode cX3_ifPaths 25 = .ok (.getfield 10, 3) := by decide +kernel
theorem dX3_ifPaths_28 : decode cX3_ifPaths 28 = .ok (.iconst 0, 1) := by decide +kernel
theorem dX3_ifPaths_29 : decode cX3_ifPaths 29 = .ok (.iload_n 1, 1) := by decide +kernel
theorem dX3_ifPaths_30 : decode cX3_ifPaths 30 = .ok (.invokevirtual 231, 3) := by decide +kernel
theorem dX3_ifPaths_33 : decode cX3_ifPaths 33 = .ok (.ireturn, 1) := by decide +kernel
set_option maxRecDepth 20000 in
theorem ggX3_weakest_X0_messageRead : GoodIn wsX3_weakest wsX0_messageRead := goodIn_r _ [9, 10, 11, 12, 13, 14, 15, 16, 17, 18, 19, 20, 21, 22, 23, 24, 25, 26, 27, 8, 28, 29, 30, 31, 32, 33, 34, 35, 36, 37, 38, 39, 40, 41, 42, 43, 44, 45, 46, 47, 48, 49, 50, 51, 52, 53, 54, 55, 56, 57, 58, 59, 60, 61, 62, 63, 64, 65, 66, 67, 68, 69, 70, 71, 72, 73, 74, 75, 76, 77, 78, 79, 80, 81, 82, 83, 84, 85, 86, 87, 88, 89, 90, 91, 92, 93, 94, 95, 96, 97, 98, 99, 100, 101, 102, 103, 104, 105, 106, 116, 117, 118, 119, 120, 121, 122, 123, 124, 125, 126, 127, 128, 129, 130, 131] (by decide +kernel) (by decide +kernel)
set_option maxRecDepth 20000 in
theorem gX3_weakest_X0_messageRead : GoodIn wsX3_weakest (wsV RX3 231 RX0 yX0_messageRead wsX0_messageRead) := goodIn_app (goodIn_of _ (by decide +kernel)) ggX3_weakest_X0_messageRead
theorem dX3_weakest_0 : decode cX3_weakest 0 = .ok (.aload_n 0, 1) := by decide +kernel
theorem dX3_weakest_1 : decode cX3_weakest 1 = .ok (.getfield 10, 3) := by decide +kernel
theorem dX3_weakest_4 : decode cX3_weakest 4 = .ok (.getfield 94, 3) := by decide +kernel
theorem dX3_weakest_7 : decode cX3_weakest 7 = .ok (.iconst 1, 1) := by decide +kernel
theorem dX3_weakest_8 : decode cX3_weakest 8 = .ok (.iaload, 1) := by decide +kernel
theorem dX3_weakest_9 : decode cX3_weakest 9 = .ok (.istore_n 1, 1) := by decide +kernel
theorem dX3_weakest_10 : decode cX3_weakest 10 = .ok (.aload_n 0, 1) := by decide +kernel
theorem dX3_weakest_11 : decode cX3_weakest 11 = .ok (.getfield 38, 3) := by decide +kernel
theorem dX3_weakest_14 : decode cX3_weakest 14 = .ok (.aload_n 0, 1) := by decide +kernel
theorem dX3_weakest_15 : decode cX3_weakest 15 = .ok (.getfield 10, 3) := by decide +kernel
theorem dX3_weakest_18 : decode cX3_weakest 18 = .ok (.iconst 0, 1) := by decide +kernel
theorem dX3_weakest_19 : decode cX3_weakest 19 = .ok (.iload_n 1, 1) := by decide +kernel
theorem dX3_weakest_20 : decode cX3_weakest 20 = .ok (.invokevirtual 231, 3) := by decide +kernel
theorem dX3_weakest_23 : decode cX3_weakest 23 = .ok (.istore_n 2, 1) := by decide +kernel
theorem dX3_weakest_24 : decode cX3_weakest 24 = .ok (.iconst 0, 1) := by decide +kernel
theorem dX3_weakest_25 : decode cX3_weakest 25 = .ok (.istore_n 3, 1) := by decide +kernel
theorem dX3_weakest_26 : decode cX3_weakest 26 = .ok (.iload_n 3, 1) := by decide +kernel
theorem dX3_weakest_27 : decode cX3_weakest 27 = .ok (.aload_n 0, 1) := by decide +kernel
theorem dX3_weakest_28 : decode cX3_weakest 28 = .ok (.getfield 10, 3) := by decide +kernel
theorem dX3_weakest_31 : decode cX3_weakest 31 = .ok (.getfield 51, 3) := by decide +kernel
theorem dX3_weakest_34 : decode cX3_weakest 34 = .ok (.if_icmp .ge 30, 3) := by decide +kernel
theorem dX3_weakest_37 : decode cX3_weakest 37 = .ok (.aload_n 0, 1) := by decide +kernel
theorem dX3_weakest_38 : decode cX3_weakest 38 = .ok (.getfield 38, 3) := by decide +kernel
theorem dX3_weakest_41 : decode cX3_weakest 41 = .ok (.aload_n 0, 1) := by decide +kernel
theorem dX3_weakest_42 : decode cX3_weakest 42 = .ok (.getfield 10, 3) := by decide +kernel
theorem dX3_weakest_45 : decode cX3_weakest 45 = .ok (.iconst 1, 1) := by decide +kernel
theorem dX3_weakest_46 : decode cX3_weakest 46 = .ok (.iload_n 3, 1) := by decide +kernel
theorem dX3_weakest_47 : decode cX3_weakest 47 = .ok (.ishl, 1) := by decide +kernel
theorem dX3_weakest_48 : decode cX3_weakest 48 = .ok (.iload_n 1, 1) := by decide +kernel
theorem dX3_weakest_49 : decode cX3_weakest 49 = .ok (.invokevirtual 231, 3) := by decide +kernel
theorem dX3_weakest_52 : decode cX3_weakest 52 = .ok (.iload_n 2, 1) := by decide +kernel
theorem dX3_weakest_53 : decode cX3_weakest 53 = .ok (.if_icmp .eq 5, 3) := by decide +kernel
theorem dX3_weakest_56 : decode cX3_weakest 56 = .ok (.iload_n 3, 1) := by decide +kernel
theorem dX3_weakest_57 : decode cX3_weakest 57 = .ok (.ireturn, 1) := by decide +kernel
theorem dX3_weakest_58 : decode cX3_weakest 58 = .ok (.iinc 3 1, 3) := by decide +kernel
theorem dX3_weakest_61 : decode cX3_weakest 61 = .ok (.goto (-35), 3) := by decide +kernel
theorem dX3_weakest_64 : decode cX3_weakest 64 = .ok (.iconst (-1), 1) := by decide +kernel
theorem dX3_weakest_65 : decode cX3_weakest 65 = .ok (.ireturn, 1) := by decide +kernel
set_option maxRecDepth 20000 in
theorem ggX3_borne_X0_messageRead : GoodIn wsX3_borne wsX0_messageRead := goodIn_r _ [9, 10, 11, 12, 13, 14, 15, 16, 17, 18, 19, 20, 21, 22, 23, 24, 25, 26, 27, 8, 28, 29, 30, 31, 32, 33, 34, 35, 36, 37, 38, 39, 40, 41, 42, 43, 44, 45, 46, 47, 48, 49, 50, 51, 52, 53, 54, 55, 56, 57, 58, 59, 60, 61, 62, 63, 64, 65, 66, 67, 68, 69, 70, 71, 72, 73, 74, 75, 76, 77, 78, 79, 80, 81, 82, 83, 84, 85, 86, 87, 88, 89, 90, 91, 92, 93, 94, 95, 96, 97, 98, 99, 100, 101, 102, 103, 104, 105, 106, 116, 117, 118, 119, 120, 121, 122, 123, 124, 125, 126, 127, 128, 129, 130, 131] (by decide +kernel) (by decide +kernel)
set_option maxRecDepth 20000 in
theorem gX3_borne_X0_messageRead : GoodIn wsX3_borne (wsV RX3 231 RX0 yX0_messageRead wsX0_messageRead) := goodIn_app (goodIn_of _ (by decide +kernel)) ggX3_borne_X0_messageRead
theorem dX3_borne_0 : decode cX3_borne 0 = .ok (.aload_n 0, 1) := by decide +kernel
theorem dX3_borne_1 : decode cX3_borne 1 = .ok (.getfield 10, 3) := by decide +kernel
theorem dX3_borne_4 : decode cX3_borne 4 = .ok (.getfield 94, 3) := by decide +kernel
theorem dX3_borne_7 : decode cX3_borne 7 = .ok (.iconst 1, 1) := by decide +kernel
theorem dX3_borne_8 : decode cX3_borne 8 = .ok (.iaload, 1) := by decide +kernel
theorem dX3_borne_9 : decode cX3_borne 9 = .ok (.istore_n 1, 1) := by decide +kernel
theorem dX3_borne_10 : decode cX3_borne 10 = .ok (.aload_n 0, 1) := by decide +kernel
theorem dX3_borne_11 : decode cX3_borne 11 = .ok (.getfield 38, 3) := by decide +kernel
theorem dX3_borne_14 : decode cX3_borne 14 = .ok (.aload_n 0, 1) := by decide +kernel
theorem dX3_borne_15 : decode cX3_borne 15 = .ok (.getfield 10, 3) := by decide +kernel
theorem dX3_borne_18 : decode cX3_borne 18 = .ok (.iconst 0, 1) := by decide +kernel
theorem dX3_borne_19 : decode cX3_borne 19 = .ok (.iload_n 1, 1) := by decide +kernel
theorem dX3_borne_20 : decode cX3_borne 20 = .ok (.invokevirtual 231, 3) := by decide +kernel
theorem dX3_borne_23 : decode cX3_borne 23 = .ok (.istore_n 2, 1) := by decide +kernel
theorem dX3_borne_24 : decode cX3_borne 24 = .ok (.iconst 0, 1) := by decide +kernel
theorem dX3_borne_25 : decode cX3_borne 25 = .ok (.istore_n 3, 1) := by decide +kernel
theorem dX3_borne_26 : decode cX3_borne 26 = .ok (.iconst 0, 1) := by decide +kernel
theorem dX3_borne_27 : decode cX3_borne 27 = .ok (.istore 4, 2) := by decide +kernel
theorem dX3_borne_29 : decode cX3_borne 29 = .ok (.iload 4, 2) := by decide +kernel
theorem dX3_borne_31 : decode cX3_borne 31 = .ok (.aload_n 0, 1) := by decide +kernel
theorem dX3_borne_32 : decode cX3_borne 32 = .ok (.getfield 10, 3) := by decide +kernel
theorem dX3_borne_35 : decode cX3_borne 35 = .ok (.getfield 51, 3) := by decide +kernel
theorem dX3_borne_38 : decode cX3_borne 38 = .ok (.if_icmp .ge 36, 3) := by decide +kernel
theorem dX3_borne_41 : decode cX3_borne 41 = .ok (.iload_n 3, 1) := by decide +kernel
theorem dX3_borne_42 : decode cX3_borne 42 = .ok (.iconst 1, 1) := by decide +kernel
theorem dX3_borne_43 : decode cX3_borne 43 = .ok (.iload 4, 2) := by decide +kernel
theorem dX3_borne_45 : decode cX3_borne 45 = .ok (.ishl, 1) := by decide +kernel
theorem dX3_borne_46 : decode cX3_borne 46 = .ok (.ior, 1) := by decide +kernel
theorem dX3_borne_47 : decode cX3_borne 47 = .ok (.istore_n 3, 1) := by decide +kernel
theorem dX3_borne_48 : decode cX3_borne 48 = .ok (.aload_n 0, 1) := by decide +kernel
theorem dX3_borne_49 : decode cX3_borne 49 = .ok (.getfield 38, 3) := by decide +kernel
theorem dX3_borne_52 : decode cX3_borne 52 = .ok (.aload_n 0, 1) := by decide +kernel
theorem dX3_borne_53 : decode cX3_borne 53 = .ok (.getfield 10, 3) := by decide +kernel
theorem dX3_borne_56 : decode cX3_borne 56 = .ok (.iload_n 3, 1) := by decide +kernel
theorem dX3_borne_57 : decode cX3_borne 57 = .ok (.iload_n 1, 1) := by decide +kernel
theorem dX3_borne_58 : decode cX3_borne 58 = .ok (.invokevirtual 231, 3) := by decide +kernel
theorem dX3_borne_61 : decode cX3_borne 61 = .ok (.iload_n 2, 1) := by decide +kernel
theorem dX3_borne_62 : decode cX3_borne 62 = .ok (.if_icmp .eq 6, 3) := by decide +kernel
theorem dX3_borne_65 : decode cX3_borne 65 = .ok (.iload 4, 2) := by decide +kernel
theorem dX3_borne_67 : decode cX3_borne 67 = .ok (.ireturn, 1) := by decide +kernel
theorem dX3_borne_68 : decode cX3_borne 68 = .ok (.iinc 4 1, 3) := by decide +kernel
theorem dX3_borne_71 : decode cX3_borne 71 = .ok (.goto (-42), 3) := by decide +kernel
theorem dX3_borne_74 : decode cX3_borne 74 = .ok (.aload_n 0, 1) := by decide +kernel
theorem dX3_borne_75 : decode cX3_borne 75 = .ok (.getfield 10, 3) := by decide +kernel
theorem dX3_borne_78 : decode cX3_borne 78 = .ok (.getfield 51, 3) := by decide +kernel
theorem dX3_borne_81 : decode cX3_borne 81 = .ok (.ireturn, 1) := by decide +kernel
set_option maxRecDepth 20000 in
theorem ggX3_unsureShare_X2_openPlaces : GoodIn wsX3_unsureShare wsX2_openPlaces := goodIn_r _ [8, 9, 10, 11, 12, 13, 14, 15, 16, 39, 40, 41, 42] (by decide +kernel) (by decide +kernel)
set_option maxRecDepth 20000 in
theorem gX3_unsureShare_X2_openPlaces : GoodIn wsX3_unsureShare (wsV RX3 211 RX2 yX2_openPlaces wsX2_openPlaces) := goodIn_app (goodIn_of _ (by decide +kernel)) ggX3_unsureShare_X2_openPlaces
set_option maxRecDepth 20000 in
theorem ggX3_unsureShare_X2_isOpen : GoodIn wsX3_unsureShare wsX2_isOpen := goodIn_r _ [20, 9, 39, 40, 41, 42] (by decide +kernel) (by decide +kernel)
set_option maxRecDepth 20000 in
theorem gX3_unsureShare_X2_isOpen : GoodIn wsX3_unsureShare (wsV RX3 81 RX2 yX2_isOpen wsX2_isOpen) := goodIn_app (goodIn_of _ (by decide +kernel)) ggX3_unsureShare_X2_isOpen
set_option maxRecDepth 20000 in
theorem ggX3_unsureShare_X2_unsureness : GoodIn wsX3_unsureShare wsX2_unsureness := goodIn_r _ [24, 25, 26, 27, 28, 29, 39, 40, 41, 42] (by decide +kernel) (by decide +kernel)
set_option maxRecDepth 20000 in
theorem gX3_unsureShare_X2_unsureness : GoodIn wsX3_unsureShare (wsV RX3 160 RX2 yX2_unsureness wsX2_unsureness) := goodIn_app (goodIn_of _ (by decide +kernel)) ggX3_unsureShare_X2_unsureness
theorem dX3_unsureShare_0 : decode cX3_unsureShare 0 = .ok (.aload_n 0, 1) := by decide +kernel
theorem dX3_unsureShare_1 : decode cX3_unsureShare 1 = .ok (.getfield 10, 3) := by decide +kernel
theorem dX3_unsureShare_4 : decode cX3_unsureShare 4 = .ok (.invokevirtual 211, 3) := by decide +kernel
theorem dX3_unsureShare_7 : decode cX3_unsureShare 7 = .ok (.istore_n 1, 1) := by decide +kernel
theorem dX3_unsureShare_8 : decode cX3_unsureShare 8 = .ok (.iload_n 1, 1) := by decide +kernel
theorem dX3_unsureShare_9 : decode cX3_unsureShare 9 = .ok (.ifCond .gt 5, 3) := by decide +kernel
theorem dX3_unsureShare_12 : decode cX3_unsureShare 12 = .ok (.dconst 0, 1) := by decide +kernel
theorem dX3_unsureShare_13 : decode cX3_unsureShare 13 = .ok (.dreturn, 1) := by decide +kernel
theorem dX3_unsureShare_14 : decode cX3_unsureShare 14 = .ok (.lconst 0, 1) := by decide +kernel
theorem dX3_unsureShare_15 : decode cX3_unsureShare 15 = .ok (.lstore_n 2, 1) := by decide +kernel
theorem dX3_unsureShare_16 : decode cX3_unsureShare 16 = .ok (.iconst 0, 1) := by decide +kernel
theorem dX3_unsureShare_17 : decode cX3_unsureShare 17 = .ok (.istore 4, 2) := by decide +kernel
theorem dX3_unsureShare_19 : decode cX3_unsureShare 19 = .ok (.iload 4, 2) := by decide +kernel
theorem dX3_unsureShare_21 : decode cX3_unsureShare 21 = .ok (.aload_n 0, 1) := by decide +kernel
theorem dX3_unsureShare_22 : decode cX3_unsureShare 22 = .ok (.getfield 10, 3) := by decide +kernel
theorem dX3_unsureShare_25 : decode cX3_unsureShare 25 = .ok (.getfield 51, 3) := by decide +kernel
theorem dX3_unsureShare_28 : decode cX3_unsureShare 28 = .ok (.if_icmp .ge 34, 3) := by decide +kernel
theorem dX3_unsureShare_31 : decode cX3_unsureShare 31 = .ok (.aload_n 0, 1) := by decide +kernel
theorem dX3_unsureShare_32 : decode cX3_unsureShare 32 = .ok (.getfield 10, 3) := by decide +kernel
theorem dX3_unsureShare_35 : decode cX3_unsureShare 35 = .ok (.iload 4, 2) := by decide +kernel
theorem dX3_unsureShare_37 : decode cX3_unsureShare 37 = .ok (.invokevirtual 81, 3) := by decide +kernel
theorem dX3_unsureShare_40 : decode cX3_unsureShare 40 = .ok (.ifCond .eq 16, 3) := by decide +kernel
theorem dX3_unsureShare_43 : decode cX3_unsureShare 43 = .ok (.lload_n 2, 1) := by decide +kernel
theorem dX3_unsureShare_44 : decode cX3_unsureShare 44 = .ok (.aload_n 0, 1) := by decide +kernel
theorem dX3_unsureShare_45 : decode cX3_unsureShare 45 = .ok (.getfield 10, 3) := by decide +kernel
theorem dX3_unsureShare_48 : decode cX3_unsureShare 48 = .ok (.iload 4, 2) := by decide +kernel
theorem dX3_unsureShare_50 : decode cX3_unsureShare 50 = .ok (.invokevirtual 160, 3) := by decide +kernel
theorem dX3_unsureShare_53 : decode cX3_unsureShare 53 = .ok (.i2l, 1) := by decide +kernel
theorem dX3_unsureShare_54 : decode cX3_unsureShare 54 = .ok (.ladd, 1) := by decide +kernel
theorem dX3_unsureShare_55 : decode cX3_unsureShare 55 = .ok (.lstore_n 2, 1) := by decide +kernel
theorem dX3_unsureShare_56 : decode cX3_unsureShare 56 = .ok (.iinc 4 1, 3) := by decide +kernel
theorem dX3_unsureShare_59 : decode cX3_unsureShare 59 = .ok (.goto (-40), 3) := by decide +kernel
theorem dX3_unsureShare_62 : decode cX3_unsureShare 62 = .ok (.lload_n 2, 1) := by decide +kernel
theorem dX3_unsureShare_63 : decode cX3_unsureShare 63 = .ok (.l2d, 1) := by decide +kernel
theorem dX3_unsureShare_64 : decode cX3_unsureShare 64 = .ok (.ldc2_w 237, 3) := by decide +kernel
theorem dX3_unsureShare_67 : decode cX3_unsureShare 67 = .ok (.iload_n 1, 1) := by decide +kernel
theorem dX3_unsureShare_68 : decode cX3_unsureShare 68 = .ok (.i2d, 1) := by decide +kernel
theorem dX3_unsureShare_69 : decode cX3_unsureShare 69 = .ok (.dmul, 1) := by decide +kernel
theorem dX3_unsureShare_70 : decode cX3_unsureShare 70 = .ok (.ddiv, 1) := by decide +kernel
theorem dX3_unsureShare_71 : decode cX3_unsureShare 71 = .ok (.dreturn, 1) := by decide +kernel
set_option maxRecDepth 20000 in
theorem ggX3_digest_X3_count : GoodIn wsX3_digest wsX3_count := goodIn_ca (goodIn_r _ [13, 14, 15, 3, 4, 16, 17, 18, 19, 20, 21, 22, 23, 24, 25, 26, 27, 28, 29, 30, 31, 32, 33, 34, 35, 36, 37, 38, 39, 40, 41, 42, 43, 44, 45, 46, 47, 48, 49, 50, 51, 52, 53, 54, 55, 56, 57, 58, 59, 60, 61, 12, 62, 63, 64, 65, 66, 67, 68, 69, 70, 71, 72, 73, 74, 75, 76, 77, 78, 79, 80, 81, 82, 83, 84, 85, 86, 87, 88, 89, 90, 91, 92, 93, 94, 95, 96, 97, 98, 99, 100, 101, 102, 103, 104, 105, 106, 107, 108, 109, 110, 111, 112, 113, 114, 115, 116, 117, 118, 119, 120, 121, 122, 123, 124, 125, 126, 127, 128, 129, 130, 131, 132, 133, 134, 135, 136, 137, 138, 139, 140, 141, 142, 143, 144, 261, 262, 263, 264, 265, 266, 267, 268, 269, 270, 271, 272, 273, 280, 281, 282, 283, 284, 285, 286, 287, 288, 289, 290, 291] (by decide +kernel) (by decide +kernel)) (goodIn_sub (fun _ h => List.mem_cons_of_mem _ (List.mem_append_left _ (List.mem_append_right _ h))) (by decide +kernel))
set_option maxRecDepth 20000 in
theorem gX3_digest_X3_count : GoodIn wsX3_digest (wsV RX3 243 RX3 yX3_count wsX3_count) := goodIn_app (goodIn_of _ (by decide +kernel)) ggX3_digest_X3_count
set_option maxRecDepth 20000 in
theorem ggX3_digest_X3_setting : GoodIn wsX3_digest wsX3_setting := goodIn_ca (goodIn_r _ [148, 149, 150, 3, 65, 261, 262, 263, 264, 265, 266, 267, 268, 269, 270, 271, 272, 273] (by decide +kernel) (by decide +kernel)) (goodIn_sub (fun _ h => List.mem_cons_of_mem _ (List.mem_append_right _ h)) (by decide +kernel))
set_option maxRecDepth 20000 in
theorem gX3_digest_X3_setting : GoodIn wsX3_digest (wsV RX3 246 RX3 yX3_setting wsX3_setting) := goodIn_app (goodIn_of _ (by decide +kernel)) ggX3_digest_X3_setting
set_option maxRecDepth 20000 in
theorem ggX3_digest_X3_place : GoodIn wsX3_digest wsX3_place := goodIn_ca (goodIn_ca (goodIn_r _ [154, 149, 150, 14, 15, 3, 155, 156, 157, 158, 21, 159, 50, 160, 81, 82, 83, 23, 161, 162, 163, 164, 40, 165, 166, 167, 168, 169, 170, 171, 172, 173, 174, 175, 176, 24, 25, 26, 27, 28, 29, 30, 177, 178, 179, 180, 138, 181, 182, 32, 33, 34, 35, 19, 20, 22, 36, 37, 38, 39, 41, 42, 43, 44, 261, 262, 263, 264, 265, 266, 267, 268, 269, 270, 271, 272, 273] (by decide +kernel) (by decide +kernel)) (goodIn_sub (fun _ h => List.mem_cons_of_mem _ (List.mem_append_right _ h)) (by decide +kernel))) (goodIn_sub (fun _ h => List.mem_cons_of_mem _ (List.mem_append_left _ (List.mem_append_right _ h))) (by decide +kernel))
set_option maxRecDepth 20000 in
theorem gX3_digest_X3_place : GoodIn wsX3_digest (wsV RX3 249 RX3 yX3_place wsX3_place) := goodIn_app (goodIn_of _ (by decide +kernel)) ggX3_digest_X3_place
set_option maxRecDepth 20000 in
theorem ggX3_digest_X3_heard : GoodIn wsX3_digest wsX3_heard := goodIn_ca (goodIn_r _ [186, 149, 150, 3, 156, 157, 158, 21, 159, 50, 59, 60, 61, 12, 62, 63, 64, 65, 66, 67, 68, 69, 70, 71, 72, 73, 74, 75, 76, 77, 78, 79, 80, 81, 82, 83, 23, 84, 85, 86, 87, 88, 89, 90, 91, 92, 93, 94, 95, 96, 97, 98, 99, 100, 101, 102, 103, 104, 105, 106, 107, 108, 109, 110, 111, 112, 113, 114, 115, 116, 117, 118, 119, 120, 121, 122, 123, 124, 125, 126, 127, 128, 129, 130, 131, 132, 32, 33, 34, 35, 19, 20, 22, 24, 25, 26, 27, 28, 29, 30, 36, 37, 38, 39, 40, 41, 42, 43, 44, 133, 134, 135, 136, 137, 138, 139, 140, 187, 188, 189, 190, 261, 262, 263, 264, 265, 266, 267, 268, 269, 270, 271, 272, 273, 280, 281, 282, 283, 284, 285, 286, 287, 288, 289, 290, 291] (by decide +kernel) (by decide +kernel)) (goodIn_sub (fun _ h => List.mem_cons_of_mem _ (List.mem_append_right _ h)) (by decide +kernel))
set_option maxRecDepth 20000 in
theorem gX3_digest_X3_heard : GoodIn wsX3_digest (wsV RX3 252 RX3 yX3_heard wsX3_heard) := goodIn_app (goodIn_of _ (by decide +kernel)) ggX3_digest_X3_heard
set_option maxRecDepth 20000 in
theorem ggX3_digest_X3_ifFlipped : GoodIn wsX3_digest wsX3_ifFlipped := goodIn_ca (goodIn_r _ [194, 149, 150, 3, 195, 65, 156, 157, 158, 21, 159, 50, 66, 67, 68, 69, 70, 71, 72, 73, 74, 75, 76, 77, 78, 79, 80, 81, 82, 83, 23, 84, 85, 86, 87, 88, 89, 90, 91, 92, 93, 94, 95, 96, 97, 98, 99, 100, 101, 102, 12, 103, 104, 105, 106, 107, 108, 109, 110, 111, 112, 113, 114, 115, 116, 117, 118, 119, 120, 121, 122, 123, 124, 125, 126, 127, 128, 129, 130, 131, 132, 32, 33, 34, 35, 19, 20, 22, 24, 25, 26, 27, 28, 29, 30, 36, 37, 38, 39, 40, 41, 42, 43, 44, 133, 134, 135, 136, 137, 138, 139, 140, 261, 262, 263, 264, 265, 266, 267, 268, 269, 270, 271, 272, 273, 280, 281, 282, 283, 284, 285, 286, 287, 288, 289, 290, 291] (by decide +kernel) (by decide +kernel)) (goodIn_sub (fun _ h => List.mem_cons_of_mem _ (List.mem_append_right _ h)) (by decide +kernel))
set_option maxRecDepth 20000 in
theorem gX3_digest_X3_ifFlipped : GoodIn wsX3_digest (wsV RX3 255 RX3 yX3_ifFlipped wsX3_ifFlipped) := goodIn_app (goodIn_of _ (by decide +kernel)) ggX3_digest_X3_ifFlipped
set_option maxRecDepth 20000 in
theorem ggX3_digest_X3_read : GoodIn wsX3_digest wsX3_read := goodIn_ca (goodIn_r _ [199, 14, 15, 200, 201, 3, 202, 59, 60, 61, 12, 62, 63, 64, 65, 66, 67, 68, 69, 70, 71, 72, 73, 74, 75, 76, 77, 78, 79, 80, 81, 82, 21, 83, 23, 84, 85, 86, 87, 88, 89, 90, 91, 92, 93, 94, 95, 96, 97, 98, 99, 100, 101, 102, 103, 104, 105, 106, 107, 108, 109, 110, 111, 112, 113, 114, 115, 116, 117, 118, 119, 120, 121, 122, 123, 124, 125, 126, 127, 128, 129, 130, 131, 132, 32, 33, 34, 35, 19, 20, 22, 24, 25, 26, 27, 28, 29, 30, 36, 37, 38, 39, 40, 41, 42, 43, 44, 133, 134, 135, 136, 137, 50, 138, 139, 140, 203, 204, 205, 206, 182, 207, 208, 209, 210, 211, 212, 213, 214, 51, 280, 281, 282, 283, 284, 285, 286, 287, 288, 289, 290, 291, 261, 262, 263, 264, 265, 266, 267, 268, 269, 270, 271, 272, 273] (by decide +kernel) (by decide +kernel)) (goodIn_sub (fun _ h => List.mem_cons_of_mem _ (List.mem_append_left _ (List.mem_append_right _ h))) (by decide +kernel))
set_option maxRecDepth 20000 in
theorem gX3_digest_X3_read : GoodIn wsX3_digest (wsV RX3 258 RX3 yX3_read wsX3_read) := goodIn_app (goodIn_of _ (by decide +kernel)) ggX3_digest_X3_read
set_option maxRecDepth 20000 in
theorem ggX3_digest_X3_path : GoodIn wsX3_digest wsX3_path := goodIn_ca (goodIn_r _ [218, 14, 15, 16, 201, 202, 219, 59, 60, 61, 12, 62, 63, 64, 3, 65, 66, 67, 68, 69, 70, 71, 72, 73, 74, 75, 76, 77, 78, 79, 80, 81, 82, 21, 83, 23, 84, 85, 86, 87, 88, 89, 90, 91, 92, 93, 94, 95, 96, 97, 98, 99, 100, 101, 102, 103, 104, 105, 106, 107, 108, 109, 110, 111, 112, 113, 114, 115, 116, 117, 118, 119, 120, 121, 122, 123, 124, 125, 126, 127, 128, 129, 130, 131, 132, 32, 33, 34, 35, 19, 20, 22, 24, 25, 26, 27, 28, 29, 30, 36, 37, 38, 39, 40, 41, 42, 43, 44, 133, 134, 135, 136, 137, 50, 138, 139, 140, 280, 281, 282, 283, 284, 285, 286, 287, 288, 289, 290, 291, 261, 262, 263, 264, 265, 266, 267, 268, 269, 270, 271, 272, 273] (by decide +kernel) (by decide +kernel)) (goodIn_sub (fun _ h => List.mem_cons_of_mem _ (List.mem_append_left _ (List.mem_append_right _ h))) (by decide +kernel))
set_option maxRecDepth 20000 in
theorem gX3_digest_X3_path : GoodIn wsX3_digest (wsV RX3 261 RX3 yX3_path wsX3_path) := goodIn_app (goodIn_of _ (by decide +kernel)) ggX3_digest_X3_path
set_option maxRecDepth 20000 in
theorem ggX3_digest_X3_code : GoodIn wsX3_digest wsX3_code := goodIn_ca (goodIn_r _ [223, 14, 15, 224, 3, 4, 225, 102, 12, 103, 104, 261, 262, 263, 264, 265, 266, 267, 268, 269, 270, 271, 272, 273] (by decide +kernel) (by decide +kernel)) (goodIn_sub (fun _ h => List.mem_cons_of_mem _ (List.mem_append_left _ (List.mem_append_right _ h))) (by decide +kernel))
set_option maxRecDepth 20000 in
theorem gX3_digest_X3_code : GoodIn wsX3_digest (wsV RX3 264 RX3 yX3_code wsX3_code) := goodIn_app (goodIn_of _ (by decide +kernel)) ggX3_digest_X3_code
set_option maxRecDepth 20000 in
theorem ggX3_digest_X3_word : GoodIn wsX3_digest wsX3_word := goodIn_ca (goodIn_r _ [229, 14, 15, 3, 230, 231, 232, 21, 233, 182, 32, 33, 34, 35, 19, 20, 22, 23, 24, 25, 26, 27, 28, 29, 30, 36, 37, 38, 39, 40, 41, 42, 43, 44, 234, 235, 236, 237, 139, 12, 140, 207, 208, 209, 210, 50, 138, 81, 82, 83, 102, 103, 104, 261, 262, 263, 264, 265, 266, 267, 268, 269, 270, 271, 272, 273] (by decide +kernel) (by decide +kernel)) (goodIn_sub (fun _ h => List.mem_cons_of_mem _ (List.mem_append_left _ (List.mem_append_right _ h))) (by decide +kernel))
set_option maxRecDepth 20000 in
theorem gX3_digest_X3_word : GoodIn wsX3_digest (wsV RX3 268 RX3 yX3_word wsX3_word) := goodIn_app (goodIn_of _ (by decide +kernel)) ggX3_digest_X3_word
set_option maxRecDepth 20000 in
theorem ggX3_digest_X3_ifPaths : GoodIn wsX3_digest wsX3_ifPaths := goodIn_ca (goodIn_r _ [241, 14, 15, 195, 3, 66, 67, 68, 69, 70, 71, 72, 73, 74, 75, 76, 77, 78, 79, 80, 81, 82, 21, 83, 23, 84, 85, 86, 87, 88, 89, 90, 91, 92, 93, 94, 95, 96, 97, 98, 99, 100, 101, 102, 12, 103, 104, 105, 106, 107, 108, 109, 110, 111, 112, 113, 114, 115, 116, 117, 118, 119, 120, 121, 122, 123, 124, 125, 126, 127, 128, 129, 130, 131, 132, 32, 33, 34, 35, 19, 20, 22, 24, 25, 26, 27, 28, 29, 30, 36, 37, 38, 39, 40, 41, 42, 43, 44, 133, 134, 135, 136, 137, 50, 138, 139, 140, 261, 262, 263, 264, 265, 266, 267, 268, 269, 270, 271, 272, 273, 280, 281, 282, 283, 284, 285, 286, 287, 288, 289, 290, 291] (by decide +kernel) (by decide +kernel)) (goodIn_sub (fun _ h => List.mem_cons_of_mem _ (List.mem_append_left _ (List.mem_append_right _ h))) (by decide +kernel))
set_option maxRecDepth 20000 in
theorem gX3_digest_X3_ifPaths : GoodIn wsX3_digest (wsV RX3 271 RX3 yX3_ifPaths wsX3_ifPaths) := goodIn_app (goodIn_of _ (by decide +kernel)) ggX3_digest_X3_ifPaths
set_option maxRecDepth 20000 in
theorem ggX3_digest_X3_weakest : GoodIn wsX3_digest wsX3_weakest := goodIn_r _ [245, 3, 65, 195, 4, 66, 67, 68, 69, 70, 71, 72, 73, 74, 75, 76, 77, 78, 79, 80, 81, 82, 21, 83, 23, 84, 85, 86, 87, 88, 89, 90, 91, 92, 93, 94, 95, 96, 97, 98, 99, 100, 101, 102, 12, 103, 104, 105, 106, 107, 108, 109, 110, 111, 112, 113, 114, 115, 116, 117, 118, 119, 120, 121, 122, 123, 124, 125, 126, 127, 128, 129, 130, 131, 132, 32, 33, 34, 35, 19, 20, 22, 24, 25, 26, 27, 28, 29, 30, 36, 37, 38, 39, 40, 41, 42, 43, 44, 133, 134, 135, 136, 137, 50, 138, 139, 140, 261, 262, 263, 264, 265, 266, 267, 268, 269, 270, 271, 272, 273, 280, 281, 282, 283, 284, 285, 286, 287, 288, 289, 290, 291] (by decide +kernel) (by decide +kernel)
set_option maxRecDepth 20000 in
theorem gX3_digest_X3_weakest : GoodIn wsX3_digest (wsV RX3 274 RX3 yX3_weakest wsX3_weakest) := goodIn_app (goodIn_of _ (by decide +kernel)) ggX3_digest_X3_weakest
set_option maxRecDepth 20000 in
theorem ggX3_digest_X3_borne : GoodIn wsX3_digest wsX3_borne := goodIn_r _ [249, 3, 65, 195, 4, 66, 67, 68, 69, 70, 71, 72, 73, 74, 75, 76, 77, 78, 79, 80, 81, 82, 21, 83, 23, 84, 85, 86, 87, 88, 89, 90, 91, 92, 93, 94, 95, 96, 97, 98, 99, 100, 101, 102, 12, 103, 104, 105, 106, 107, 108, 109, 110, 111, 112, 113, 114, 115, 116, 117, 118, 119, 120, 121, 122, 123, 124, 125, 126, 127, 128, 129, 130, 131, 132, 32, 33, 34, 35, 19, 20, 22, 24, 25, 26, 27, 28, 29, 30, 36, 37, 38, 39, 40, 41, 42, 43, 44, 133, 134, 135, 136, 137, 50, 138, 139, 140, 261, 262, 263, 264, 265, 266, 267, 268, 269, 270, 271, 272, 273, 280, 281, 282, 283, 284, 285, 286, 287, 288, 289, 290, 291] (by decide +kernel) (by decide +kernel)
set_option maxRecDepth 20000 in
theorem gX3_digest_X3_borne : GoodIn wsX3_digest (wsV RX3 277 RX3 yX3_borne wsX3_borne) := goodIn_app (goodIn_of _ (by decide +kernel)) ggX3_digest_X3_borne
set_option maxRecDepth 20000 in
theorem ggX3_digest_X3_unsureShare : GoodIn wsX3_digest wsX3_unsureShare := goodIn_r _ [253, 3, 4, 254, 18, 19, 20, 21, 22, 23, 24, 25, 26, 27, 28, 29, 30, 160, 81, 82, 83, 161, 162, 163, 164, 40, 165, 50, 166, 167, 261, 262, 263, 264, 265, 266, 267, 268, 269, 270, 271, 272, 273] (by decide +kernel) (by decide +kernel)
set_option maxRecDepth 20000 in
theorem gX3_digest_X3_unsureShare : GoodIn wsX3_digest (wsV RX3 280 RX3 yX3_unsureShare wsX3_unsureShare) := goodIn_app (goodIn_of _ (by decide +kernel)) ggX3_digest_X3_unsureShare
set_option maxRecDepth 20000 in
theorem ggX3_digest_X3_bitsOfShare : GoodIn wsX3_digest wsX3_bitsOfShare := goodIn_r _ [257, 258, 259, 260] (by decide +kernel) (by decide +kernel)
set_option maxRecDepth 20000 in
theorem gX3_digest_X3_bitsOfShare : GoodIn wsX3_digest (va_wsS RX3 284 yX3_bitsOfShare wsX3_bitsOfShare) := goodIn_app (goodIn_of _ (by decide +kernel)) ggX3_digest_X3_bitsOfShare
theorem dX3_digest_0 : decode cX3_digest 0 = .ok (.ldc2_w 239, 3) := by decide +kernel
theorem dX3_digest_3 : decode cX3_digest 3 = .ok (.lstore_n 1, 1) := by decide +kernel
theorem dX3_digest_4 : decode cX3_digest 4 = .ok (.iconst 0, 1) := by decide +kernel
theorem dX3_digest_5 : decode cX3_digest 5 = .ok (.istore_n 3, 1) := by decide +kernel
theorem dX3_digest_6 : decode cX3_digest 6 = .ok (.iload_n 3, 1) := by decide +kernel
theorem dX3_digest_7 : decode cX3_digest 7 = .ok (.bipush 8, 2) := by decide +kernel
theorem dX3_digest_9 : decode cX3_digest 9 = .ok (.if_icmp .gt 22, 3) := by decide +kernel
theorem dX3_digest_12 : decode cX3_digest 12 = .ok (.ldc2_w 241, 3) := by decide +kernel
theorem dX3_digest_15 : decode cX3_digest 15 = .ok (.lload_n 1, 1) := by decide +kernel
theorem dX3_digest_16 : decode cX3_digest 16 = .ok (.lmul, 1) := by decide +kernel
theorem dX3_digest_17 : decode cX3_digest 17 = .ok (.aload_n 0, 1) := by decide +kernel
theorem dX3_digest_18 : decode cX3_digest 18 = .ok (.iload_n 3, 1) := by decide +kernel
theorem dX3_digest_19 : decode cX3_digest 19 = .ok (.invokevirtual 243, 3) := by decide +kernel
theorem dX3_digest_22 : decode cX3_digest 22 = .ok (.i2l, 1) := by decide +kernel
theorem dX3_digest_23 : decode cX3_digest 23 = .ok (.ladd, 1) := by decide +kernel
theorem dX3_digest_24 : decode cX3_digest 24 = .ok (.lstore_n 1, 1) := by decide +kernel
theorem dX3_digest_25 : decode cX3_digest 25 = .ok (.iinc 3 1, 3) := by decide +kernel
theorem dX3_digest_28 : decode cX3_digest 28 = .ok (.goto (-22), 3) := by decide +kernel
theorem dX3_digest_31 : decode cX3_digest 31 = .ok (.iconst 0, 1) := by decide +kernel
theorem dX3_digest_32 : decode cX3_digest 32 = .ok (.istore_n 3, 1) := by decide +kernel
theorem dX3_digest_33 : decode cX3_digest 33 = .ok (.iload_n 3, 1) := by decide +kernel
theorem dX3_digest_34 : decode cX3_digest 34 = .ok (.iconst 4, 1) := by decide +kernel
theorem dX3_digest_35 : decode cX3_digest 35 = .ok (.if_icmp .ge 22, 3) := by decide +kernel
theorem dX3_digest_38 : decode cX3_digest 38 = .ok (.ldc2_w 241, 3) := by decide +kernel
theorem dX3_digest_41 : decode cX3_digest 41 = .ok (.lload_n 1, 1) := by decide +kernel
theorem dX3_digest_42 : decode cX3_digest 42 = .ok (.lmul, 1) := by decide +kernel
theorem dX3_digest_43 : decode cX3_digest 43 = .ok (.aload_n 0, 1) := by decide +kernel
theorem dX3_digest_44 : decode cX3_digest 44 = .ok (.iload_n 3, 1) := by decide +kernel
theorem dX3_digest_45 : decode cX3_digest 45 = .ok (.invokevirtual 246, 3) := by decide +kernel
theorem dX3_digest_48 : decode cX3_digest 48 = .ok (.i2l, 1) := by decide +kernel
theorem dX3_digest_49 : decode cX3_digest 49 = .ok (.ladd, 1) := by decide +kernel
theorem dX3_digest_50 : decode cX3_digest 50 = .ok (.lstore_n 1, 1) := by decide +kernel
theorem dX3_digest_51 : decode cX3_digest 51 = .ok (.iinc 3 1, 3) := by decide +kernel
theorem dX3_digest_54 : decode cX3_digest 54 = .ok (.goto (-21), 3) := by decide +kernel
theorem dX3_digest_57 : decode cX3_digest 57 = .ok (.iconst 0, 1) := by decide +kernel
theorem dX3_digest_58 : decode cX3_digest 58 = .ok (.istore_n 3, 1) := by decide +kernel
theorem dX3_digest_59 : decode cX3_digest 59 = .ok (.iload_n 3, 1) := by decide +kernel
theorem dX3_digest_60 : decode cX3_digest 60 = .ok (.aload_n 0, 1) := by decide +kernel
theorem dX3_digest_61 : decode cX3_digest 61 = .ok (.getfield 10, 3) := by decide +kernel
theorem dX3_digest_64 : decode cX3_digest 64 = .ok (.getfield 51, 3) := by decide +kernel
theorem dX3_digest_67 : decode cX3_digest 67 = .ok (.if_icmp .ge 65, 3) := by decide +kernel
theorem dX3_digest_70 : decode cX3_digest 70 = .ok (.iconst 0, 1) := by decide +kernel
theorem dX3_digest_71 : decode cX3_digest 71 = .ok (.istore 4, 2) := by decide +kernel
theorem dX3_digest_73 : decode cX3_digest 73 = .ok (.iload 4, 2) := by decide +kernel
theorem dX3_digest_75 : decode cX3_digest 75 = .ok (.iconst 5, 1) := by decide +kernel
theorem dX3_digest_76 : decode cX3_digest 76 = .ok (.if_icmp .gt 24, 3) := by decide +kernel
theorem dX3_digest_79 : decode cX3_digest 79 = .ok (.ldc2_w 241, 3) := by decide +kernel
theorem dX3_digest_82 : decode cX3_digest 82 = .ok (.lload_n 1, 1) := by decide +kernel
theorem dX3_digest_83 : decode cX3_digest 83 = .ok (.lmul, 1) := by decide +kernel
theorem dX3_digest_84 : decode cX3_digest 84 = .ok (.aload_n 0, 1) := by decide +kernel
theorem dX3_digest_85 : decode cX3_digest 85 = .ok (.iload_n 3, 1) := by decide +kernel
theorem dX3_digest_86 : decode cX3_digest 86 = .ok (.iload 4, 2) := by decide +kernel
theorem dX3_digest_88 : decode cX3_digest 88 = .ok (.invokevirtual 249, 3) := by decide +kernel
theorem dX3_digest_91 : decode cX3_digest 91 = .ok (.i2l, 1) := by decide +kernel
theorem dX3_digest_92 : decode cX3_digest 92 = .ok (.ladd, 1) := by decide +kernel
theorem dX3_digest_93 : decode cX3_digest 93 = .ok (.lstore_n 1, 1) := by decide +kernel
theorem dX3_digest_94 : decode cX3_digest 94 = .ok (.iinc 4 1, 3) := by decide +kernel
theorem dX3_digest_97 : decode cX3_digest 97 = .ok (.goto (-24), 3) := by decide +kernel
theorem dX3_digest_100 : decode cX3_digest 100 = .ok (.ldc2_w 241, 3) := by decide +kernel
theorem dX3_digest_103 : decode cX3_digest 103 = .ok (.lload_n 1, 1) := by decide +kernel
theorem dX3_digest_104 : decode cX3_digest 104 = .ok (.lmul, 1) := by decide +kernel
theorem dX3_digest_105 : decode cX3_digest 105 = .ok (.aload_n 0, 1) := by decide +kernel
theorem dX3_digest_106 : decode cX3_digest 106 = .ok (.iload_n 3, 1) := by decide +kernel
theorem dX3_digest_107 : decode cX3_digest 107 = .ok (.invokevirtual 252, 3) := by decide +kernel
theorem dX3_digest_110 : decode cX3_digest 110 = .ok (.i2l, 1) := by decide +kernel
theorem dX3_digest_111 : decode cX3_digest 111 = .ok (.ladd, 1) := by decide +kernel
theorem dX3_digest_112 : decode cX3_digest 112 = .ok (.lstore_n 1, 1) := by decide +kernel
theorem dX3_digest_113 : decode cX3_digest 113 = .ok (.ldc2_w 241, 3) := by decide +kernel
theorem dX3_digest_116 : decode cX3_digest 116 = .ok (.lload_n 1, 1) := by decide +kernel
theorem dX3_digest_117 : decode cX3_digest 117 = .ok (.lmul, 1) := by decide +kernel
theorem dX3_digest_118 : decode cX3_digest 118 = .ok (.aload_n 0, 1) := by decide +kernel
theorem dX3_digest_119 : decode cX3_digest 119 = .ok (.iload_n 3, 1) := by decide +kernel
theorem dX3_digest_120 : decode cX3_digest 120 = .ok (.invokevirtual 255, 3) := by decide +kernel
theorem dX3_digest_123 : decode cX3_digest 123 = .ok (.i2l, 1) := by decide +kernel
theorem dX3_digest_124 : decode cX3_digest 124 = .ok (.ladd, 1) := by decide +kernel
theorem dX3_digest_125 : decode cX3_digest 125 = .ok (.lstore_n 1, 1) := by decide +kernel
theorem dX3_digest_126 : decode cX3_digest 126 = .ok (.iinc 3 1, 3) := by decide +kernel
theorem dX3_digest_129 : decode cX3_digest 129 = .ok (.goto (-70), 3) := by decide +kernel
theorem dX3_digest_132 : decode cX3_digest 132 = .ok (.iconst 0, 1) := by decide +kernel
theorem dX3_digest_133 : decode cX3_digest 133 = .ok (.istore_n 3, 1) := by decide +kernel
theorem dX3_digest_134 : decode cX3_digest 134 = .ok (.iload_n 3, 1) := by decide +kernel
theorem dX3_digest_135 : decode cX3_digest 135 = .ok (.iconst 4, 1) := by decide +kernel
theorem dX3_digest_136 : decode cX3_digest 136 = .ok (.if_icmp .gt 22, 3) := by decide +kernel
theorem dX3_digest_139 : decode cX3_digest 139 = .ok (.ldc2_w 241, 3) := by decide +kernel
theorem dX3_digest_142 : decode cX3_digest 142 = .ok (.lload_n 1, 1) := by decide +kernel
theorem dX3_digest_143 : decode cX3_digest 143 = .ok (.lmul, 1) := by decide +kernel
theorem dX3_digest_144 : decode cX3_digest 144 = .ok (.aload_n 0, 1) := by decide +kernel
theorem dX3_digest_145 : decode cX3_digest 145 = .ok (.iload_n 3, 1) := by decide +kernel
theorem dX3_digest_146 : decode cX3_digest 146 = .ok (.invokevirtual 258, 3) := by decide +kernel
theorem dX3_digest_149 : decode cX3_digest 149 = .ok (.i2l, 1) := by decide +kernel
theorem dX3_digest_150 : decode cX3_digest 150 = .ok (.ladd, 1) := by decide +kernel
theorem dX3_digest_151 : decode cX3_digest 151 = .ok (.lstore_n 1, 1) := by decide +kernel
theorem dX3_digest_152 : decode cX3_digest 152 = .ok (.iinc 3 1, 3) := by decide +kernel
theorem dX3_digest_155 : decode cX3_digest 155 = .ok (.goto (-21), 3) := by decide +kernel
theorem dX3_digest_158 : decode cX3_digest 158 = .ok (.iconst 0, 1) := by decide +kernel
theorem dX3_digest_159 : decode cX3_digest 159 = .ok (.istore_n 3, 1) := by decide +kernel
theorem dX3_digest_160 : decode cX3_digest 160 = .ok (.iload_n 3, 1) := by decide +kernel
theorem dX3_digest_161 : decode cX3_digest 161 = .ok (.iconst 3, 1) := by decide +kernel
theorem dX3_digest_162 : decode cX3_digest 162 = .ok (.if_icmp .gt 39, 3) := by decide +kernel
theorem dX3_digest_165 : decode cX3_digest 165 = .ok (.iconst 0, 1) := by decide +kernel
theorem dX3_digest_166 : decode cX3_digest 166 = .ok (.istore 4, 2) := by decide +kernel
theorem dX3_digest_168 : decode cX3_digest 168 = .ok (.iload 4, 2) := by decide +kernel
theorem dX3_digest_170 : decode cX3_digest 170 = .ok (.iconst 2, 1) := by decide +kernel
theorem dX3_digest_171 : decode cX3_digest 171 = .ok (.if_icmp .gt 24, 3) := by decide +kernel
theorem dX3_digest_174 : decode cX3_digest 174 = .ok (.ldc2_w 241, 3) := by decide +kernel
theorem dX3_digest_177 : decode cX3_digest 177 = .ok (.lload_n 1, 1) := by decide +kernel
theorem dX3_digest_178 : decode cX3_digest 178 = .ok (.lmul, 1) := by decide +kernel
theorem dX3_digest_179 : decode cX3_digest 179 = .ok (.aload_n 0, 1) := by decide +kernel
theorem dX3_digest_180 : decode cX3_digest 180 = .ok (.iload_n 3, 1) := by decide +kernel
theorem dX3_digest_181 : decode cX3_digest 181 = .ok (.iload 4, 2) := by decide +kernel
theorem dX3_digest_183 : decode cX3_digest 183 = .ok (.invokevirtual 261, 3) := by decide +kernel
theorem dX3_digest_186 : decode cX3_digest 186 = .ok (.i2l, 1) := by decide +kernel
theorem dX3_digest_187 : decode cX3_digest 187 = .ok (.ladd, 1) := by decide +kernel
theorem dX3_digest_188 : decode cX3_digest 188 = .ok (.lstore_n 1, 1) := by decide +kernel
theorem dX3_digest_189 : decode cX3_digest 189 = .ok (.iinc 4 1, 3) := by decide +kernel
theorem dX3_digest_192 : decode cX3_digest 192 = .ok (.goto (-24), 3) := by decide +kernel
theorem dX3_digest_195 : decode cX3_digest 195 = .ok (.iinc 3 1, 3) := by decide +kernel
theorem dX3_digest_198 : decode cX3_digest 198 = .ok (.goto (-38), 3) := by decide +kernel
theorem dX3_digest_201 : decode cX3_digest 201 = .ok (.ldc2_w 241, 3) := by decide +kernel
theorem dX3_digest_204 : decode cX3_digest 204 = .ok (.lload_n 1, 1) := by decide +kernel
theorem dX3_digest_205 : decode cX3_digest 205 = .ok (.lmul, 1) := by decide +kernel
theorem dX3_digest_206 : decode cX3_digest 206 = .ok (.aload_n 0, 1) := by decide +kernel
theorem dX3_digest_207 : decode cX3_digest 207 = .ok (.iconst 1, 1) := by decide +kernel
theorem dX3_digest_208 : decode cX3_digest 208 = .ok (.invokevirtual 264, 3) := by decide +kernel
theorem dX3_digest_211 : decode cX3_digest 211 = .ok (.i2l, 1) := by decide +kernel
theorem dX3_digest_212 : decode cX3_digest 212 = .ok (.ladd, 1) := by decide +kernel
theorem dX3_digest_213 : decode cX3_digest 213 = .ok (.lstore_n 1, 1) := by decide +kernel
theorem dX3_digest_214 : decode cX3_digest 214 = .ok (.ldc2_w 241, 3) := by decide +kernel
theorem dX3_digest_217 : decode cX3_digest 217 = .ok (.lload_n 1, 1) := by decide +kernel
theorem dX3_digest_218 : decode cX3_digest 218 = .ok (.lmul, 1) := by decide +kernel
theorem dX3_digest_219 : decode cX3_digest 219 = .ok (.aload_n 0, 1) := by decide +kernel
theorem dX3_digest_220 : decode cX3_digest 220 = .ok (.bipush 52, 2) := by decide +kernel
theorem dX3_digest_222 : decode cX3_digest 222 = .ok (.invokevirtual 264, 3) := by decide +kernel
theorem dX3_digest_225 : decode cX3_digest 225 = .ok (.i2l, 1) := by decide +kernel
theorem dX3_digest_226 : decode cX3_digest 226 = .ok (.ladd, 1) := by decide +kernel
theorem dX3_digest_227 : decode cX3_digest 227 = .ok (.lstore_n 1, 1) := by decide +kernel
theorem dX3_digest_228 : decode cX3_digest 228 = .ok (.ldc2_w 241, 3) := by decide +kernel
theorem dX3_digest_231 : decode cX3_digest 231 = .ok (.lload_n 1, 1) := by decide +kernel
theorem dX3_digest_232 : decode cX3_digest 232 = .ok (.lmul, 1) := by decide +kernel
theorem dX3_digest_233 : decode cX3_digest 233 = .ok (.aload_n 0, 1) := by decide +kernel
theorem dX3_digest_234 : decode cX3_digest 234 = .ok (.ldc_w 267, 3) := by decide +kernel
theorem dX3_digest_237 : decode cX3_digest 237 = .ok (.invokevirtual 264, 3) := by decide +kernel
theorem dX3_digest_240 : decode cX3_digest 240 = .ok (.i2l, 1) := by decide +kernel
theorem dX3_digest_241 : decode cX3_digest 241 = .ok (.ladd, 1) := by decide +kernel
theorem dX3_digest_242 : decode cX3_digest 242 = .ok (.lstore_n 1, 1) := by decide +kernel
theorem dX3_digest_243 : decode cX3_digest 243 = .ok (.ldc2_w 241, 3) := by decide +kernel
theorem dX3_digest_246 : decode cX3_digest 246 = .ok (.lload_n 1, 1) := by decide +kernel
theorem dX3_digest_247 : decode cX3_digest 247 = .ok (.lmul, 1) := by decide +kernel
theorem dX3_digest_248 : decode cX3_digest 248 = .ok (.aload_n 0, 1) := by decide +kernel
theorem dX3_digest_249 : decode cX3_digest 249 = .ok (.iconst 0, 1) := by decide +kernel
theorem dX3_digest_250 : decode cX3_digest 250 = .ok (.invokevirtual 268, 3) := by decide +kernel
theorem dX3_digest_253 : decode cX3_digest 253 = .ok (.i2l, 1) := by decide +kernel
theorem dX3_digest_254 : decode cX3_digest 254 = .ok (.ladd, 1) := by decide +kernel
theorem dX3_digest_255 : decode cX3_digest 255 = .ok (.lstore_n 1, 1) := by decide +kernel
theorem dX3_digest_256 : decode cX3_digest 256 = .ok (.iconst 1, 1) := by decide +kernel
theorem dX3_digest_257 : decode cX3_digest 257 = .ok (.istore_n 3, 1) := by decide +kernel
theorem dX3_digest_258 : decode cX3_digest 258 = .ok (.iload_n 3, 1) := by decide +kernel
theorem dX3_digest_259 : decode cX3_digest 259 = .ok (.iconst 4, 1) := by decide +kernel
theorem dX3_digest_260 : decode cX3_digest 260 = .ok (.if_icmp .gt 22, 3) := by decide +kernel
theorem dX3_digest_263 : decode cX3_digest 263 = .ok (.ldc2_w 241, 3) := by decide +kernel
theorem dX3_digest_266 : decode cX3_digest 266 = .ok (.lload_n 1, 1) := by decide +kernel
theorem dX3_digest_267 : decode cX3_digest 267 = .ok (.lmul, 1) := by decide +kernel
theorem dX3_digest_268 : decode cX3_digest 268 = .ok (.aload_n 0, 1) := by decide +kernel
theorem dX3_digest_269 : decode cX3_digest 269 = .ok (.iload_n 3, 1) := by decide +kernel
theorem dX3_digest_270 : decode cX3_digest 270 = .ok (.invokevirtual 271, 3) := by decide +kernel
theorem dX3_digest_273 : decode cX3_digest 273 = .ok (.i2l, 1) := by decide +kernel
theorem dX3_digest_274 : decode cX3_digest 274 = .ok (.ladd, 1) := by decide +kernel
theorem dX3_digest_275 : decode cX3_digest 275 = .ok (.lstore_n 1, 1) := by decide +kernel
theorem dX3_digest_276 : decode cX3_digest 276 = .ok (.iinc 3 1, 3) := by decide +kernel
theorem dX3_digest_279 : decode cX3_digest 279 = .ok (.goto (-21), 3) := by decide +kernel
theorem dX3_digest_282 : decode cX3_digest 282 = .ok (.ldc2_w 241, 3) := by decide +kernel
theorem dX3_digest_285 : decode cX3_digest 285 = .ok (.lload_n 1, 1) := by decide +kernel
theorem dX3_digest_286 : decode cX3_digest 286 = .ok (.lmul, 1) := by decide +kernel
theorem dX3_digest_287 : decode cX3_digest 287 = .ok (.aload_n 0, 1) := by decide +kernel
theorem dX3_digest_288 : decode cX3_digest 288 = .ok (.invokevirtual 274, 3) := by decide +kernel
theorem dX3_digest_291 : decode cX3_digest 291 = .ok (.i2l, 1) := by decide +kernel
theorem dX3_digest_292 : decode cX3_digest 292 = .ok (.ladd, 1) := by decide +kernel
theorem dX3_digest_293 : decode cX3_digest 293 = .ok (.lstore_n 1, 1) := by decide +kernel
theorem dX3_digest_294 : decode cX3_digest 294 = .ok (.ldc2_w 241, 3) := by decide +kernel
theorem dX3_digest_297 : decode cX3_digest 297 = .ok (.lload_n 1, 1) := by decide +kernel
theorem dX3_digest_298 : decode cX3_digest 298 = .ok (.lmul, 1) := by decide +kernel
theorem dX3_digest_299 : decode cX3_digest 299 = .ok (.aload_n 0, 1) := by decide +kernel
theorem dX3_digest_300 : decode cX3_digest 300 = .ok (.invokevirtual 277, 3) := by decide +kernel
theorem dX3_digest_303 : decode cX3_digest 303 = .ok (.i2l, 1) := by decide +kernel
theorem dX3_digest_304 : decode cX3_digest 304 = .ok (.ladd, 1) := by decide +kernel
theorem dX3_digest_305 : decode cX3_digest 305 = .ok (.lstore_n 1, 1) := by decide +kernel
theorem dX3_digest_306 : decode cX3_digest 306 = .ok (.ldc2_w 241, 3) := by decide +kernel
theorem dX3_digest_309 : decode cX3_digest 309 = .ok (.lload_n 1, 1) := by decide +kernel
theorem dX3_digest_310 : decode cX3_digest 310 = .ok (.lmul, 1) := by decide +kernel
theorem dX3_digest_311 : decode cX3_digest 311 = .ok (.aload_n 0, 1) := by decide +kernel
theorem dX3_digest_312 : decode cX3_digest 312 = .ok (.invokevirtual 280, 3) := by decide +kernel
theorem dX3_digest_315 : decode cX3_digest 315 = .ok (.invokestatic 284, 3) := by decide +kernel
theorem dX3_digest_318 : decode cX3_digest 318 = .ok (.ladd, 1) := by decide +kernel
theorem dX3_digest_319 : decode cX3_digest 319 = .ok (.lstore_n 1, 1) := by decide +kernel
theorem dX3_digest_320 : decode cX3_digest 320 = .ok (.ldc2_w 241, 3) := by decide +kernel
theorem dX3_digest_323 : decode cX3_digest 323 = .ok (.lload_n 1, 1) := by decide +kernel
theorem dX3_digest_324 : decode cX3_digest 324 = .ok (.lmul, 1) := by decide +kernel
theorem dX3_digest_325 : decode cX3_digest 325 = .ok (.aload_n 0, 1) := by decide +kernel
theorem dX3_digest_326 : decode cX3_digest 326 = .ok (.getfield 23, 3) := by decide +kernel
theorem dX3_digest_329 : decode cX3_digest 329 = .ok (.getfield 119, 3) := by decide +kernel
theorem dX3_digest_332 : decode cX3_digest 332 = .ok (.i2l, 1) := by decide +kernel
theorem dX3_digest_333 : decode cX3_digest 333 = .ok (.ladd, 1) := by decide +kernel
theorem dX3_digest_334 : decode cX3_digest 334 = .ok (.lstore_n 1, 1) := by decide +kernel
theorem dX3_digest_335 : decode cX3_digest 335 = .ok (.iconst 0, 1) := by decide +kernel
theorem dX3_digest_336 : decode cX3_digest 336 = .ok (.istore_n 3, 1) := by decide +kernel
theorem dX3_digest_337 : decode cX3_digest 337 = .ok (.iload_n 3, 1) := by decide +kernel
theorem dX3_digest_338 : decode cX3_digest 338 = .ok (.aload_n 0, 1) := by decide +kernel
theorem dX3_digest_339 : decode cX3_digest 339 = .ok (.getfield 23, 3) := by decide +kernel
theorem dX3_digest_342 : decode cX3_digest 342 = .ok (.getfield 119, 3) := by decide +kernel
theorem dX3_digest_345 : decode cX3_digest 345 = .ok (.if_icmp .ge 26, 3) := by decide +kernel
theorem dX3_digest_348 : decode cX3_digest 348 = .ok (.ldc2_w 241, 3) := by decide +kernel
theorem dX3_digest_351 : decode cX3_digest 351 = .ok (.lload_n 1, 1) := by decide +kernel
theorem dX3_digest_352 : decode cX3_digest 352 = .ok (.lmul, 1) := by decide +kernel
theorem dX3_digest_353 : decode cX3_digest 353 = .ok (.aload_n 0, 1) := by decide +kernel
theorem dX3_digest_354 : decode cX3_digest 354 = .ok (.getfield 23, 3) := by decide +kernel
theorem dX3_digest_357 : decode cX3_digest 357 = .ok (.getfield 124, 3) := by decide +kernel
theorem dX3_digest_360 : decode cX3_digest 360 = .ok (.iload_n 3, 1) := by decide +kernel
theorem dX3_digest_361 : decode cX3_digest 361 = .ok (.caload, 1) := by decide +kernel
theorem dX3_digest_362 : decode cX3_digest 362 = .ok (.i2l, 1) := by decide +kernel
theorem dX3_digest_363 : decode cX3_digest 363 = .ok (.ladd, 1) := by decide +kernel
theorem dX3_digest_364 : decode cX3_digest 364 = .ok (.lstore_n 1, 1) := by decide +kernel
theorem dX3_digest_365 : decode cX3_digest 365 = .ok (.iinc 3 1, 3) := by decide +kernel
theorem dX3_digest_368 : decode cX3_digest 368 = .ok (.goto (-31), 3) := by decide +kernel
theorem dX3_digest_371 : decode cX3_digest 371 = .ok (.lload_n 1, 1) := by decide +kernel
theorem dX3_digest_372 : decode cX3_digest 372 = .ok (.lreturn, 1) := by decide +kernel
set_option maxRecDepth 20000 in
theorem ggX3_save_X2_copyFrom : GoodIn wsX3_save wsX2_copyFrom := goodIn_r _ [10, 11, 12, 13, 14, 15, 16, 17, 18, 28, 29, 30, 31] (by decide +kernel) (by decide +kernel)
set_option maxRecDepth 20000 in
theorem gX3_save_X2_copyFrom : GoodIn wsX3_save (wsV RX3 152 RX2 yX2_copyFrom wsX2_copyFrom) := goodIn_app (goodIn_of _ (by decide +kernel)) ggX3_save_X2_copyFrom
theorem dX3_save_0 : decode cX3_save 0 = .ok (.aload_n 0, 1) := by decide +kernel
theorem dX3_save_1 : decode cX3_save 1 = .ok (.getfield 16, 3) := by decide +kernel
theorem dX3_save_4 : decode cX3_save 4 = .ok (.aload_n 0, 1) := by decide +kernel
theorem dX3_save_5 : decode cX3_save 5 = .ok (.getfield 149, 3) := by decide +kernel
theorem dX3_save_8 : decode cX3_save 8 = .ok (.aload_n 0, 1) := by decide +kernel
theorem dX3_save_9 : decode cX3_save 9 = .ok (.getfield 144, 3) := by decide +kernel
theorem dX3_save_12 : decode cX3_save 12 = .ok (.iadd, 1) := by decide +kernel
theorem dX3_save_13 : decode cX3_save 13 = .ok (.bipush 6, 2) := by decide +kernel
theorem dX3_save_15 : decode cX3_save 15 = .ok (.irem, 1) := by decide +kernel
theorem dX3_save_16 : decode cX3_save 16 = .ok (.aaload, 1) := by decide +kernel
theorem dX3_save_17 : decode cX3_save 17 = .ok (.aload_n 0, 1) := by decide +kernel
theorem dX3_save_18 : decode cX3_save 18 = .ok (.getfield 10, 3) := by decide +kernel
theorem dX3_save_21 : decode cX3_save 21 = .ok (.invokevirtual 152, 3) := by decide +kernel
theorem dX3_save_24 : decode cX3_save 24 = .ok (.aload_n 0, 1) := by decide +kernel
theorem dX3_save_25 : decode cX3_save 25 = .ok (.getfield 144, 3) := by decide +kernel
theorem dX3_save_28 : decode cX3_save 28 = .ok (.bipush 6, 2) := by decide +kernel
theorem dX3_save_30 : decode cX3_save 30 = .ok (.if_icmp .ge 16, 3) := by decide +kernel
theorem dX3_save_33 : decode cX3_save 33 = .ok (.aload_n 0, 1) := by decide +kernel
theorem dX3_save_34 : decode cX3_save 34 = .ok (.dup, 1) := by decide +kernel
theorem dX3_save_35 : decode cX3_save 35 = .ok (.getfield 144, 3) := by decide +kernel
theorem dX3_save_38 : decode cX3_save 38 = .ok (.iconst 1, 1) := by decide +kernel
theorem dX3_save_39 : decode cX3_save 39 = .ok (.iadd, 1) := by decide +kernel
theorem dX3_save_40 : decode cX3_save 40 = .ok (.putfield 144, 3) := by decide +kernel
theorem dX3_save_43 : decode cX3_save 43 = .ok (.goto 16, 3) := by decide +kernel
theorem dX3_save_46 : decode cX3_save 46 = .ok (.aload_n 0, 1) := by decide +kernel
theorem dX3_save_47 : decode cX3_save 47 = .ok (.aload_n 0, 1) := by decide +kernel
theorem dX3_save_48 : decode cX3_save 48 = .ok (.getfield 149, 3) := by decide +kernel
theorem dX3_save_51 : decode cX3_save 51 = .ok (.iconst 1, 1) := by decide +kernel
theorem dX3_save_52 : decode cX3_save 52 = .ok (.iadd, 1) := by decide +kernel
theorem dX3_save_53 : decode cX3_save 53 = .ok (.bipush 6, 2) := by decide +kernel
theorem dX3_save_55 : decode cX3_save 55 = .ok (.irem, 1) := by decide +kernel
theorem dX3_save_56 : decode cX3_save 56 = .ok (.putfield 149, 3) := by decide +kernel
theorem dX3_save_59 : decode cX3_save 59 = .ok (.aload_n 0, 1) := by decide +kernel
theorem dX3_save_60 : decode cX3_save 60 = .ok (.iconst 0, 1) := by decide +kernel
theorem dX3_save_61 : decode cX3_save 61 = .ok (.putfield 156, 3) := by decide +kernel
theorem dX3_save_64 : decode cX3_save 64 = .ok (.return_, 1) := by decide +kernel
set_option maxRecDepth 20000 in
theorem ggX3_currentReading_X0_messageRead : GoodIn wsX3_currentReading wsX0_messageRead := goodIn_r _ [9, 10, 11, 12, 13, 14, 15, 16, 17, 18, 19, 20, 21, 22, 23, 24, 25, 26, 27, 8, 28, 29, 30, 31, 32, 33, 34, 35, 36, 37, 38, 39, 40, 41, 42, 43, 44, 45, 46, 47, 48, 49, 50, 51, 52, 53, 54, 55, 56, 57, 58, 59, 60, 61, 62, 63, 64, 65, 66, 67, 68, 69, 70, 71, 72, 73, 74, 75, 76, 77, 78, 79, 80, 81, 82, 83, 84, 85, 86, 87, 88, 89, 90, 91, 92, 93, 94, 95, 96, 97, 98, 99, 100, 101, 102, 103, 104, 105, 106, 116, 117, 118, 119, 120, 121, 122, 123, 124, 125, 126, 127, 128, 129, 130, 131] (by decide +kernel) (by decide +kernel)
set_option maxRecDepth 20000 in
theorem gX3_currentReading_X0_messageRead : GoodIn wsX3_currentReading (wsV RX3 231 RX0 yX0_messageRead wsX0_messageRead) := goodIn_app (goodIn_of _ (by decide +kernel)) ggX3_currentReading_X0_messageRead
theorem dX3_currentReading_0 : decode cX3_currentReading 0 = .ok (.aload_n 0, 1) := by decide +kernel
theorem dX3_currentReading_1 : decode cX3_currentReading 1 = .ok (.getfield 156, 3) := by decide +kernel
theorem dX3_currentReading_4 : decode cX3_currentReading 4 = .ok (.ifCond .ne 30, 3) := by decide +kernel
theorem dX3_currentReading_7 : decode cX3_currentReading 7 = .ok (.aload_n 0, 1) := by decide +kernel
theorem dX3_currentReading_8 : decode cX3_currentReading 8 = .ok (.getfield 34, 3) := by decide +kernel
theorem dX3_currentReading_11 : decode cX3_currentReading 11 = .ok (.aload_n 0, 1) := by decide +kernel
theorem dX3_currentReading_12 : decode cX3_currentReading 12 = .ok (.getfield 10, 3) := by decide +kernel
theorem dX3_currentReading_15 : decode cX3_currentReading 15 = .ok (.iconst 0, 1) := by decide +kernel
theorem dX3_currentReading_16 : decode cX3_currentReading 16 = .ok (.aload_n 0, 1) := by decide +kernel
theorem dX3_currentReading_17 : decode cX3_currentReading 17 = .ok (.getfield 10, 3) := by decide +kernel
theorem dX3_currentReading_20 : decode cX3_currentReading 20 = .ok (.getfield 94, 3) := by decide +kernel
theorem dX3_currentReading_23 : decode cX3_currentReading 23 = .ok (.iconst 1, 1) := by decide +kernel
theorem dX3_currentReading_24 : decode cX3_currentReading 24 = .ok (.iaload, 1) := by decide +kernel
theorem dX3_currentReading_25 : decode cX3_currentReading 25 = .ok (.invokevirtual 231, 3) := by decide +kernel
theorem dX3_currentReading_28 : decode cX3_currentReading 28 = .ok (.pop, 1) := by decide +kernel
theorem dX3_currentReading_29 : decode cX3_currentReading 29 = .ok (.aload_n 0, 1) := by decide +kernel
theorem dX3_currentReading_30 : decode cX3_currentReading 30 = .ok (.iconst 1, 1) := by decide +kernel
theorem dX3_currentReading_31 : decode cX3_currentReading 31 = .ok (.putfield 156, 3) := by decide +kernel
theorem dX3_currentReading_34 : decode cX3_currentReading 34 = .ok (.aload_n 0, 1) := by decide +kernel
theorem dX3_currentReading_35 : decode cX3_currentReading 35 = .ok (.getfield 34, 3) := by decide +kernel
theorem dX3_currentReading_38 : decode cX3_currentReading 38 = .ok (.areturn, 1) := by decide +kernel
theorem dX3_coded_0 : decode cX3_coded 0 = .ok (.iload_n 0, 1) := by decide +kernel
theorem dX3_coded_1 : decode cX3_coded 1 = .ok (.iconst 1, 1) := by decide +kernel
theorem dX3_coded_2 : decode cX3_coded 2 = .ok (.iload_n 1, 1) := by decide +kernel
theorem dX3_coded_3 : decode cX3_coded 3 = .ok (.ishl, 1) := by decide +kernel
theorem dX3_coded_4 : decode cX3_coded 4 = .ok (.iconst 1, 1) := by decide +kernel
theorem dX3_coded_5 : decode cX3_coded 5 = .ok (.isub, 1) := by decide +kernel
theorem dX3_coded_6 : decode cX3_coded 6 = .ok (.iand, 1) := by decide +kernel
theorem dX3_coded_7 : decode cX3_coded 7 = .ok (.istore_n 2, 1) := by decide +kernel
theorem dX3_coded_8 : decode cX3_coded 8 = .ok (.iconst 0, 1) := by decide +kernel
theorem dX3_coded_9 : decode cX3_coded 9 = .ok (.istore_n 3, 1) := by decide +kernel
theorem dX3_coded_10 : decode cX3_coded 10 = .ok (.iload_n 3, 1) := by decide +kernel
theorem dX3_coded_11 : decode cX3_coded 11 = .ok (.getstatic 288, 3) := by decide +kernel
theorem dX3_coded_14 : decode cX3_coded 14 = .ok (.arraylength, 1) := by decide +kernel
theorem dX3_coded_15 : decode cX3_coded 15 = .ok (.if_icmp .ge 30, 3) := by decide +kernel
theorem dX3_coded_18 : decode cX3_coded 18 = .ok (.iconst 1, 1) := by decide +kernel
theorem dX3_coded_19 : decode cX3_coded 19 = .ok (.iload_n 3, 1) := by decide +kernel
theorem dX3_coded_20 : decode cX3_coded 20 = .ok (.ishl, 1) := by decide +kernel
theorem dX3_coded_21 : decode cX3_coded 21 = .ok (.iload_n 1, 1) := by decide +kernel
theorem dX3_coded_22 : decode cX3_coded 22 = .ok (.if_icmp .ge 23, 3) := by decide +kernel
theorem dX3_coded_25 : decode cX3_coded 25 = .ok (.iload_n 2, 1) := by decide +kernel
theorem dX3_coded_26 : decode cX3_coded 26 = .ok (.iload_n 2, 1) := by decide +kernel
theorem dX3_coded_27 : decode cX3_coded 27 = .ok (.iconst 1, 1) := by decide +kernel
theorem dX3_coded_28 : decode cX3_coded 28 = .ok (.iload_n 3, 1) := by decide +kernel
theorem dX3_coded_29 : decode cX3_coded 29 = .ok (.ishl, 1) := by decide +kernel
theorem dX3_coded_30 : decode cX3_coded 30 = .ok (.ishr, 1) := by decide +kernel
theorem dX3_coded_31 : decode cX3_coded 31 = .ok (.getstatic 288, 3) := by decide +kernel
theorem dX3_coded_34 : decode cX3_coded 34 = .ok (.iload_n 3, 1) := by decide +kernel
theorem dX3_coded_35 : decode cX3_coded 35 = .ok (.iaload, 1) := by decide +kernel
theorem dX3_coded_36 : decode cX3_coded 36 = .ok (.iand, 1) := by decide +kernel
theorem dX3_coded_37 : decode cX3_coded 37 = .ok (.ixor, 1) := by decide +kernel
theorem dX3_coded_38 : decode cX3_coded 38 = .ok (.istore_n 2, 1) := by decide +kernel
theorem dX3_coded_39 : decode cX3_coded 39 = .ok (.iinc 3 1, 3) := by decide +kernel
theorem dX3_coded_42 : decode cX3_coded 42 = .ok (.goto (-32), 3) := by decide +kernel
theorem dX3_coded_45 : decode cX3_coded 45 = .ok (.iload_n 2, 1) := by decide +kernel
theorem dX3_coded_46 : decode cX3_coded 46 = .ok (.ireturn, 1) := by decide +kernel
theorem dX3_checkNumber_0 : decode cX3_checkNumber 0 = .ok (.iconst 0, 1) := by decide +kernel
theorem dX3_checkNumber_1 : decode cX3_checkNumber 1 = .ok (.istore_n 3, 1) := by decide +kernel
theorem dX3_checkNumber_2 : decode cX3_checkNumber 2 = .ok (.iconst 0, 1) := by decide +kernel
theorem dX3_checkNumber_3 : decode cX3_checkNumber 3 = .ok (.istore 4, 2) := by decide +kernel
theorem dX3_checkNumber_5 : decode cX3_checkNumber 5 = .ok (.iload 4, 2) := by decide +kernel
theorem dX3_checkNumber_7 : decode cX3_checkNumber 7 = .ok (.iload_n 1, 1) := by decide +kernel
theorem dX3_checkNumber_8 : decode cX3_checkNumber 8 = .ok (.if_icmp .ge 23, 3) := by decide +kernel
theorem dX3_checkNumber_11 : decode cX3_checkNumber 11 = .ok (.iload_n 3, 1) := by decide +kernel
theorem dX3_checkNumber_12 : decode cX3_checkNumber 12 = .ok (.iload_n 0, 1) := by decide +kernel
theorem dX3_checkNumber_13 : decode cX3_checkNumber 13 = .ok (.iload 4, 2) := by decide +kernel
theorem dX3_checkNumber_15 : decode cX3_checkNumber 15 = .ok (.ishr, 1) := by decide +kernel
theorem dX3_checkNumber_16 : decode cX3_checkNumber 16 = .ok (.iconst 1, 1) := by decide +kernel
theorem dX3_checkNumber_17 : decode cX3_checkNumber 17 = .ok (.iand, 1) := by decide +kernel
theorem dX3_checkNumber_18 : decode cX3_checkNumber 18 = .ok (.iload 4, 2) := by decide +kernel
theorem dX3_checkNumber_20 : decode cX3_checkNumber 20 = .ok (.iconst 1, 1) := by decide +kernel
theorem dX3_checkNumber_21 : decode cX3_checkNumber 21 = .ok (.iadd, 1) := by decide +kernel
theorem dX3_checkNumber_22 : decode cX3_checkNumber 22 = .ok (.imul, 1) := by decide +kernel
theorem dX3_checkNumber_23 : decode cX3_checkNumber 23 = .ok (.iadd, 1) := by decide +kernel
theorem dX3_checkNumber_24 : decode cX3_checkNumber 24 = .ok (.istore_n 3, 1) := by decide +kernel
theorem dX3_checkNumber_25 : decode cX3_checkNumber 25 = .ok (.iinc 4 1, 3) := by decide +kernel
theorem dX3_checkNumber_28 : decode cX3_checkNumber 28 = .ok (.goto (-23), 3) := by decide +kernel
theorem dX3_checkNumber_31 : decode cX3_checkNumber 31 = .ok (.iload_n 3, 1) := by decide +kernel
theorem dX3_checkNumber_32 : decode cX3_checkNumber 32 = .ok (.iconst 1, 1) := by decide +kernel
theorem dX3_checkNumber_33 : decode cX3_checkNumber 33 = .ok (.iload_n 2, 1) := by decide +kernel
theorem dX3_checkNumber_34 : decode cX3_checkNumber 34 = .ok (.ishl, 1) := by decide +kernel
theorem dX3_checkNumber_35 : decode cX3_checkNumber 35 = .ok (.iconst 1, 1) := by decide +kernel
theorem dX3_checkNumber_36 : decode cX3_checkNumber 36 = .ok (.isub, 1) := by decide +kernel
theorem dX3_checkNumber_37 : decode cX3_checkNumber 37 = .ok (.iand, 1) := by decide +kernel
theorem dX3_checkNumber_38 : decode cX3_checkNumber 38 = .ok (.ireturn, 1) := by decide +kernel
theorem dX3_bitsOfShare_0 : decode cX3_bitsOfShare 0 = .ok (.dload_n 0, 1) := by decide +kernel
theorem dX3_bitsOfShare_1 : decode cX3_bitsOfShare 1 = .ok (.dconst 0, 1) := by decide +kernel
theorem dX3_bitsOfShare_2 : decode cX3_bitsOfShare 2 = .ok (.dcmp .g, 1) := by decide +kernel
theorem dX3_bitsOfShare_3 : decode cX3_bitsOfShare 3 = .ok (.ifCond .gt 5, 3) := by decide +kernel
theorem dX3_bitsOfShare_6 : decode cX3_bitsOfShare 6 = .ok (.lconst 0, 1) := by decide +kernel
theorem dX3_bitsOfShare_7 : decode cX3_bitsOfShare 7 = .ok (.lreturn, 1) := by decide +kernel
theorem dX3_bitsOfShare_8 : decode cX3_bitsOfShare 8 = .ok (.dload_n 0, 1) := by decide +kernel
theorem dX3_bitsOfShare_9 : decode cX3_bitsOfShare 9 = .ok (.dstore_n 2, 1) := by decide +kernel
theorem dX3_bitsOfShare_10 : decode cX3_bitsOfShare 10 = .ok (.ldc2_w 291, 3) := by decide +kernel
theorem dX3_bitsOfShare_13 : decode cX3_bitsOfShare 13 = .ok (.lstore 4, 2) := by decide +kernel
theorem dX3_bitsOfShare_15 : decode cX3_bitsOfShare 15 = .ok (.iconst 0, 1) := by decide +kernel
theorem dX3_bitsOfShare_16 : decode cX3_bitsOfShare 16 = .ok (.istore 6, 2) := by decide +kernel
theorem dX3_bitsOfShare_18 : decode cX3_bitsOfShare 18 = .ok (.iload 6, 2) := by decide +kernel
theorem dX3_bitsOfShare_20 : decode cX3_bitsOfShare 20 = .ok (.bipush 64, 2) := by decide +kernel
theorem dX3_bitsOfShare_22 : decode cX3_bitsOfShare 22 = .ok (.if_icmp .ge 27, 3) := by decide +kernel
theorem dX3_bitsOfShare_25 : decode cX3_bitsOfShare 25 = .ok (.dload_n 2, 1) := by decide +kernel
theorem dX3_bitsOfShare_26 : decode cX3_bitsOfShare 26 = .ok (.dconst 1, 1) := by decide +kernel
theorem dX3_bitsOfShare_27 : decode cX3_bitsOfShare 27 = .ok (.dcmp .g, 1) := by decide +kernel
theorem dX3_bitsOfShare_28 : decode cX3_bitsOfShare 28 = .ok (.ifCond .ge 21, 3) := by decide +kernel
theorem dX3_bitsOfShare_31 : decode cX3_bitsOfShare 31 = .ok (.dload_n 2, 1) := by decide +kernel
theorem dX3_bitsOfShare_32 : decode cX3_bitsOfShare 32 = .ok (.ldc2_w 293, 3) := by decide +kernel
theorem dX3_bitsOfShare_35 : decode cX3_bitsOfShare 35 = .ok (.dmul, 1) := by decide +kernel
theorem dX3_bitsOfShare_36 : decode cX3_bitsOfShare 36 = .ok (.dstore_n 2, 1) := by decide +kernel
theorem dX3_bitsOfShare_37 : decode cX3_bitsOfShare 37 = .ok (.lload 4, 2) := by decide +kernel
theorem dX3_bitsOfShare_39 : decode cX3_bitsOfShare 39 = .ok (.lconst 1, 1) := by decide +kernel
theorem dX3_bitsOfShare_40 : decode cX3_bitsOfShare 40 = .ok (.lsub, 1) := by decide +kernel
theorem dX3_bitsOfShare_41 : decode cX3_bitsOfShare 41 = .ok (.lstore 4, 2) := by decide +kernel
theorem dX3_bitsOfShare_43 : decode cX3_bitsOfShare 43 = .ok (.iinc 6 1, 3) := by decide +kernel
theorem dX3_bitsOfShare_46 : decode cX3_bitsOfShare 46 = .ok (.goto (-28), 3) := by decide +kernel
theorem dX3_bitsOfShare_49 : decode cX3_bitsOfShare 49 = .ok (.ldc2_w 295, 3) := by decide +kernel
theorem dX3_bitsOfShare_52 : decode cX3_bitsOfShare 52 = .ok (.dstore 6, 2) := by decide +kernel
theorem dX3_bitsOfShare_54 : decode cX3_bitsOfShare 54 = .ok (.lload 4, 2) := by decide +kernel
theorem dX3_bitsOfShare_56 : decode cX3_bitsOfShare 56 = .ok (.bipush 52, 2) := by decide +kernel
theorem dX3_bitsOfShare_58 : decode cX3_bitsOfShare 58 = .ok (.lshl, 1) := by decide +kernel
theorem dX3_bitsOfShare_59 : decode cX3_bitsOfShare 59 = .ok (.dload_n 2, 1) := by decide +kernel
