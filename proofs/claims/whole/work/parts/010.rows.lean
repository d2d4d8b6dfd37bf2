set_option maxRecDepth 20000 in
theorem gX4_path_X4_tellsPath : GoodIn wsX4_path (wsV RX4 188 RX4 yX4_tellsPath wsX4_tellsPath) := goodIn_app (goodIn_of _ (by decide +kernel)) ggX4_path_X4_tellsPath
set_option maxRecDepth 20000 in
theorem ggX4_path_X4_fails : GoodIn wsX4_path wsX4_fails := goodIn_r _ [86, 1, 87, 88, 89, 90, 91, 92, 93, 94, 95, 96, 97, 98, 99, 100, 101, 102, 103, 104] (by decide +kernel) (by decide +kernel)
set_option maxRecDepth 20000 in
theorem gX4_path_X4_fails : GoodIn wsX4_path (wsV RX4 128 RX4 yX4_fails wsX4_fails) := goodIn_app (goodIn_of _ (by decide +kernel)) ggX4_path_X4_fails
theorem dX4_path_0 : decode cX4_path 0 = .ok (.aload_n 0, 1) := by decide +kernel
theorem dX4_path_1 : decode cX4_path 1 = .ok (.iconst 0, 1) := by decide +kernel
theorem dX4_path_2 : decode cX4_path 2 = .ok (.putfield 40, 3) := by decide +kernel
theorem dX4_path_5 : decode cX4_path 5 = .ok (.iload_n 1, 1) := by decide +kernel
theorem dX4_path_6 : decode cX4_path 6 = .ok (.ifCond .lt 21, 3) := by decide +kernel
theorem dX4_path_9 : decode cX4_path 9 = .ok (.iload_n 2, 1) := by decide +kernel
theorem dX4_path_10 : decode cX4_path 10 = .ok (.iconst 0, 1) := by decide +kernel
theorem dX4_path_11 : decode cX4_path 11 = .ok (.iconst 2, 1) := by decide +kernel
theorem dX4_path_12 : decode cX4_path 12 = .ok (.invokestatic 44, 3) := by decide +kernel
theorem dX4_path_15 : decode cX4_path 15 = .ok (.ifCond .eq 12, 3) := by decide +kernel
theorem dX4_path_18 : decode cX4_path 18 = .ok (.aload_n 0, 1) := by decide +kernel
theorem dX4_path_19 : decode cX4_path 19 = .ok (.iload_n 1, 1) := by decide +kernel
theorem dX4_path_20 : decode cX4_path 20 = .ok (.iload_n 2, 1) := by decide +kernel
theorem dX4_path_21 : decode cX4_path 21 = .ok (.invokevirtual 188, 3) := by decide +kernel
theorem dX4_path_24 : decode cX4_path 24 = .ok (.goto 8, 3) := by decide +kernel
theorem dX4_path_27 : decode cX4_path 27 = .ok (.aload_n 0, 1) := by decide +kernel
theorem dX4_path_28 : decode cX4_path 28 = .ok (.iconst 1, 1) := by decide +kernel
theorem dX4_path_29 : decode cX4_path 29 = .ok (.invokevirtual 128, 3) := by decide +kernel
theorem dX4_path_32 : decode cX4_path 32 = .ok (.ireturn, 1) := by decide +kernel
set_option maxRecDepth 20000 in
theorem ggX4_hearsFirst_X4_reads : GoodIn wsX4_hearsFirst wsX4_reads := goodIn_r _ [6, 7, 1, 8, 9, 10, 11, 12, 13, 14, 5, 15, 16, 17, 18, 19, 20, 21, 22, 23, 24, 25, 26, 27, 28, 29, 30, 31, 32, 33, 34, 35, 36, 37, 38, 39, 40, 41, 42, 43, 44, 45, 46, 47, 48, 49, 50, 51, 52, 53, 54, 55, 56, 57, 58, 59, 60, 61, 62, 63, 64, 65, 66, 67, 68] (by decide +kernel) (by decide +kernel)
set_option maxRecDepth 20000 in
theorem gX4_hearsFirst_X4_reads : GoodIn wsX4_hearsFirst (wsV RX4 116 RX4 yX4_reads wsX4_reads) := goodIn_app (goodIn_of _ (by decide +kernel)) ggX4_hearsFirst_X4_reads
set_option maxRecDepth 20000 in
theorem ggX4_hearsFirst_X4_hears : GoodIn wsX4_hearsFirst wsX4_hears := goodIn_r _ [23, 9, 24, 25, 26, 27, 5, 28, 29, 30, 31, 32, 33, 34, 35, 36, 37, 38, 51, 52, 53, 54, 55, 56, 57, 58, 59, 60, 61, 62, 63, 64, 65, 66, 67, 68] (by decide +kernel) (by decide +kernel)
set_option maxRecDepth 20000 in
theorem gX4_hearsFirst_X4_hears : GoodIn wsX4_hearsFirst (wsV RX4 96 RX4 yX4_hears wsX4_hears) := goodIn_app (goodIn_of _ (by decide +kernel)) ggX4_hearsFirst_X4_hears
theorem dX4_hearsFirst_0 : decode cX4_hearsFirst 0 = .ok (.aload_n 0, 1) := by decide +kernel
theorem dX4_hearsFirst_1 : decode cX4_hearsFirst 1 = .ok (.invokevirtual 116, 3) := by decide +kernel
theorem dX4_hearsFirst_4 : decode cX4_hearsFirst 4 = .ok (.aload_n 0, 1) := by decide +kernel
theorem dX4_hearsFirst_5 : decode cX4_hearsFirst 5 = .ok (.aload_n 0, 1) := by decide +kernel
theorem dX4_hearsFirst_6 : decode cX4_hearsFirst 6 = .ok (.getfield 22, 3) := by decide +kernel
theorem dX4_hearsFirst_9 : decode cX4_hearsFirst 9 = .ok (.iconst 0, 1) := by decide +kernel
theorem dX4_hearsFirst_10 : decode cX4_hearsFirst 10 = .ok (.iaload, 1) := by decide +kernel
theorem dX4_hearsFirst_11 : decode cX4_hearsFirst 11 = .ok (.iload_n 1, 1) := by decide +kernel
theorem dX4_hearsFirst_12 : decode cX4_hearsFirst 12 = .ok (.invokevirtual 96, 3) := by decide +kernel
theorem dX4_hearsFirst_15 : decode cX4_hearsFirst 15 = .ok (.sipush 10000, 3) := by decide +kernel
theorem dX4_hearsFirst_18 : decode cX4_hearsFirst 18 = .ok (.iadd, 1) := by decide +kernel
theorem dX4_hearsFirst_19 : decode cX4_hearsFirst 19 = .ok (.ireturn, 1) := by decide +kernel
set_option maxRecDepth 20000 in
theorem ggX4_heard_X4_isPlace : GoodIn wsX4_heard wsX4_isPlace := goodIn_r _ [6, 7, 8, 9, 5, 10, 67, 68, 69, 70, 71, 72, 73, 74, 75, 76, 77, 78, 79, 80, 81, 82, 83, 84] (by decide +kernel) (by decide +kernel)
set_option maxRecDepth 20000 in
theorem gX4_heard_X4_isPlace : GoodIn wsX4_heard (wsV RX4 137 RX4 yX4_isPlace wsX4_isPlace) := goodIn_app (goodIn_of _ (by decide +kernel)) ggX4_heard_X4_isPlace
set_option maxRecDepth 20000 in
theorem ggX4_heard_X4_hearsFirst : GoodIn wsX4_heard wsX4_hearsFirst := goodIn_r _ [14, 15, 16, 17, 18, 5, 19, 20, 21, 7, 22, 23, 24, 25, 26, 27, 28, 29, 30, 31, 32, 33, 34, 35, 36, 37, 38, 39, 40, 41, 42, 43, 44, 45, 46, 47, 48, 49, 50, 51, 52, 53, 54, 55, 56, 57, 58, 59, 60, 61, 62, 67, 68, 69, 70, 71, 72, 73, 74, 75, 76, 77, 78, 79, 80, 81, 82, 83, 84] (by decide +kernel) (by decide +kernel)
set_option maxRecDepth 20000 in
theorem gX4_heard_X4_hearsFirst : GoodIn wsX4_heard (wsV RX4 191 RX4 yX4_hearsFirst wsX4_hearsFirst) := goodIn_app (goodIn_of _ (by decide +kernel)) ggX4_heard_X4_hearsFirst
set_option maxRecDepth 20000 in
theorem ggX4_heard_X4_fails : GoodIn wsX4_heard wsX4_fails := goodIn_r _ [66, 1, 67, 68, 69, 70, 71, 72, 73, 74, 75, 76, 77, 78, 79, 80, 81, 82, 83, 84] (by decide +kernel) (by decide +kernel)
set_option maxRecDepth 20000 in
theorem gX4_heard_X4_fails : GoodIn wsX4_heard (wsV RX4 128 RX4 yX4_fails wsX4_fails) := goodIn_app (goodIn_of _ (by decide +kernel)) ggX4_heard_X4_fails
theorem dX4_heard_0 : decode cX4_heard 0 = .ok (.aload_n 0, 1) := by decide +kernel
theorem dX4_heard_1 : decode cX4_heard 1 = .ok (.iconst 0, 1) := by decide +kernel
theorem dX4_heard_2 : decode cX4_heard 2 = .ok (.putfield 40, 3) := by decide +kernel
theorem dX4_heard_5 : decode cX4_heard 5 = .ok (.aload_n 0, 1) := by decide +kernel
theorem dX4_heard_6 : decode cX4_heard 6 = .ok (.iload_n 1, 1) := by decide +kernel
theorem dX4_heard_7 : decode cX4_heard 7 = .ok (.invokevirtual 137, 3) := by decide +kernel
theorem dX4_heard_10 : decode cX4_heard 10 = .ok (.ifCond .eq 11, 3) := by decide +kernel
theorem dX4_heard_13 : decode cX4_heard 13 = .ok (.aload_n 0, 1) := by decide +kernel
theorem dX4_heard_14 : decode cX4_heard 14 = .ok (.iload_n 1, 1) := by decide +kernel
theorem dX4_heard_15 : decode cX4_heard 15 = .ok (.invokevirtual 191, 3) := by decide +kernel
theorem dX4_heard_18 : decode cX4_heard 18 = .ok (.goto 8, 3) := by decide +kernel
theorem dX4_heard_21 : decode cX4_heard 21 = .ok (.aload_n 0, 1) := by decide +kernel
theorem dX4_heard_22 : decode cX4_heard 22 = .ok (.iconst 1, 1) := by decide +kernel
theorem dX4_heard_23 : decode cX4_heard 23 = .ok (.invokevirtual 128, 3) := by decide +kernel
theorem dX4_heard_26 : decode cX4_heard 26 = .ok (.ireturn, 1) := by decide +kernel
set_option maxRecDepth 20000 in
theorem ggX4_sizes_X4_size : GoodIn wsX4_sizes wsX4_size := goodIn_r _ [5] (by decide +kernel) (by decide +kernel)
set_option maxRecDepth 20000 in
theorem gX4_sizes_X4_size : GoodIn wsX4_sizes (va_wsS RX4 93 yX4_size wsX4_size) := goodIn_app (goodIn_of _ (by decide +kernel)) ggX4_sizes_X4_size
theorem dX4_sizes_0 : decode cX4_sizes 0 = .ok (.iconst 0, 1) := by decide +kernel
theorem dX4_sizes_1 : decode cX4_sizes 1 = .ok (.istore_n 2, 1) := by decide +kernel
theorem dX4_sizes_2 : decode cX4_sizes 2 = .ok (.iconst 0, 1) := by decide +kernel
theorem dX4_sizes_3 : decode cX4_sizes 3 = .ok (.istore_n 3, 1) := by decide +kernel
theorem dX4_sizes_4 : decode cX4_sizes 4 = .ok (.iload_n 3, 1) := by decide +kernel
theorem dX4_sizes_5 : decode cX4_sizes 5 = .ok (.aload_n 0, 1) := by decide +kernel
theorem dX4_sizes_6 : decode cX4_sizes 6 = .ok (.getfield 7, 3) := by decide +kernel
theorem dX4_sizes_9 : decode cX4_sizes 9 = .ok (.iconst 0, 1) := by decide +kernel
theorem dX4_sizes_10 : decode cX4_sizes 10 = .ok (.iaload, 1) := by decide +kernel
theorem dX4_sizes_11 : decode cX4_sizes 11 = .ok (.if_icmp .ge 48, 3) := by decide +kernel
theorem dX4_sizes_14 : decode cX4_sizes 14 = .ok (.iload_n 2, 1) := by decide +kernel
theorem dX4_sizes_15 : decode cX4_sizes 15 = .ok (.iload_n 1, 1) := by decide +kernel
theorem dX4_sizes_16 : decode cX4_sizes 16 = .ok (.ifCond .eq 23, 3) := by decide +kernel
theorem dX4_sizes_19 : decode cX4_sizes 19 = .ok (.aload_n 0, 1) := by decide +kernel
theorem dX4_sizes_20 : decode cX4_sizes 20 = .ok (.getfield 7, 3) := by decide +kernel
theorem dX4_sizes_23 : decode cX4_sizes 23 = .ok (.bipush 6, 2) := by decide +kernel
theorem dX4_sizes_25 : decode cX4_sizes 25 = .ok (.iload_n 3, 1) := by decide +kernel
theorem dX4_sizes_26 : decode cX4_sizes 26 = .ok (.iadd, 1) := by decide +kernel
theorem dX4_sizes_27 : decode cX4_sizes 27 = .ok (.iaload, 1) := by decide +kernel
theorem dX4_sizes_28 : decode cX4_sizes 28 = .ok (.ifCond .ne 7, 3) := by decide +kernel
theorem dX4_sizes_31 : decode cX4_sizes 31 = .ok (.iconst 1, 1) := by decide +kernel
theorem dX4_sizes_32 : decode cX4_sizes 32 = .ok (.goto 19, 3) := by decide +kernel
theorem dX4_sizes_35 : decode cX4_sizes 35 = .ok (.iconst 0, 1) := by decide +kernel
theorem dX4_sizes_36 : decode cX4_sizes 36 = .ok (.goto 15, 3) := by decide +kernel
theorem dX4_sizes_39 : decode cX4_sizes 39 = .ok (.aload_n 0, 1) := by decide +kernel
theorem dX4_sizes_40 : decode cX4_sizes 40 = .ok (.getfield 7, 3) := by decide +kernel
theorem dX4_sizes_43 : decode cX4_sizes 43 = .ok (.bipush 6, 2) := by decide +kernel
theorem dX4_sizes_45 : decode cX4_sizes 45 = .ok (.iload_n 3, 1) := by decide +kernel
theorem dX4_sizes_46 : decode cX4_sizes 46 = .ok (.iadd, 1) := by decide +kernel
theorem dX4_sizes_47 : decode cX4_sizes 47 = .ok (.iaload, 1) := by decide +kernel
theorem dX4_sizes_48 : decode cX4_sizes 48 = .ok (.invokestatic 93, 3) := by decide +kernel
theorem dX4_sizes_51 : decode cX4_sizes 51 = .ok (.iadd, 1) := by decide +kernel
theorem dX4_sizes_52 : decode cX4_sizes 52 = .ok (.istore_n 2, 1) := by decide +kernel
theorem dX4_sizes_53 : decode cX4_sizes 53 = .ok (.iinc 3 1, 3) := by decide +kernel
theorem dX4_sizes_56 : decode cX4_sizes 56 = .ok (.goto (-52), 3) := by decide +kernel
theorem dX4_sizes_59 : decode cX4_sizes 59 = .ok (.iload_n 2, 1) := by decide +kernel
theorem dX4_sizes_60 : decode cX4_sizes 60 = .ok (.ireturn, 1) := by decide +kernel
set_option maxRecDepth 20000 in
theorem ggX4_rightMany_X4_messageOf : GoodIn wsX4_rightMany wsX4_messageOf := goodIn_r _ [7, 8, 9, 10, 11, 6, 12, 33, 34, 35, 36, 37, 38, 39, 40, 41, 42, 43, 44, 45, 46, 47, 48, 49, 50] (by decide +kernel) (by decide +kernel)
set_option maxRecDepth 20000 in
theorem gX4_rightMany_X4_messageOf : GoodIn wsX4_rightMany (wsV RX4 119 RX4 yX4_messageOf wsX4_messageOf) := goodIn_app (goodIn_of _ (by decide +kernel)) ggX4_rightMany_X4_messageOf
set_option maxRecDepth 20000 in
theorem ggX4_rightMany_X4_isRight : GoodIn wsX4_rightMany wsX4_isRight := goodIn_r _ [16, 17, 18, 19, 6, 20, 21, 22, 23, 24, 8, 9, 10, 11, 12, 25, 26, 27, 28, 29, 30, 31, 32, 33, 34, 35, 36, 37, 38, 39, 40, 41, 42, 43, 44, 45, 46, 47, 48, 49, 50] (by decide +kernel) (by decide +kernel)
set_option maxRecDepth 20000 in
theorem gX4_rightMany_X4_isRight : GoodIn wsX4_rightMany (wsV RX4 122 RX4 yX4_isRight wsX4_isRight) := goodIn_app (goodIn_of _ (by decide +kernel)) ggX4_rightMany_X4_isRight
theorem dX4_rightMany_0 : decode cX4_rightMany 0 = .ok (.iconst 0, 1) := by decide +kernel
theorem dX4_rightMany_1 : decode cX4_rightMany 1 = .ok (.istore_n 1, 1) := by decide +kernel
theorem dX4_rightMany_2 : decode cX4_rightMany 2 = .ok (.iconst 0, 1) := by decide +kernel
theorem dX4_rightMany_3 : decode cX4_rightMany 3 = .ok (.istore_n 2, 1) := by decide +kernel
theorem dX4_rightMany_4 : decode cX4_rightMany 4 = .ok (.iload_n 2, 1) := by decide +kernel
theorem dX4_rightMany_5 : decode cX4_rightMany 5 = .ok (.aload_n 0, 1) := by decide +kernel
theorem dX4_rightMany_6 : decode cX4_rightMany 6 = .ok (.getfield 99, 3) := by decide +kernel
theorem dX4_rightMany_9 : decode cX4_rightMany 9 = .ok (.if_icmp .ge 34, 3) := by decide +kernel
theorem dX4_rightMany_12 : decode cX4_rightMany 12 = .ok (.iload_n 1, 1) := by decide +kernel
theorem dX4_rightMany_13 : decode cX4_rightMany 13 = .ok (.aload_n 0, 1) := by decide +kernel
theorem dX4_rightMany_14 : decode cX4_rightMany 14 = .ok (.aload_n 0, 1) := by decide +kernel
theorem dX4_rightMany_15 : decode cX4_rightMany 15 = .ok (.aload_n 0, 1) := by decide +kernel
theorem dX4_rightMany_16 : decode cX4_rightMany 16 = .ok (.getfield 22, 3) := by decide +kernel
theorem dX4_rightMany_19 : decode cX4_rightMany 19 = .ok (.iload_n 2, 1) := by decide +kernel
theorem dX4_rightMany_20 : decode cX4_rightMany 20 = .ok (.iaload, 1) := by decide +kernel
theorem dX4_rightMany_21 : decode cX4_rightMany 21 = .ok (.invokevirtual 119, 3) := by decide +kernel
theorem dX4_rightMany_24 : decode cX4_rightMany 24 = .ok (.invokevirtual 122, 3) := by decide +kernel
theorem dX4_rightMany_27 : decode cX4_rightMany 27 = .ok (.ifCond .eq 7, 3) := by decide +kernel
theorem dX4_rightMany_30 : decode cX4_rightMany 30 = .ok (.iconst 1, 1) := by decide +kernel
theorem dX4_rightMany_31 : decode cX4_rightMany 31 = .ok (.goto 4, 3) := by decide +kernel
theorem dX4_rightMany_34 : decode cX4_rightMany 34 = .ok (.iconst 0, 1) := by decide +kernel
theorem dX4_rightMany_35 : decode cX4_rightMany 35 = .ok (.iadd, 1) := by decide +kernel
theorem dX4_rightMany_36 : decode cX4_rightMany 36 = .ok (.istore_n 1, 1) := by decide +kernel
theorem dX4_rightMany_37 : decode cX4_rightMany 37 = .ok (.iinc 2 1, 3) := by decide +kernel
theorem dX4_rightMany_40 : decode cX4_rightMany 40 = .ok (.goto (-36), 3) := by decide +kernel
theorem dX4_rightMany_43 : decode cX4_rightMany 43 = .ok (.iload_n 1, 1) := by decide +kernel
theorem dX4_rightMany_44 : decode cX4_rightMany 44 = .ok (.ireturn, 1) := by decide +kernel
set_option maxRecDepth 20000 in
theorem ggX4_counts_X4_openMany : GoodIn wsX4_counts wsX4_openMany := goodIn_r _ [8, 1, 9, 10, 11, 7, 12, 84, 85, 86, 87, 88, 89, 90, 91, 92, 93, 94, 95, 96, 97, 98, 99, 100, 101] (by decide +kernel) (by decide +kernel)
set_option maxRecDepth 20000 in
theorem gX4_counts_X4_openMany : GoodIn wsX4_counts (wsV RX4 55 RX4 yX4_openMany wsX4_openMany) := goodIn_app (goodIn_of _ (by decide +kernel)) ggX4_counts_X4_openMany
set_option maxRecDepth 20000 in
theorem ggX4_counts_X4_bodyMany : GoodIn wsX4_counts wsX4_bodyMany := goodIn_r _ [16, 4, 5, 6, 7, 8, 1, 9, 10, 11, 12, 17, 18, 19, 20, 84, 85, 86, 87, 88, 89, 90, 91, 92, 93, 94, 95, 96, 97, 98, 99, 100, 101] (by decide +kernel) (by decide +kernel)
set_option maxRecDepth 20000 in
theorem gX4_counts_X4_bodyMany : GoodIn wsX4_counts (wsV RX4 72 RX4 yX4_bodyMany wsX4_bodyMany) := goodIn_app (goodIn_of _ (by decide +kernel)) ggX4_counts_X4_bodyMany
set_option maxRecDepth 20000 in
theorem ggX4_counts_X4_checkMany : GoodIn wsX4_counts wsX4_checkMany := goodIn_r _ [20, 1, 4, 5, 6, 7, 8, 9, 10, 11, 12, 84, 85, 86, 87, 88, 89, 90, 91, 92, 93, 94, 95, 96, 97, 98, 99, 100, 101] (by decide +kernel) (by decide +kernel)
set_option maxRecDepth 20000 in
theorem gX4_counts_X4_checkMany : GoodIn wsX4_counts (wsV RX4 59 RX4 yX4_checkMany wsX4_checkMany) := goodIn_app (goodIn_of _ (by decide +kernel)) ggX4_counts_X4_checkMany
set_option maxRecDepth 20000 in
theorem ggX4_counts_X4_sizes : GoodIn wsX4_counts wsX4_sizes := goodIn_r _ [24, 1, 25, 26, 7, 27, 84, 85, 86, 87, 88, 89, 90, 91, 92, 93, 94, 95, 96, 97, 98, 99, 100, 101] (by decide +kernel) (by decide +kernel)
set_option maxRecDepth 20000 in
theorem gX4_counts_X4_sizes : GoodIn wsX4_counts (wsV RX4 194 RX4 yX4_sizes wsX4_sizes) := goodIn_app (goodIn_of _ (by decide +kernel)) ggX4_counts_X4_sizes
set_option maxRecDepth 20000 in
theorem ggX4_counts_X4_reads : GoodIn wsX4_counts wsX4_reads := goodIn_r _ [31, 2, 32, 33, 1, 34, 35, 36, 37, 38, 7, 39, 40, 41, 42, 43, 44, 45, 46, 47, 48, 49, 50, 51, 52, 25, 26, 27, 53, 54, 55, 56, 57, 58, 59, 9, 10, 11, 12, 60, 61, 62, 63, 64, 65, 66, 67, 84, 85, 86, 87, 88, 89, 90, 91, 92, 93, 94, 95, 96, 97, 98, 99, 100, 101] (by decide +kernel) (by decide +kernel)
set_option maxRecDepth 20000 in
theorem gX4_counts_X4_reads : GoodIn wsX4_counts (wsV RX4 116 RX4 yX4_reads wsX4_reads) := goodIn_app (goodIn_of _ (by decide +kernel)) ggX4_counts_X4_reads
set_option maxRecDepth 20000 in
theorem ggX4_counts_X4_rightMany : GoodIn wsX4_counts wsX4_rightMany := goodIn_r _ [71, 2, 32, 72, 73, 74, 7, 75, 1, 9, 10, 11, 12, 76, 77, 78, 79, 13, 14, 15, 16, 4, 5, 6, 8, 17, 18, 19, 20, 80, 81, 82, 83, 84, 85, 86, 87, 88, 89, 90, 91, 92, 93, 94, 95, 96, 97, 98, 99, 100, 101] (by decide +kernel) (by decide +kernel)
set_option maxRecDepth 20000 in
theorem gX4_counts_X4_rightMany : GoodIn wsX4_counts (wsV RX4 198 RX4 yX4_rightMany wsX4_rightMany) := goodIn_app (goodIn_of _ (by decide +kernel)) ggX4_counts_X4_rightMany
theorem dX4_counts_0 : decode cX4_counts 0 = .ok (.iload_n 1, 1) := by decide +kernel
theorem dX4_counts_1 : decode cX4_counts 1 = .ok (.tableswitch 102 0 7 #[47, 54, 59, 64, 69, 69, 84, 93], 47) := by decide +kernel
theorem dX4_counts_48 : decode cX4_counts 48 = .ok (.aload_n 0, 1) := by decide +kernel
theorem dX4_counts_49 : decode cX4_counts 49 = .ok (.getfield 7, 3) := by decide +kernel
theorem dX4_counts_52 : decode cX4_counts 52 = .ok (.iconst 0, 1) := by decide +kernel
theorem dX4_counts_53 : decode cX4_counts 53 = .ok (.iaload, 1) := by decide +kernel
theorem dX4_counts_54 : decode cX4_counts 54 = .ok (.ireturn, 1) := by decide +kernel
theorem dX4_counts_55 : decode cX4_counts 55 = .ok (.aload_n 0, 1) := by decide +kernel
theorem dX4_counts_56 : decode cX4_counts 56 = .ok (.invokevirtual 55, 3) := by decide +kernel
theorem dX4_counts_59 : decode cX4_counts 59 = .ok (.ireturn, 1) := by decide +kernel
theorem dX4_counts_60 : decode cX4_counts 60 = .ok (.aload_n 0, 1) := by decide +kernel
theorem dX4_counts_61 : decode cX4_counts 61 = .ok (.invokevirtual 72, 3) := by decide +kernel
theorem dX4_counts_64 : decode cX4_counts 64 = .ok (.ireturn, 1) := by decide +kernel
theorem dX4_counts_65 : decode cX4_counts 65 = .ok (.aload_n 0, 1) := by decide +kernel
theorem dX4_counts_66 : decode cX4_counts 66 = .ok (.invokevirtual 59, 3) := by decide +kernel
theorem dX4_counts_69 : decode cX4_counts 69 = .ok (.ireturn, 1) := by decide +kernel
theorem dX4_counts_70 : decode cX4_counts 70 = .ok (.aload_n 0, 1) := by decide +kernel
theorem dX4_counts_71 : decode cX4_counts 71 = .ok (.iload_n 1, 1) := by decide +kernel
theorem dX4_counts_72 : decode cX4_counts 72 = .ok (.iconst 4, 1) := by decide +kernel
theorem dX4_counts_73 : decode cX4_counts 73 = .ok (.if_icmp .ne 7, 3) := by decide +kernel
theorem dX4_counts_76 : decode cX4_counts 76 = .ok (.iconst 1, 1) := by decide +kernel
theorem dX4_counts_77 : decode cX4_counts 77 = .ok (.goto 4, 3) := by decide +kernel
theorem dX4_counts_80 : decode cX4_counts 80 = .ok (.iconst 0, 1) := by decide +kernel
theorem dX4_counts_81 : decode cX4_counts 81 = .ok (.invokevirtual 194, 3) := by decide +kernel
theorem dX4_counts_84 : decode cX4_counts 84 = .ok (.ireturn, 1) := by decide +kernel
theorem dX4_counts_85 : decode cX4_counts 85 = .ok (.aload_n 0, 1) := by decide +kernel
theorem dX4_counts_86 : decode cX4_counts 86 = .ok (.invokevirtual 116, 3) := by decide +kernel
theorem dX4_counts_89 : decode cX4_counts 89 = .ok (.aload_n 0, 1) := by decide +kernel
theorem dX4_counts_90 : decode cX4_counts 90 = .ok (.getfield 99, 3) := by decide +kernel
theorem dX4_counts_93 : decode cX4_counts 93 = .ok (.ireturn, 1) := by decide +kernel
theorem dX4_counts_94 : decode cX4_counts 94 = .ok (.aload_n 0, 1) := by decide +kernel
theorem dX4_counts_95 : decode cX4_counts 95 = .ok (.invokevirtual 116, 3) := by decide +kernel
theorem dX4_counts_98 : decode cX4_counts 98 = .ok (.aload_n 0, 1) := by decide +kernel
theorem dX4_counts_99 : decode cX4_counts 99 = .ok (.invokevirtual 198, 3) := by decide +kernel
theorem dX4_counts_102 : decode cX4_counts 102 = .ok (.ireturn, 1) := by decide +kernel
theorem dX4_counts_103 : decode cX4_counts 103 = .ok (.aload_n 0, 1) := by decide +kernel
theorem dX4_counts_104 : decode cX4_counts 104 = .ok (.getfield 48, 3) := by decide +kernel
theorem dX4_counts_107 : decode cX4_counts 107 = .ok (.ireturn, 1) := by decide +kernel
set_option maxRecDepth 20000 in
theorem ggX4_count_X4_in : GoodIn wsX4_count wsX4_in := goodIn_r _ [5] (by decide +kernel) (by decide +kernel)
set_option maxRecDepth 20000 in
theorem gX4_count_X4_in : GoodIn wsX4_count (va_wsS RX4 44 yX4_in wsX4_in) := goodIn_app (goodIn_of _ (by decide +kernel)) ggX4_count_X4_in
set_option maxRecDepth 20000 in
theorem ggX4_count_X4_counts : GoodIn wsX4_count wsX4_counts := goodIn_r _ [9, 10, 11, 12, 13, 14, 15, 4, 16, 17, 18, 19, 20, 21, 22, 23, 24, 25, 26, 27, 28, 29, 30, 31, 32, 33, 34, 35, 36, 37, 38, 39, 40, 41, 42, 43, 44, 45, 46, 47, 48, 49, 50, 51, 52, 53, 54, 55, 56, 57, 58, 59, 60, 61, 62, 63, 64, 65, 66, 67, 68, 69, 70, 71, 72, 73, 74, 75, 76, 77, 78, 79, 80, 81, 82, 83, 84, 85, 86, 87, 88, 89, 90, 91, 96, 97, 98, 99, 100, 101, 102, 103, 104, 105, 106, 107, 108, 109, 110, 111, 112, 113] (by decide +kernel) (by decide +kernel)
set_option maxRecDepth 20000 in
theorem gX4_count_X4_counts : GoodIn wsX4_count (wsV RX4 201 RX4 yX4_counts wsX4_counts) := goodIn_app (goodIn_of _ (by decide +kernel)) ggX4_count_X4_counts
set_option maxRecDepth 20000 in
theorem ggX4_count_X4_fails : GoodIn wsX4_count wsX4_fails := goodIn_r _ [95, 1, 96, 97, 98, 99, 100, 101, 102, 103, 104, 105, 106, 107, 108, 109, 110, 111, 112, 113] (by decide +kernel) (by decide +kernel)
set_option maxRecDepth 20000 in
theorem gX4_count_X4_fails : GoodIn wsX4_count (wsV RX4 128 RX4 yX4_fails wsX4_fails) := goodIn_app (goodIn_of _ (by decide +kernel)) ggX4_count_X4_fails
theorem dX4_count_0 : decode cX4_count 0 = .ok (.aload_n 0, 1) := by decide +kernel
theorem dX4_count_1 : decode cX4_count 1 = .ok (.iconst 0, 1) := by decide +kernel
theorem dX4_count_2 : decode cX4_count 2 = .ok (.putfield 40, 3) := by decide +kernel
theorem dX4_count_5 : decode cX4_count 5 = .ok (.iload_n 1, 1) := by decide +kernel
theorem dX4_count_6 : decode cX4_count 6 = .ok (.iconst 0, 1) := by decide +kernel
theorem dX4_count_7 : decode cX4_count 7 = .ok (.bipush 8, 2) := by decide +kernel
theorem dX4_count_9 : decode cX4_count 9 = .ok (.invokestatic 44, 3) := by decide +kernel
theorem dX4_count_12 : decode cX4_count 12 = .ok (.ifCond .eq 11, 3) := by decide +kernel
theorem dX4_count_15 : decode cX4_count 15 = .ok (.aload_n 0, 1) := by decide +kernel
theorem dX4_count_16 : decode cX4_count 16 = .ok (.iload_n 1, 1) := by decide +kernel
theorem dX4_count_17 : decode cX4_count 17 = .ok (.invokevirtual 201, 3) := by decide +kernel
theorem dX4_count_20 : decode cX4_count 20 = .ok (.goto 8, 3) := by decide +kernel
theorem dX4_count_23 : decode cX4_count 23 = .ok (.aload_n 0, 1) := by decide +kernel
theorem dX4_count_24 : decode cX4_count 24 = .ok (.iconst 1, 1) := by decide +kernel
theorem dX4_count_25 : decode cX4_count 25 = .ok (.invokevirtual 128, 3) := by decide +kernel
theorem dX4_count_28 : decode cX4_count 28 = .ok (.ireturn, 1) := by decide +kernel
set_option maxRecDepth 20000 in
theorem ggX4_setting_X4_in : GoodIn wsX4_setting wsX4_in := goodIn_r _ [6] (by decide +kernel) (by decide +kernel)
set_option maxRecDepth 20000 in
theorem gX4_setting_X4_in : GoodIn wsX4_setting (va_wsS RX4 44 yX4_in wsX4_in) := goodIn_app (goodIn_of _ (by decide +kernel)) ggX4_setting_X4_in
set_option maxRecDepth 20000 in
theorem ggX4_setting_X4_fails : GoodIn wsX4_setting wsX4_fails := goodIn_r _ [10, 1, 11, 12, 13, 14, 15, 16, 17, 18, 19, 20, 21, 22, 23, 24, 25, 26, 27, 28] (by decide +kernel) (by decide +kernel)
set_option maxRecDepth 20000 in
theorem gX4_setting_X4_fails : GoodIn wsX4_setting (wsV RX4 128 RX4 yX4_fails wsX4_fails) := goodIn_app (goodIn_of _ (by decide +kernel)) ggX4_setting_X4_fails
theorem dX4_setting_0 : decode cX4_setting 0 = .ok (.aload_n 0, 1) := by decide +kernel
theorem dX4_setting_1 : decode cX4_setting 1 = .ok (.iconst 0, 1) := by decide +kernel
theorem dX4_setting_2 : decode cX4_setting 2 = .ok (.putfield 40, 3) := by decide +kernel
theorem dX4_setting_5 : decode cX4_setting 5 = .ok (.iload_n 1, 1) := by decide +kernel
theorem dX4_setting_6 : decode cX4_setting 6 = .ok (.iconst 0, 1) := by decide +kernel
theorem dX4_setting_7 : decode cX4_setting 7 = .ok (.iconst 3, 1) := by decide +kernel
theorem dX4_setting_8 : decode cX4_setting 8 = .ok (.invokestatic 44, 3) := by decide +kernel
theorem dX4_setting_11 : decode cX4_setting 11 = .ok (.ifCond .eq 14, 3) := by decide +kernel
theorem dX4_setting_14 : decode cX4_setting 14 = .ok (.aload_n 0, 1) := by decide +kernel
theorem dX4_setting_15 : decode cX4_setting 15 = .ok (.getfield 7, 3) := by decide +kernel
theorem dX4_setting_18 : decode cX4_setting 18 = .ok (.iconst 2, 1) := by decide +kernel
theorem dX4_setting_19 : decode cX4_setting 19 = .ok (.iload_n 1, 1) := by decide +kernel
theorem dX4_setting_20 : decode cX4_setting 20 = .ok (.iadd, 1) := by decide +kernel
theorem dX4_setting_21 : decode cX4_setting 21 = .ok (.iaload, 1) := by decide +kernel
theorem dX4_setting_22 : decode cX4_setting 22 = .ok (.goto 8, 3) := by decide +kernel
theorem dX4_setting_25 : decode cX4_setting 25 = .ok (.aload_n 0, 1) := by decide +kernel
theorem dX4_setting_26 : decode cX4_setting 26 = .ok (.iconst 1, 1) := by decide +kernel
theorem dX4_setting_27 : decode cX4_setting 27 = .ok (.invokevirtual 128, 3) := by decide +kernel
theorem dX4_setting_30 : decode cX4_setting 30 = .ok (.ireturn, 1) := by decide +kernel
set_option maxRecDepth 20000 in
theorem ggX4_flipped_X4_readMessage : GoodIn wsX4_flipped wsX4_readMessage := goodIn_r _ [6, 7, 8, 9, 10, 5, 11, 12, 13, 14, 15, 16, 17, 1, 18, 19, 20, 21, 22, 23, 24, 25, 26, 27, 28, 29, 30, 31, 32, 33, 34, 35, 36, 37, 38, 39, 40, 41, 42, 43, 44, 45, 46, 47, 48, 49, 50, 51, 52, 53, 54, 55, 56, 57, 58, 59, 60, 61, 62, 63, 64, 65, 66, 67, 68, 69, 70, 71, 72, 73, 74, 75, 76, 77, 78, 79, 80, 81, 82, 83, 84, 85, 86, 87, 88, 89, 90, 91, 92, 93, 94, 95, 96, 97, 98, 99, 100] (by decide +kernel) (by decide +kernel)
set_option maxRecDepth 20000 in
theorem gX4_flipped_X4_readMessage : GoodIn wsX4_flipped (wsV RX4 204 RX4 yX4_readMessage wsX4_readMessage) := goodIn_app (goodIn_of _ (by decide +kernel)) ggX4_flipped_X4_readMessage
theorem dX4_flipped_0 : decode cX4_flipped 0 = .ok (.aload_n 0, 1) := by decide +kernel
theorem dX4_flipped_1 : decode cX4_flipped 1 = .ok (.getfield 7, 3) := by decide +kernel
theorem dX4_flipped_4 : decode cX4_flipped 4 = .ok (.bipush 6, 2) := by decide +kernel
theorem dX4_flipped_6 : decode cX4_flipped 6 = .ok (.iload_n 1, 1) := by decide +kernel
theorem dX4_flipped_7 : decode cX4_flipped 7 = .ok (.iadd, 1) := by decide +kernel
theorem dX4_flipped_8 : decode cX4_flipped 8 = .ok (.aload_n 0, 1) := by decide +kernel
theorem dX4_flipped_9 : decode cX4_flipped 9 = .ok (.getfield 7, 3) := by decide +kernel
theorem dX4_flipped_12 : decode cX4_flipped 12 = .ok (.bipush 6, 2) := by decide +kernel
theorem dX4_flipped_14 : decode cX4_flipped 14 = .ok (.iload_n 1, 1) := by decide +kernel
theorem dX4_flipped_15 : decode cX4_flipped 15 = .ok (.iadd, 1) := by decide +kernel
theorem dX4_flipped_16 : decode cX4_flipped 16 = .ok (.iaload, 1) := by decide +kernel
theorem dX4_flipped_17 : decode cX4_flipped 17 = .ok (.ineg, 1) := by decide +kernel
theorem dX4_flipped_18 : decode cX4_flipped 18 = .ok (.iastore, 1) := by decide +kernel
theorem dX4_flipped_19 : decode cX4_flipped 19 = .ok (.aload_n 0, 1) := by decide +kernel
theorem dX4_flipped_20 : decode cX4_flipped 20 = .ok (.invokevirtual 204, 3) := by decide +kernel
theorem dX4_flipped_23 : decode cX4_flipped 23 = .ok (.istore_n 2, 1) := by decide +kernel
theorem dX4_flipped_24 : decode cX4_flipped 24 = .ok (.aload_n 0, 1) := by decide +kernel
theorem dX4_flipped_25 : decode cX4_flipped 25 = .ok (.getfield 7, 3) := by decide +kernel
theorem dX4_flipped_28 : decode cX4_flipped 28 = .ok (.bipush 6, 2) := by decide +kernel
theorem dX4_flipped_30 : decode cX4_flipped 30 = .ok (.iload_n 1, 1) := by decide +kernel
theorem dX4_flipped_31 : decode cX4_flipped 31 = .ok (.iadd, 1) := by decide +kernel
theorem dX4_flipped_32 : decode cX4_flipped 32 = .ok (.aload_n 0, 1) := by decide +kernel
theorem dX4_flipped_33 : decode cX4_flipped 33 = .ok (.getfield 7, 3) := by decide +kernel
theorem dX4_flipped_36 : decode cX4_flipped 36 = .ok (.bipush 6, 2) := by decide +kernel
theorem dX4_flipped_38 : decode cX4_flipped 38 = .ok (.iload_n 1, 1) := by decide +kernel
theorem dX4_flipped_39 : decode cX4_flipped 39 = .ok (.iadd, 1) := by decide +kernel
theorem dX4_flipped_40 : decode cX4_flipped 40 = .ok (.iaload, 1) := by decide +kernel
theorem dX4_flipped_41 : decode cX4_flipped 41 = .ok (.ineg, 1) := by decide +kernel
theorem dX4_flipped_42 : decode cX4_flipped 42 = .ok (.iastore, 1) := by decide +kernel
theorem dX4_flipped_43 : decode cX4_flipped 43 = .ok (.iload_n 2, 1) := by decide +kernel
theorem dX4_flipped_44 : decode cX4_flipped 44 = .ok (.ireturn, 1) := by decide +kernel
set_option maxRecDepth 20000 in
theorem ggX4_ifFlipped_X4_isPlace : GoodIn wsX4_ifFlipped wsX4_isPlace := goodIn_r _ [6, 7, 8, 9, 5, 10, 99, 100, 101, 102, 103, 104, 105, 106, 107, 108, 109, 110, 111, 112, 113, 114, 115, 116] (by decide +kernel) (by decide +kernel)
set_option maxRecDepth 20000 in
theorem gX4_ifFlipped_X4_isPlace : GoodIn wsX4_ifFlipped (wsV RX4 137 RX4 yX4_isPlace wsX4_isPlace) := goodIn_app (goodIn_of _ (by decide +kernel)) ggX4_ifFlipped_X4_isPlace
set_option maxRecDepth 20000 in
theorem ggX4_ifFlipped_X4_flipped : GoodIn wsX4_ifFlipped wsX4_flipped := goodIn_r _ [14, 7, 15, 16, 17, 5, 18, 19, 20, 21, 22, 23, 24, 25, 26, 27, 28, 29, 30, 31, 32, 33, 34, 35, 36, 37, 38, 39, 40, 41, 42, 43, 44, 45, 46, 47, 48, 49, 50, 51, 52, 53, 54, 55, 56, 57, 58, 59, 60, 61, 62, 63, 64, 65, 66, 67, 68, 69, 70, 71, 72, 73, 74, 75, 76, 77, 78, 79, 80, 81, 82, 83, 84, 85, 86, 87, 88, 89, 90, 91, 92, 93, 94, 99, 100, 101, 102, 103, 104, 105, 106, 107, 108, 109, 110, 111, 112, 113, 114, 115, 116] (by decide +kernel) (by decide +kernel)
set_option maxRecDepth 20000 in
theorem gX4_ifFlipped_X4_flipped : GoodIn wsX4_ifFlipped (wsV RX4 207 RX4 yX4_flipped wsX4_flipped) := goodIn_app (goodIn_of _ (by decide +kernel)) ggX4_ifFlipped_X4_flipped
set_option maxRecDepth 20000 in
theorem ggX4_ifFlipped_X4_fails : GoodIn wsX4_ifFlipped wsX4_fails := goodIn_r _ [98, 1, 99, 100, 101, 102, 103, 104, 105, 106, 107, 108, 109, 110, 111, 112, 113, 114, 115, 116] (by decide +kernel) (by decide +kernel)
set_option maxRecDepth 20000 in
theorem gX4_ifFlipped_X4_fails : GoodIn wsX4_ifFlipped (wsV RX4 128 RX4 yX4_fails wsX4_fails) := goodIn_app (goodIn_of _ (by decide +kernel)) ggX4_ifFlipped_X4_fails
theorem dX4_ifFlipped_0 : decode cX4_ifFlipped 0 = .ok (.aload_n 0, 1) := by decide +kernel
theorem dX4_ifFlipped_1 : decode cX4_ifFlipped 1 = .ok (.iconst 0, 1) := by decide +kernel
theorem dX4_ifFlipped_2 : decode cX4_ifFlipped 2 = .ok (.putfield 40, 3) := by decide +kernel
theorem dX4_ifFlipped_5 : decode cX4_ifFlipped 5 = .ok (.aload_n 0, 1) := by decide +kernel
theorem dX4_ifFlipped_6 : decode cX4_ifFlipped 6 = .ok (.iload_n 1, 1) := by decide +kernel
theorem dX4_ifFlipped_7 : decode cX4_ifFlipped 7 = .ok (.invokevirtual 137, 3) := by decide +kernel
theorem dX4_ifFlipped_10 : decode cX4_ifFlipped 10 = .ok (.ifCond .eq 11, 3) := by decide +kernel
theorem dX4_ifFlipped_13 : decode cX4_ifFlipped 13 = .ok (.aload_n 0, 1) := by decide +kernel
theorem dX4_ifFlipped_14 : decode cX4_ifFlipped 14 = .ok (.iload_n 1, 1) := by decide +kernel
theorem dX4_ifFlipped_15 : decode cX4_ifFlipped 15 = .ok (.invokevirtual 207, 3) := by decide +kernel
theorem dX4_ifFlipped_18 : decode cX4_ifFlipped 18 = .ok (.goto 8, 3) := by decide +kernel
theorem dX4_ifFlipped_21 : decode cX4_ifFlipped 21 = .ok (.aload_n 0, 1) := by decide +kernel
theorem dX4_ifFlipped_22 : decode cX4_ifFlipped 22 = .ok (.iconst 1, 1) := by decide +kernel
theorem dX4_ifFlipped_23 : decode cX4_ifFlipped 23 = .ok (.invokevirtual 128, 3) := by decide +kernel
theorem dX4_ifFlipped_26 : decode cX4_ifFlipped 26 = .ok (.ireturn, 1) := by decide +kernel
set_option maxRecDepth 20000 in
theorem ggX4_withPaths_X4_readMessage : GoodIn wsX4_withPaths wsX4_readMessage := goodIn_r _ [6, 7, 8, 9, 10, 5, 11, 12, 13, 14, 15, 16, 17, 1, 18, 19, 20, 21, 22, 23, 24, 25, 26, 27, 28, 29, 30, 31, 32, 33, 34, 35, 36, 37, 38, 39, 40, 41, 42, 43, 44, 45, 46, 47, 48, 49, 50, 51, 52, 53, 54, 55, 56, 57, 58, 59, 60, 61, 62, 63, 64, 65, 66, 67, 68, 69, 70, 71, 72, 73, 74, 75, 76, 77, 78, 79, 80, 81, 82, 83, 84, 85, 86, 87, 88, 89, 90, 91, 92, 93, 94, 95, 96, 97, 98, 99, 100] (by decide +kernel) (by decide +kernel)
set_option maxRecDepth 20000 in
theorem gX4_withPaths_X4_readMessage : GoodIn wsX4_withPaths (wsV RX4 204 RX4 yX4_readMessage wsX4_readMessage) := goodIn_app (goodIn_of _ (by decide +kernel)) ggX4_withPaths_X4_readMessage
theorem dX4_withPaths_0 : decode cX4_withPaths 0 = .ok (.aload_n 0, 1) := by decide +kernel
theorem dX4_withPaths_1 : decode cX4_withPaths 1 = .ok (.getfield 7, 3) := by decide +kernel
theorem dX4_withPaths_4 : decode cX4_withPaths 4 = .ok (.iconst 3, 1) := by decide +kernel
theorem dX4_withPaths_5 : decode cX4_withPaths 5 = .ok (.iaload, 1) := by decide +kernel
theorem dX4_withPaths_6 : decode cX4_withPaths 6 = .ok (.istore_n 2, 1) := by decide +kernel
theorem dX4_withPaths_7 : decode cX4_withPaths 7 = .ok (.aload_n 0, 1) := by decide +kernel
theorem dX4_withPaths_8 : decode cX4_withPaths 8 = .ok (.getfield 7, 3) := by decide +kernel
theorem dX4_withPaths_11 : decode cX4_withPaths 11 = .ok (.iconst 3, 1) := by decide +kernel
theorem dX4_withPaths_12 : decode cX4_withPaths 12 = .ok (.iload_n 1, 1) := by decide +kernel
theorem dX4_withPaths_13 : decode cX4_withPaths 13 = .ok (.iastore, 1) := by decide +kernel
theorem dX4_withPaths_14 : decode cX4_withPaths 14 = .ok (.aload_n 0, 1) := by decide +kernel
theorem dX4_withPaths_15 : decode cX4_withPaths 15 = .ok (.invokevirtual 204, 3) := by decide +kernel
theorem dX4_withPaths_18 : decode cX4_withPaths 18 = .ok (.istore_n 3, 1) := by decide +kernel
theorem dX4_withPaths_19 : decode cX4_withPaths 19 = .ok (.aload_n 0, 1) := by decide +kernel
theorem dX4_withPaths_20 : decode cX4_withPaths 20 = .ok (.getfield 7, 3) := by decide +kernel
theorem dX4_withPaths_23 : decode cX4_withPaths 23 = .ok (.iconst 3, 1) := by decide +kernel
theorem dX4_withPaths_24 : decode cX4_withPaths 24 = .ok (.iload_n 2, 1) := by decide +kernel
theorem dX4_withPaths_25 : decode cX4_withPaths 25 = .ok (.iastore, 1) := by decide +kernel
theorem dX4_withPaths_26 : decode cX4_withPaths 26 = .ok (.iload_n 3, 1) := by decide +kernel
theorem dX4_withPaths_27 : decode cX4_withPaths 27 = .ok (.ireturn, 1) := by decide +kernel
set_option maxRecDepth 20000 in
theorem ggX4_ifPaths_X4_in : GoodIn wsX4_ifPaths wsX4_in := goodIn_r _ [5] (by decide +kernel) (by decide +kernel)
set_option maxRecDepth 20000 in
theorem gX4_ifPaths_X4_in : GoodIn wsX4_ifPaths (va_wsS RX4 44 yX4_in wsX4_in) := goodIn_app (goodIn_of _ (by decide +kernel)) ggX4_ifPaths_X4_in
set_option maxRecDepth 20000 in
theorem ggX4_ifPaths_X4_withPaths : GoodIn wsX4_ifPaths wsX4_withPaths := goodIn_r _ [9, 10, 11, 12, 13, 4, 14, 15, 16, 17, 18, 19, 20, 21, 22, 23, 24, 25, 26, 27, 28, 29, 30, 31, 32, 33, 34, 35, 36, 37, 38, 39, 40, 41, 42, 43, 44, 45, 46, 47, 48, 49, 50, 51, 52, 53, 54, 55, 56, 57, 58, 59, 60, 61, 62, 63, 64, 65, 66, 67, 68, 69, 70, 71, 72, 73, 74, 75, 76, 77, 78, 79, 80, 81, 82, 83, 84, 85, 86, 87, 88, 89, 90, 95, 96, 97, 98, 99, 100, 101, 102, 103, 104, 105, 106, 107, 108, 109, 110, 111, 112] (by decide +kernel) (by decide +kernel)
set_option maxRecDepth 20000 in
theorem gX4_ifPaths_X4_withPaths : GoodIn wsX4_ifPaths (wsV RX4 210 RX4 yX4_withPaths wsX4_withPaths) := goodIn_app (goodIn_of _ (by decide +kernel)) ggX4_ifPaths_X4_withPaths
set_option maxRecDepth 20000 in
theorem ggX4_ifPaths_X4_fails : GoodIn wsX4_ifPaths wsX4_fails := goodIn_r _ [94, 1, 95, 96, 97, 98, 99, 100, 101, 102, 103, 104, 105, 106, 107, 108, 109, 110, 111, 112] (by decide +kernel) (by decide +kernel)
set_option maxRecDepth 20000 in
theorem gX4_ifPaths_X4_fails : GoodIn wsX4_ifPaths (wsV RX4 128 RX4 yX4_fails wsX4_fails) := goodIn_app (goodIn_of _ (by decide +kernel)) ggX4_ifPaths_X4_fails
theorem dX4_ifPaths_0 : decode cX4_ifPaths 0 = .ok (.aload_n 0, 1) := by decide +kernel
theorem dX4_ifPaths_1 : decode cX4_ifPaths 1 = .ok (.iconst 0, 1) := by decide +kernel
theorem dX4_ifPaths_2 : decode cX4_ifPaths 2 = .ok (.putfield 40, 3) := by decide +kernel
theorem dX4_ifPaths_5 : decode cX4_ifPaths 5 = .ok (.iload_n 1, 1) := by decide +kernel
theorem dX4_ifPaths_6 : decode cX4_ifPaths 6 = .ok (.iconst 1, 1) := by decide +kernel
theorem dX4_ifPaths_7 : decode cX4_ifPaths 7 = .ok (.iconst 4, 1) := by decide +kernel
theorem dX4_ifPaths_8 : decode cX4_ifPaths 8 = .ok (.invokestatic 44, 3) := by decide +kernel
theorem dX4_ifPaths_11 : decode cX4_ifPaths 11 = .ok (.ifCond .eq 11, 3) := by decide +kernel
theorem dX4_ifPaths_14 : decode cX4_ifPaths 14 = .ok (.aload_n 0, 1) := by decide +kernel
theorem dX4_ifPaths_15 : decode cX4_ifPaths 15 = .ok (.iload_n 1, 1) := by decide +kernel
theorem dX4_ifPaths_16 : decode cX4_ifPaths 16 = .ok (.invokevirtual 210, 3) := by decide +kernel
theorem dX4_ifPaths_19 : decode cX4_ifPaths 19 = .ok (.goto 8, 3) := by decide +kernel
theorem dX4_ifPaths_22 : decode cX4_ifPaths 22 = .ok (.aload_n 0, 1) := by decide +kernel
theorem dX4_ifPaths_23 : decode cX4_ifPaths 23 = .ok (.iconst 1, 1) := by decide +kernel
theorem dX4_ifPaths_24 : decode cX4_ifPaths 24 = .ok (.invokevirtual 128, 3) := by decide +kernel
theorem dX4_ifPaths_27 : decode cX4_ifPaths 27 = .ok (.ireturn, 1) := by decide +kernel
set_option maxRecDepth 20000 in
theorem ggX4_weak_X4_readMessage : GoodIn wsX4_weak wsX4_readMessage := goodIn_r _ [6, 7, 8, 9, 10, 5, 11, 12, 13, 14, 15, 16, 17, 1, 18, 19, 20, 21, 22, 23, 24, 25, 26, 27, 28, 29, 30, 31, 32, 33, 34, 35, 36, 37, 38, 39, 40, 41, 42, 43, 44, 45, 46, 47, 48, 49, 50, 51, 52, 53, 54, 55, 56, 57, 58, 59, 60, 61, 62, 63, 64, 65, 66, 67, 68, 69, 70, 71, 72, 73, 74, 75, 76, 77, 78, 79, 80, 81, 82, 87, 88, 89, 90, 91, 92, 93, 94, 95, 96, 97, 98, 99, 100, 101, 102, 103, 104] (by decide +kernel) (by decide +kernel)
set_option maxRecDepth 20000 in
theorem gX4_weak_X4_readMessage : GoodIn wsX4_weak (wsV RX4 204 RX4 yX4_readMessage wsX4_readMessage) := goodIn_app (goodIn_of _ (by decide +kernel)) ggX4_weak_X4_readMessage
set_option maxRecDepth 20000 in
theorem ggX4_weak_X4_flipped : GoodIn wsX4_weak wsX4_flipped := goodIn_r _ [86, 1, 2, 3, 4, 5, 6, 7, 8, 9, 10, 11, 12, 13, 14, 15, 16, 17, 18, 19, 20, 21, 22, 23, 24, 25, 26, 27, 28, 29, 30, 31, 32, 33, 34, 35, 36, 37, 38, 39, 40, 41, 42, 43, 44, 45, 46, 47, 48, 49, 50, 51, 52, 53, 54, 55, 56, 57, 58, 59, 60, 61, 62, 63, 64, 65, 66, 67, 68, 69, 70, 71, 72, 73, 74, 75, 76, 77, 78, 79, 80, 81, 82, 87, 88, 89, 90, 91, 92, 93, 94, 95, 96, 97, 98, 99, 100, 101, 102, 103, 104] (by decide +kernel) (by decide +kernel)
set_option maxRecDepth 20000 in
theorem gX4_weak_X4_flipped : GoodIn wsX4_weak (wsV RX4 207 RX4 yX4_flipped wsX4_flipped) := goodIn_app (goodIn_of _ (by decide +kernel)) ggX4_weak_X4_flipped
theorem dX4_weak_0 : decode cX4_weak 0 = .ok (.aload_n 0, 1) := by decide +kernel
theorem dX4_weak_1 : decode cX4_weak 1 = .ok (.invokevirtual 204, 3) := by decide +kernel
theorem dX4_weak_4 : decode cX4_weak 4 = .ok (.istore_n 1, 1) := by decide +kernel
theorem dX4_weak_5 : decode cX4_weak 5 = .ok (.iconst 0, 1) := by decide +kernel
theorem dX4_weak_6 : decode cX4_weak 6 = .ok (.istore_n 2, 1) := by decide +kernel
theorem dX4_weak_7 : decode cX4_weak 7 = .ok (.iload_n 2, 1) := by decide +kernel
theorem dX4_weak_8 : decode cX4_weak 8 = .ok (.aload_n 0, 1) := by decide +kernel
theorem dX4_weak_9 : decode cX4_weak 9 = .ok (.getfield 7, 3) := by decide +kernel
theorem dX4_weak_12 : decode cX4_weak 12 = .ok (.iconst 0, 1) := by decide +kernel
theorem dX4_weak_13 : decode cX4_weak 13 = .ok (.iaload, 1) := by decide +kernel
theorem dX4_weak_14 : decode cX4_weak 14 = .ok (.if_icmp .ge 20, 3) := by decide +kernel
theorem dX4_weak_17 : decode cX4_weak 17 = .ok (.aload_n 0, 1) := by decide +kernel
theorem dX4_weak_18 : decode cX4_weak 18 = .ok (.iload_n 2, 1) := by decide +kernel
theorem dX4_weak_19 : decode cX4_weak 19 = .ok (.invokevirtual 207, 3) := by decide +kernel
theorem dX4_weak_22 : decode cX4_weak 22 = .ok (.iload_n 1, 1) := by decide +kernel
theorem dX4_weak_23 : decode cX4_weak 23 = .ok (.if_icmp .eq 5, 3) := by decide +kernel
theorem dX4_weak_26 : decode cX4_weak 26 = .ok (.iload_n 2, 1) := by decide +kernel
theorem dX4_weak_27 : decode cX4_weak 27 = .ok (.ireturn, 1) := by decide +kernel
theorem dX4_weak_28 : decode cX4_weak 28 = .ok (.iinc 2 1, 3) := by decide +kernel
theorem dX4_weak_31 : decode cX4_weak 31 = .ok (.goto (-24), 3) := by decide +kernel
theorem dX4_weak_34 : decode cX4_weak 34 = .ok (.iconst (-1), 1) := by decide +kernel
theorem dX4_weak_35 : decode cX4_weak 35 = .ok (.ireturn, 1) := by decide +kernel
set_option maxRecDepth 20000 in
theorem ggX4_weakest_X4_weak : GoodIn wsX4_weakest wsX4_weak := goodIn_r _ [6, 7, 8, 9, 10, 5, 11, 12, 13, 14, 15, 16, 17, 18, 19, 20, 21, 22, 23, 24, 25, 26, 27, 28, 29, 30, 31, 32, 33, 34, 35, 36, 37, 38, 39, 40, 41, 42, 43, 44, 45, 46, 47, 48, 49, 50, 51, 52, 53, 54, 55, 56, 57, 58, 59, 60, 61, 62, 63, 64, 65, 66, 67, 68, 69, 70, 71, 72, 73, 74, 75, 76, 77, 78, 79, 80, 81, 82, 83, 84, 85, 86, 87, 88, 89, 90, 91, 92, 93, 94, 95, 96, 97, 98, 99, 100, 101, 102, 103, 104, 105, 106, 107, 108, 109] (by decide +kernel) (by decide +kernel)
set_option maxRecDepth 20000 in
theorem gX4_weakest_X4_weak : GoodIn wsX4_weakest (wsV RX4 213 RX4 yX4_weak wsX4_weak) := goodIn_app (goodIn_of _ (by decide +kernel)) ggX4_weakest_X4_weak
theorem dX4_weakest_0 : decode cX4_weakest 0 = .ok (.aload_n 0, 1) := by decide +kernel
theorem dX4_weakest_1 : decode cX4_weakest 1 = .ok (.iconst 0, 1) := by decide +kernel
theorem dX4_weakest_2 : decode cX4_weakest 2 = .ok (.putfield 40, 3) := by decide +kernel
theorem dX4_weakest_5 : decode cX4_weakest 5 = .ok (.aload_n 0, 1) := by decide +kernel
theorem dX4_weakest_6 : decode cX4_weakest 6 = .ok (.invokevirtual 213, 3) := by decide +kernel
theorem dX4_weakest_9 : decode cX4_weakest 9 = .ok (.ireturn, 1) := by decide +kernel
set_option maxRecDepth 20000 in
theorem ggX4_borneMany_X4_readMessage : GoodIn wsX4_borneMany wsX4_readMessage := goodIn_r _ [6, 7, 8, 9, 10, 5, 11, 12, 13, 14, 15, 16, 17, 1, 18, 19, 20, 21, 22, 23, 24, 25, 26, 27, 28, 29, 30, 31, 32, 33, 34, 35, 36, 37, 38, 39, 40, 41, 42, 43, 44, 45, 46, 47, 48, 49, 50, 51, 52, 53, 54, 55, 56, 57, 58, 59, 60, 61, 62, 63, 64, 65, 66, 67, 68, 69, 70, 71, 72, 73, 74, 75, 76, 77, 78, 79, 80, 81, 82, 92, 93, 94, 95, 96, 97, 98, 99, 100, 101, 102, 103, 104, 105, 106, 107, 108, 109] (by decide +kernel) (by decide +kernel)
set_option maxRecDepth 20000 in
theorem gX4_borneMany_X4_readMessage : GoodIn wsX4_borneMany (wsV RX4 204 RX4 yX4_readMessage wsX4_readMessage) := goodIn_app (goodIn_of _ (by decide +kernel)) ggX4_borneMany_X4_readMessage
set_option maxRecDepth 20000 in
theorem ggX4_borneMany_X4_putAside : GoodIn wsX4_borneMany wsX4_putAside := goodIn_r _ [86, 87, 1, 92, 93, 94, 95, 96, 97, 98, 99, 100, 101, 102, 103, 104, 105, 106, 107, 108, 109] (by decide +kernel) (by decide +kernel)
set_option maxRecDepth 20000 in
theorem gX4_borneMany_X4_putAside : GoodIn wsX4_borneMany (wsV RX4 216 RX4 yX4_putAside wsX4_putAside) := goodIn_app (goodIn_of _ (by decide +kernel)) ggX4_borneMany_X4_putAside
set_option maxRecDepth 20000 in
theorem ggX4_borneMany_X4_takeBack : GoodIn wsX4_borneMany wsX4_takeBack := goodIn_r _ [91, 1, 87, 92, 93, 94, 95, 96, 97, 98, 99, 100, 101, 102, 103, 104, 105, 106, 107, 108, 109] (by decide +kernel) (by decide +kernel)
set_option maxRecDepth 20000 in
theorem gX4_borneMany_X4_takeBack : GoodIn wsX4_borneMany (wsV RX4 219 RX4 yX4_takeBack wsX4_takeBack) := goodIn_app (goodIn_of _ (by decide +kernel)) ggX4_borneMany_X4_takeBack
theorem dX4_borneMany_0 : decode cX4_borneMany 0 = .ok (.aload_n 0, 1) := by decide +kernel
theorem dX4_borneMany_1 : decode cX4_borneMany 1 = .ok (.invokevirtual 204, 3) := by decide +kernel
theorem dX4_borneMany_4 : decode cX4_borneMany 4 = .ok (.istore_n 1, 1) := by decide +kernel
theorem dX4_borneMany_5 : decode cX4_borneMany 5 = .ok (.aload_n 0, 1) := by decide +kernel
theorem dX4_borneMany_6 : decode cX4_borneMany 6 = .ok (.invokevirtual 216, 3) := by decide +kernel
theorem dX4_borneMany_9 : decode cX4_borneMany 9 = .ok (.iconst 0, 1) := by decide +kernel
theorem dX4_borneMany_10 : decode cX4_borneMany 10 = .ok (.istore_n 2, 1) := by decide +kernel
theorem dX4_borneMany_11 : decode cX4_borneMany 11 = .ok (.iconst 1, 1) := by decide +kernel
theorem dX4_borneMany_12 : decode cX4_borneMany 12 = .ok (.istore_n 3, 1) := by decide +kernel
theorem dX4_borneMany_13 : decode cX4_borneMany 13 = .ok (.iload_n 3, 1) := by decide +kernel
theorem dX4_borneMany_14 : decode cX4_borneMany 14 = .ok (.ifCond .eq 61, 3) := by decide +kernel
theorem dX4_borneMany_17 : decode cX4_borneMany 17 = .ok (.iload_n 2, 1) := by decide +kernel
theorem dX4_borneMany_18 : decode cX4_borneMany 18 = .ok (.aload_n 0, 1) := by decide +kernel
theorem dX4_borneMany_19 : decode cX4_borneMany 19 = .ok (.getfield 7, 3) := by decide +kernel
theorem dX4_borneMany_22 : decode cX4_borneMany 22 = .ok (.iconst 0, 1) := by decide +kernel
theorem dX4_borneMany_23 : decode cX4_borneMany 23 = .ok (.iaload, 1) := by decide +kernel
theorem dX4_borneMany_24 : decode cX4_borneMany 24 = .ok (.if_icmp .ge 51, 3) := by decide +kernel
theorem dX4_borneMany_27 : decode cX4_borneMany 27 = .ok (.aload_n 0, 1) := by decide +kernel
theorem dX4_borneMany_28 : decode cX4_borneMany 28 = .ok (.getfield 7, 3) := by decide +kernel
theorem dX4_borneMany_31 : decode cX4_borneMany 31 = .ok (.bipush 6, 2) := by decide +kernel
theorem dX4_borneMany_33 : decode cX4_borneMany 33 = .ok (.iload_n 2, 1) := by decide +kernel
theorem dX4_borneMany_34 : decode cX4_borneMany 34 = .ok (.iadd, 1) := by decide +kernel
theorem dX4_borneMany_35 : decode cX4_borneMany 35 = .ok (.aload_n 0, 1) := by decide +kernel
theorem dX4_borneMany_36 : decode cX4_borneMany 36 = .ok (.getfield 7, 3) := by decide +kernel
theorem dX4_borneMany_39 : decode cX4_borneMany 39 = .ok (.bipush 6, 2) := by decide +kernel
theorem dX4_borneMany_41 : decode cX4_borneMany 41 = .ok (.iload_n 2, 1) := by decide +kernel
theorem dX4_borneMany_42 : decode cX4_borneMany 42 = .ok (.iadd, 1) := by decide +kernel
theorem dX4_borneMany_43 : decode cX4_borneMany 43 = .ok (.iaload, 1) := by decide +kernel
theorem dX4_borneMany_44 : decode cX4_borneMany 44 = .ok (.ineg, 1) := by decide +kernel
theorem dX4_borneMany_45 : decode cX4_borneMany 45 = .ok (.iastore, 1) := by decide +kernel
theorem dX4_borneMany_46 : decode cX4_borneMany 46 = .ok (.aload_n 0, 1) := by decide +kernel
theorem dX4_borneMany_47 : decode cX4_borneMany 47 = .ok (.invokevirtual 204, 3) := by decide +kernel
theorem dX4_borneMany_50 : decode cX4_borneMany 50 = .ok (.iload_n 1, 1) := by decide +kernel
theorem dX4_borneMany_51 : decode cX4_borneMany 51 = .ok (.if_icmp .ne 7, 3) := by decide +kernel
theorem dX4_borneMany_54 : decode cX4_borneMany 54 = .ok (.iconst 1, 1) := by decide +kernel
theorem dX4_borneMany_55 : decode cX4_borneMany 55 = .ok (.goto 4, 3) := by decide +kernel
theorem dX4_borneMany_58 : decode cX4_borneMany 58 = .ok (.iconst 0, 1) := by decide +kernel
theorem dX4_borneMany_59 : decode cX4_borneMany 59 = .ok (.istore_n 3, 1) := by decide +kernel
theorem dX4_borneMany_60 : decode cX4_borneMany 60 = .ok (.iload_n 2, 1) := by decide +kernel
theorem dX4_borneMany_61 : decode cX4_borneMany 61 = .ok (.iload_n 3, 1) := by decide +kernel
theorem dX4_borneMany_62 : decode cX4_borneMany 62 = .ok (.ifCond .eq 7, 3) := by decide +kernel
theorem dX4_borneMany_65 : decode cX4_borneMany 65 = .ok (.iconst 1, 1) := by decide +kernel
theorem dX4_borneMany_66 : decode cX4_borneMany 66 = .ok (.goto 4, 3) := by decide +kernel
theorem dX4_borneMany_69 : decode cX4_borneMany 69 = .ok (.iconst 0, 1) := by decide +kernel
theorem dX4_borneMany_70 : decode cX4_borneMany 70 = .ok (.iadd, 1) := by decide +kernel
theorem dX4_borneMany_71 : decode cX4_borneMany 71 = .ok (.istore_n 2, 1) := by decide +kernel
theorem dX4_borneMany_72 : decode cX4_borneMany 72 = .ok (.goto (-59), 3) := by decide +kernel
theorem dX4_borneMany_75 : decode cX4_borneMany 75 = .ok (.aload_n 0, 1) := by decide +kernel
theorem dX4_borneMany_76 : decode cX4_borneMany 76 = .ok (.invokevirtual 219, 3) := by decide +kernel
theorem dX4_borneMany_79 : decode cX4_borneMany 79 = .ok (.iload_n 2, 1) := by decide +kernel
theorem dX4_borneMany_80 : decode cX4_borneMany 80 = .ok (.ireturn, 1) := by decide +kernel
set_option maxRecDepth 20000 in
theorem ggX4_borne_X4_borneMany : GoodIn wsX4_borne wsX4_borneMany := goodIn_r _ [6, 7, 8, 9, 10, 5, 11, 12, 13, 14, 15, 16, 17, 18, 19, 20, 21, 22, 23, 24, 25, 26, 27, 28, 29, 30, 31, 32, 33, 34, 35, 36, 37, 38, 39, 40, 41, 42, 43, 44, 45, 46, 47, 48, 49, 50, 51, 52, 53, 54, 55, 56, 57, 58, 59, 60, 61, 62, 63, 64, 65, 66, 67, 68, 69, 70, 71, 72, 73, 74, 75, 76, 77, 78, 79, 80, 81, 82, 83, 84, 85, 86, 87, 88, 89, 90, 91, 92, 93, 94, 95, 96, 97, 98, 99, 100, 101, 102, 103, 104, 105, 106, 107, 108, 109, 110, 111, 112, 113, 114] (by decide +kernel) (by decide +kernel)
set_option maxRecDepth 20000 in
theorem gX4_borne_X4_borneMany : GoodIn wsX4_borne (wsV RX4 222 RX4 yX4_borneMany wsX4_borneMany) := goodIn_app (goodIn_of _ (by decide +kernel)) ggX4_borne_X4_borneMany
theorem dX4_borne_0 : decode cX4_borne 0 = .ok (.aload_n 0, 1) := by decide +kernel
theorem dX4_borne_1 : decode cX4_borne 1 = .ok (.iconst 0, 1) := by decide +kernel
theorem dX4_borne_2 : decode cX4_borne 2 = .ok (.putfield 40, 3) := by decide +kernel
theorem dX4_borne_5 : decode cX4_borne 5 = .ok (.aload_n 0, 1) := by decide +kernel
theorem dX4_borne_6 : decode cX4_borne 6 = .ok (.invokevirtual 222, 3) := by decide +kernel
theorem dX4_borne_9 : decode cX4_borne 9 = .ok (.ireturn, 1) := by decide +kernel
set_option maxRecDepth 20000 in
theorem ggX4_share_X4_isOpen : GoodIn wsX4_share wsX4_isOpen := goodIn_r _ [7, 1, 19, 20, 21, 22, 23, 24, 25, 26, 27, 28, 29, 30, 31, 32, 33, 34, 35, 36] (by decide +kernel) (by decide +kernel)
set_option maxRecDepth 20000 in
theorem gX4_share_X4_isOpen : GoodIn wsX4_share (wsV RX4 51 RX4 yX4_isOpen wsX4_isOpen) := goodIn_app (goodIn_of _ (by decide +kernel)) ggX4_share_X4_isOpen
set_option maxRecDepth 20000 in
theorem ggX4_share_X4_unsure : GoodIn wsX4_share wsX4_unsure := goodIn_r _ [11, 12, 1, 13, 14, 19, 20, 21, 22, 23, 24, 25, 26, 27, 28, 29, 30, 31, 32, 33, 34, 35, 36] (by decide +kernel) (by decide +kernel)
set_option maxRecDepth 20000 in
theorem gX4_share_X4_unsure : GoodIn wsX4_share (wsV RX4 68 RX4 yX4_unsure wsX4_unsure) := goodIn_app (goodIn_of _ (by decide +kernel)) ggX4_share_X4_unsure
set_option maxRecDepth 20000 in
theorem ggX4_share_X4_openMany : GoodIn wsX4_share wsX4_openMany := goodIn_r _ [18, 1, 3, 4, 5, 6, 7, 19, 20, 21, 22, 23, 24, 25, 26, 27, 28, 29, 30, 31, 32, 33, 34, 35, 36] (by decide +kernel) (by decide +kernel)
set_option maxRecDepth 20000 in
theorem gX4_share_X4_openMany : GoodIn wsX4_share (wsV RX4 55 RX4 yX4_openMany wsX4_openMany) := goodIn_app (goodIn_of _ (by decide +kernel)) ggX4_share_X4_openMany
theorem dX4_share_0 : decode cX4_share 0 = .ok (.lconst 0, 1) := by decide +kernel
theorem dX4_share_1 : decode cX4_share 1 = .ok (.lstore_n 1, 1) := by decide +kernel
theorem dX4_share_2 : decode cX4_share 2 = .ok (.iconst 0, 1) := by decide +kernel
theorem dX4_share_3 : decode cX4_share 3 = .ok (.istore_n 3, 1) := by decide +kernel
theorem dX4_share_4 : decode cX4_share 4 = .ok (.iload_n 3, 1) := by decide +kernel
theorem dX4_share_5 : decode cX4_share 5 = .ok (.aload_n 0, 1) := by decide +kernel
theorem dX4_share_6 : decode cX4_share 6 = .ok (.getfield 7, 3) := by decide +kernel
theorem dX4_share_9 : decode cX4_share 9 = .ok (.iconst 0, 1) := by decide +kernel
theorem dX4_share_10 : decode cX4_share 10 = .ok (.iaload, 1) := by decide +kernel
theorem dX4_share_11 : decode cX4_share 11 = .ok (.if_icmp .ge 30, 3) := by decide +kernel
theorem dX4_share_14 : decode cX4_share 14 = .ok (.lload_n 1, 1) := by decide +kernel
theorem dX4_share_15 : decode cX4_share 15 = .ok (.aload_n 0, 1) := by decide +kernel
theorem dX4_share_16 : decode cX4_share 16 = .ok (.iload_n 3, 1) := by decide +kernel
theorem dX4_share_17 : decode cX4_share 17 = .ok (.invokevirtual 51, 3) := by decide +kernel
theorem dX4_share_20 : decode cX4_share 20 = .ok (.ifCond .eq 12, 3) := by decide +kernel
theorem dX4_share_23 : decode cX4_share 23 = .ok (.aload_n 0, 1) := by decide +kernel
theorem dX4_share_24 : decode cX4_share 24 = .ok (.iload_n 3, 1) := by decide +kernel
theorem dX4_share_25 : decode cX4_share 25 = .ok (.invokevirtual 68, 3) := by decide +kernel
theorem dX4_share_28 : decode cX4_share 28 = .ok (.i2l, 1) := by decide +kernel
theorem dX4_share_29 : decode cX4_share 29 = .ok (.goto 4, 3) := by decide +kernel
theorem dX4_share_32 : decode cX4_share 32 = .ok (.lconst 0, 1) := by decide +kernel
theorem dX4_share_33 : decode cX4_share 33 = .ok (.ladd, 1) := by decide +kernel
theorem dX4_share_34 : decode cX4_share 34 = .ok (.lstore_n 1, 1) := by decide +kernel
theorem dX4_share_35 : decode cX4_share 35 = .ok (.iinc 3 1, 3) := by decide +kernel
theorem dX4_share_38 : decode cX4_share 38 = .ok (.goto (-34), 3) := by decide +kernel
theorem dX4_share_41 : decode cX4_share 41 = .ok (.aload_n 0, 1) := by decide +kernel
theorem dX4_share_42 : decode cX4_share 42 = .ok (.invokevirtual 55, 3) := by decide +kernel
theorem dX4_share_45 : decode cX4_share 45 = .ok (.istore_n 3, 1) := by decide +kernel
theorem dX4_share_46 : decode cX4_share 46 = .ok (.iload_n 3, 1) := by decide +kernel
theorem dX4_share_47 : decode cX4_share 47 = .ok (.ifCond .ne 7, 3) := by decide +kernel
theorem dX4_share_50 : decode cX4_share 50 = .ok (.dconst 0, 1) := by decide +kernel
theorem dX4_share_51 : decode cX4_share 51 = .ok (.goto 12, 3) := by decide +kernel
theorem dX4_share_54 : decode cX4_share 54 = .ok (.lload_n 1, 1) := by decide +kernel
theorem dX4_share_55 : decode cX4_share 55 = .ok (.l2d, 1) := by decide +kernel
theorem dX4_share_56 : decode cX4_share 56 = .ok (.ldc2_w 225, 3) := by decide +kernel
theorem dX4_share_59 : decode cX4_share 59 = .ok (.iload_n 3, 1) := by decide +kernel
theorem dX4_share_60 : decode cX4_share 60 = .ok (.i2d, 1) := by decide +kernel
theorem dX4_share_61 : decode cX4_share 61 = .ok (.dmul, 1) := by decide +kernel
theorem dX4_share_62 : decode cX4_share 62 = .ok (.ddiv, 1) := by decide +kernel
theorem dX4_share_63 : decode cX4_share 63 = .ok (.dreturn, 1) := by decide +kernel
set_option maxRecDepth 20000 in
theorem ggX4_unsureShare_X4_share : GoodIn wsX4_unsureShare wsX4_share := goodIn_r _ [6, 7, 8, 9, 10, 11, 5, 12, 13, 14, 15, 16, 17, 18, 19, 20, 21, 22, 23, 24, 25, 26, 27, 28, 29, 30, 31, 32, 33, 34, 35, 36, 37, 38, 39, 40, 41] (by decide +kernel) (by decide +kernel)
set_option maxRecDepth 20000 in
theorem gX4_unsureShare_X4_share : GoodIn wsX4_unsureShare (wsV RX4 227 RX4 yX4_share wsX4_share) := goodIn_app (goodIn_of _ (by decide +kernel)) ggX4_unsureShare_X4_share
theorem dX4_unsureShare_0 : decode cX4_unsureShare 0 = .ok (.aload_n 0, 1) := by decide +kernel
theorem dX4_unsureShare_1 : decode cX4_unsureShare 1 = .ok (.iconst 0, 1) := by decide +kernel
theorem dX4_unsureShare_2 : decode cX4_unsureShare 2 = .ok (.putfield 40, 3) := by decide +kernel
theorem dX4_unsureShare_5 : decode cX4_unsureShare 5 = .ok (.aload_n 0, 1) := by decide +kernel
theorem dX4_unsureShare_6 : decode cX4_unsureShare 6 = .ok (.invokevirtual 227, 3) := by decide +kernel
theorem dX4_unsureShare_9 : decode cX4_unsureShare 9 = .ok (.dreturn, 1) := by decide +kernel
theorem dX4_hashes_0 : decode cX4_hashes 0 = .ok (.aload_n 0, 1) := by decide +kernel
theorem dX4_hashes_1 : decode cX4_hashes 1 = .ok (.ldc2_w 231, 3) := by decide +kernel
theorem dX4_hashes_4 : decode cX4_hashes 4 = .ok (.aload_n 0, 1) := by decide +kernel
theorem dX4_hashes_5 : decode cX4_hashes 5 = .ok (.getfield 233, 3) := by decide +kernel
theorem dX4_hashes_8 : decode cX4_hashes 8 = .ok (.lmul, 1) := by decide +kernel
theorem dX4_hashes_9 : decode cX4_hashes 9 = .ok (.lload_n 1, 1) := by decide +kernel
theorem dX4_hashes_10 : decode cX4_hashes 10 = .ok (.ladd, 1) := by decide +kernel
theorem dX4_hashes_11 : decode cX4_hashes 11 = .ok (.putfield 233, 3) := by decide +kernel
theorem dX4_hashes_14 : decode cX4_hashes 14 = .ok (.return_, 1) := by decide +kernel
set_option maxRecDepth 20000 in
theorem ggX4_digest_X4_counts : GoodIn wsX4_digest wsX4_counts := goodIn_r _ [12, 4, 13, 14, 15, 16, 17, 11, 18, 19, 20, 21, 22, 23, 24, 25, 26, 27, 28, 29, 30, 31, 32, 33, 34, 35, 36, 37, 38, 39, 40, 41, 42, 43, 44, 45, 46, 47, 48, 49, 50, 51, 52, 53, 54, 55, 56, 57, 58, 59, 60, 61, 62, 63, 64, 65, 66, 67, 68, 69, 70, 71, 72, 73, 74, 75, 76, 77, 78, 79, 80, 81, 82, 83, 84, 85, 86, 87, 88, 89, 90, 91, 92, 93, 192, 193, 194, 195, 196, 197, 198, 199, 200, 201, 202, 203, 204, 205, 206, 207, 208, 209] (by decide +kernel) (by decide +kernel)
set_option maxRecDepth 20000 in
theorem gX4_digest_X4_counts : GoodIn wsX4_digest (wsV RX4 201 RX4 yX4_counts wsX4_counts) := goodIn_app (goodIn_of _ (by decide +kernel)) ggX4_digest_X4_counts
set_option maxRecDepth 20000 in
theorem ggX4_digest_X4_hashes : GoodIn wsX4_digest wsX4_hashes := goodIn_r _ [97, 98, 3, 192, 193, 194, 195, 196, 197, 198, 199, 200, 201, 202, 203, 204, 205, 206, 207, 208, 209] (by decide +kernel) (by decide +kernel)
set_option maxRecDepth 20000 in
theorem gX4_digest_X4_hashes : GoodIn wsX4_digest (wsV RX4 239 RX4 yX4_hashes wsX4_hashes) := goodIn_app (goodIn_of _ (by decide +kernel)) ggX4_digest_X4_hashes
set_option maxRecDepth 20000 in
theorem ggX4_digest_X4_tellsPlace : GoodIn wsX4_digest wsX4_tellsPlace := goodIn_r _ [102, 4, 19, 20, 21, 11, 22, 103, 104, 105, 106, 107, 108, 109, 110, 111, 112, 113, 114, 115, 116, 117, 23, 24, 25, 26, 15, 16, 17, 18, 27, 28, 29, 30, 192, 193, 194, 195, 196, 197, 198, 199, 200, 201, 202, 203, 204, 205, 206, 207, 208, 209] (by decide +kernel) (by decide +kernel)
set_option maxRecDepth 20000 in
theorem gX4_digest_X4_tellsPlace : GoodIn wsX4_digest (wsV RX4 178 RX4 yX4_tellsPlace wsX4_tellsPlace) := goodIn_app (goodIn_of _ (by decide +kernel)) ggX4_digest_X4_tellsPlace
set_option maxRecDepth 20000 in
theorem ggX4_digest_X4_hearsFirst : GoodIn wsX4_digest wsX4_hearsFirst := goodIn_r _ [121, 42, 38, 39, 40, 11, 41, 13, 43, 4, 44, 45, 46, 47, 48, 49, 50, 51, 52, 53, 54, 55, 56, 57, 58, 59, 60, 61, 62, 35, 36, 37, 63, 64, 65, 66, 67, 68, 69, 19, 20, 21, 22, 70, 71, 72, 73, 74, 75, 76, 77, 192, 193, 194, 195, 196, 197, 198, 199, 200, 201, 202, 203, 204, 205, 206, 207, 208, 209] (by decide +kernel) (by decide +kernel)
set_option maxRecDepth 20000 in
theorem gX4_digest_X4_hearsFirst : GoodIn wsX4_digest (wsV RX4 191 RX4 yX4_hearsFirst wsX4_hearsFirst) := goodIn_app (goodIn_of _ (by decide +kernel)) ggX4_digest_X4_hearsFirst
set_option maxRecDepth 20000 in
theorem ggX4_digest_X4_flipped : GoodIn wsX4_digest wsX4_flipped := goodIn_r _ [125, 4, 126, 127, 128, 11, 129, 42, 130, 131, 132, 133, 13, 38, 39, 40, 41, 43, 44, 45, 46, 47, 48, 49, 50, 51, 52, 53, 54, 55, 56, 57, 58, 59, 60, 61, 62, 35, 36, 37, 63, 64, 65, 66, 67, 68, 69, 19, 20, 21, 22, 70, 71, 72, 73, 74, 75, 76, 77, 82, 83, 84, 85, 86, 87, 88, 89, 23, 24, 25, 26, 15, 16, 17, 18, 27, 28, 29, 30, 90, 91, 92, 93, 192, 193, 194, 195, 196, 197, 198, 199, 200, 201, 202, 203, 204, 205, 206, 207, 208, 209] (by decide +kernel) (by decide +kernel)
set_option maxRecDepth 20000 in
theorem gX4_digest_X4_flipped : GoodIn wsX4_digest (wsV RX4 207 RX4 yX4_flipped wsX4_flipped) := goodIn_app (goodIn_of _ (by decide +kernel)) ggX4_digest_X4_flipped
set_option maxRecDepth 20000 in
theorem ggX4_digest_X4_tellsRead : GoodIn wsX4_digest wsX4_tellsRead := goodIn_r _ [137, 42, 43, 4, 130, 131, 132, 11, 133, 13, 38, 39, 40, 41, 44, 45, 46, 47, 48, 49, 50, 51, 52, 53, 54, 55, 56, 57, 58, 59, 60, 61, 62, 35, 36, 37, 63, 64, 65, 66, 67, 68, 69, 19, 20, 21, 22, 70, 71, 72, 73, 74, 75, 76, 77, 82, 83, 84, 85, 86, 87, 88, 89, 23, 24, 25, 26, 15, 16, 17, 18, 27, 28, 29, 30, 90, 91, 92, 93, 138, 139, 140, 141, 192, 193, 194, 195, 196, 197, 198, 199, 200, 201, 202, 203, 204, 205, 206, 207, 208, 209] (by decide +kernel) (by decide +kernel)
set_option maxRecDepth 20000 in
theorem gX4_digest_X4_tellsRead : GoodIn wsX4_digest (wsV RX4 185 RX4 yX4_tellsRead wsX4_tellsRead) := goodIn_app (goodIn_of _ (by decide +kernel)) ggX4_digest_X4_tellsRead
set_option maxRecDepth 20000 in
theorem ggX4_digest_X4_tellsPath : GoodIn wsX4_digest wsX4_tellsPath := goodIn_r _ [145, 13, 42, 43, 38, 39, 40, 11, 41, 4, 44, 45, 46, 47, 48, 49, 50, 51, 52, 53, 54, 55, 56, 57, 58, 59, 60, 61, 62, 35, 36, 37, 63, 64, 65, 66, 67, 68, 69, 19, 20, 21, 22, 70, 71, 72, 73, 74, 75, 76, 77, 82, 83, 84, 85, 86, 87, 88, 89, 23, 24, 25, 26, 15, 16, 17, 18, 27, 28, 29, 30, 90, 91, 92, 93, 192, 193, 194, 195, 196, 197, 198, 199, 200, 201, 202, 203, 204, 205, 206, 207, 208, 209] (by decide +kernel) (by decide +kernel)
set_option maxRecDepth 20000 in
theorem gX4_digest_X4_tellsPath : GoodIn wsX4_digest (wsV RX4 188 RX4 yX4_tellsPath wsX4_tellsPath) := goodIn_app (goodIn_of _ (by decide +kernel)) ggX4_digest_X4_tellsPath
set_option maxRecDepth 20000 in
theorem ggX4_digest_X4_coded : GoodIn wsX4_digest wsX4_coded := goodIn_r _ [65] (by decide +kernel) (by decide +kernel)
set_option maxRecDepth 20000 in
theorem gX4_digest_X4_coded : GoodIn wsX4_digest (va_wsS RX4 81 yX4_coded wsX4_coded) := goodIn_app (goodIn_of _ (by decide +kernel)) ggX4_digest_X4_coded
set_option maxRecDepth 20000 in
theorem ggX4_digest_X4_wordOf : GoodIn wsX4_digest wsX4_wordOf := goodIn_r _ [149, 4, 90, 91, 92, 11, 93, 23, 24, 25, 26, 15, 16, 17, 18, 19, 20, 21, 22, 27, 28, 29, 30, 150, 151, 152, 153, 63, 64, 65, 192, 193, 194, 195, 196, 197, 198, 199, 200, 201, 202, 203, 204, 205, 206, 207, 208, 209] (by decide +kernel) (by decide +kernel)
set_option maxRecDepth 20000 in
theorem gX4_digest_X4_wordOf : GoodIn wsX4_digest (wsV RX4 147 RX4 yX4_wordOf wsX4_wordOf) := goodIn_app (goodIn_of _ (by decide +kernel)) ggX4_digest_X4_wordOf
set_option maxRecDepth 20000 in
theorem ggX4_digest_X4_withPaths : GoodIn wsX4_digest wsX4_withPaths := goodIn_r _ [157, 4, 126, 127, 128, 11, 129, 42, 130, 131, 132, 133, 13, 38, 39, 40, 41, 43, 44, 45, 46, 47, 48, 49, 50, 51, 52, 53, 54, 55, 56, 57, 58, 59, 60, 61, 62, 35, 36, 37, 63, 64, 65, 66, 67, 68, 69, 19, 20, 21, 22, 70, 71, 72, 73, 74, 75, 76, 77, 82, 83, 84, 85, 86, 87, 88, 89, 23, 24, 25, 26, 15, 16, 17, 18, 27, 28, 29, 30, 90, 91, 92, 93, 192, 193, 194, 195, 196, 197, 198, 199, 200, 201, 202, 203, 204, 205, 206, 207, 208, 209] (by decide +kernel) (by decide +kernel)
set_option maxRecDepth 20000 in
theorem gX4_digest_X4_withPaths : GoodIn wsX4_digest (wsV RX4 210 RX4 yX4_withPaths wsX4_withPaths) := goodIn_app (goodIn_of _ (by decide +kernel)) ggX4_digest_X4_withPaths
set_option maxRecDepth 20000 in
theorem ggX4_digest_X4_weak : GoodIn wsX4_digest wsX4_weak := goodIn_r _ [161, 4, 126, 127, 128, 11, 129, 42, 130, 131, 132, 133, 13, 38, 39, 40, 41, 43, 44, 45, 46, 47, 48, 49, 50, 51, 52, 53, 54, 55, 56, 57, 58, 59, 60, 61, 62, 35, 36, 37, 63, 64, 65, 66, 67, 68, 69, 19, 20, 21, 22, 70, 71, 72, 73, 74, 75, 76, 77, 82, 83, 84, 85, 86, 87, 88, 89, 23, 24, 25, 26, 15, 16, 17, 18, 27, 28, 29, 30, 90, 91, 92, 93, 122, 123, 124, 125, 192, 193, 194, 195, 196, 197, 198, 199, 200, 201, 202, 203, 204, 205, 206, 207, 208, 209] (by decide +kernel) (by decide +kernel)
set_option maxRecDepth 20000 in
theorem gX4_digest_X4_weak : GoodIn wsX4_digest (wsV RX4 213 RX4 yX4_weak wsX4_weak) := goodIn_app (goodIn_of _ (by decide +kernel)) ggX4_digest_X4_weak
set_option maxRecDepth 20000 in
theorem ggX4_digest_X4_borneMany : GoodIn wsX4_digest wsX4_borneMany := goodIn_r _ [165, 4, 126, 127, 128, 11, 129, 42, 130, 131, 132, 133, 13, 38, 39, 40, 41, 43, 44, 45, 46, 47, 48, 49, 50, 51, 52, 53, 54, 55, 56, 57, 58, 59, 60, 61, 62, 35, 36, 37, 63, 64, 65, 66, 67, 68, 69, 19, 20, 21, 22, 70, 71, 72, 73, 74, 75, 76, 77, 82, 83, 84, 85, 86, 87, 88, 89, 23, 24, 25, 26, 15, 16, 17, 18, 27, 28, 29, 30, 90, 91, 92, 93, 166, 167, 168, 169, 170, 171, 172, 173, 174, 192, 193, 194, 195, 196, 197, 198, 199, 200, 201, 202, 203, 204, 205, 206, 207, 208, 209] (by decide +kernel) (by decide +kernel)
set_option maxRecDepth 20000 in
theorem gX4_digest_X4_borneMany : GoodIn wsX4_digest (wsV RX4 222 RX4 yX4_borneMany wsX4_borneMany) := goodIn_app (goodIn_of _ (by decide +kernel)) ggX4_digest_X4_borneMany
set_option maxRecDepth 20000 in
theorem ggX4_digest_X4_share : GoodIn wsX4_digest wsX4_share := goodIn_r _ [178, 4, 179, 19, 20, 21, 11, 22, 103, 104, 105, 106, 107, 108, 109, 15, 16, 17, 18, 192, 193, 194, 195, 196, 197, 198, 199, 200, 201, 202, 203, 204, 205, 206, 207, 208, 209] (by decide +kernel) (by decide +kernel)
set_option maxRecDepth 20000 in
theorem gX4_digest_X4_share : GoodIn wsX4_digest (wsV RX4 227 RX4 yX4_share wsX4_share) := goodIn_app (goodIn_of _ (by decide +kernel)) ggX4_digest_X4_share
set_option maxRecDepth 20000 in
theorem ggX4_digest_Jxe99ae_doubleToLongBits_ccdee : GoodIn wsX4_digest wsJxe99ae_doubleToLongBits_ccdee := goodIn_r _ [183, 184, 185, 186, 187, 188, 189, 190, 182, 191] (by decide +kernel) (by decide +kernel)
set_option maxRecDepth 20000 in
theorem gX4_digest_Jxe99ae_doubleToLongBits_ccdee : GoodIn wsX4_digest (va_wsS RX4 244 yJxe99ae_doubleToLongBits_ccdee wsJxe99ae_doubleToLongBits_ccdee) := goodIn_app (goodIn_of _ (by decide +kernel)) ggX4_digest_Jxe99ae_doubleToLongBits_ccdee
theorem dX4_digest_0 : decode cX4_digest 0 = .ok (.aload_n 0, 1) := by decide +kernel
theorem dX4_digest_1 : decode cX4_digest 1 = .ok (.iconst 0, 1) := by decide +kernel
theorem dX4_digest_2 : decode cX4_digest 2 = .ok (.putfield 40, 3) := by decide +kernel
theorem dX4_digest_5 : decode cX4_digest 5 = .ok (.aload_n 0, 1) := by decide +kernel
theorem dX4_digest_6 : decode cX4_digest 6 = .ok (.ldc2_w 237, 3) := by decide +kernel
theorem dX4_digest_9 : decode cX4_digest 9 = .ok (.putfield 233, 3) := by decide +kernel
theorem dX4_digest_12 : decode cX4_digest 12 = .ok (.iconst 0, 1) := by decide +kernel
theorem dX4_digest_13 : decode cX4_digest 13 = .ok (.istore_n 1, 1) := by decide +kernel
theorem dX4_digest_14 : decode cX4_digest 14 = .ok (.iload_n 1, 1) := by decide +kernel
theorem dX4_digest_15 : decode cX4_digest 15 = .ok (.bipush 9, 2) := by decide +kernel
theorem dX4_digest_17 : decode cX4_digest 17 = .ok (.if_icmp .ge 19, 3) := by decide +kernel
theorem dX4_digest_20 : decode cX4_digest 20 = .ok (.aload_n 0, 1) := by decide +kernel
theorem dX4_digest_21 : decode cX4_digest 21 = .ok (.aload_n 0, 1) := by decide +kernel
theorem dX4_digest_22 : decode cX4_digest 22 = .ok (.iload_n 1, 1) := by decide +kernel
theorem dX4_digest_23 : decode cX4_digest 23 = .ok (.invokevirtual 201, 3) := by decide +kernel
theorem dX4_digest_26 : decode cX4_digest 26 = .ok (.i2l, 1) := by decide +kernel
theorem dX4_digest_27 : decode cX4_digest 27 = .ok (.invokevirtual 239, 3) := by decide +kernel
theorem dX4_digest_30 : decode cX4_digest 30 = .ok (.iinc 1 1, 3) := by decide +kernel
theorem dX4_digest_33 : decode cX4_digest 33 = .ok (.goto (-19), 3) := by decide +kernel
theorem dX4_digest_36 : decode cX4_digest 36 = .ok (.iconst 0, 1) := by decide +kernel
theorem dX4_digest_37 : decode cX4_digest 37 = .ok (.istore_n 1, 1) := by decide +kernel
theorem dX4_digest_38 : decode cX4_digest 38 = .ok (.iload_n 1, 1) := by decide +kernel
theorem dX4_digest_39 : decode cX4_digest 39 = .ok (.iconst 4, 1) := by decide +kernel
theorem dX4_digest_40 : decode cX4_digest 40 = .ok (.if_icmp .ge 22, 3) := by decide +kernel
theorem dX4_digest_43 : decode cX4_digest 43 = .ok (.aload_n 0, 1) := by decide +kernel
theorem dX4_digest_44 : decode cX4_digest 44 = .ok (.aload_n 0, 1) := by decide +kernel
theorem dX4_digest_45 : decode cX4_digest 45 = .ok (.getfield 7, 3) := by decide +kernel
theorem dX4_digest_48 : decode cX4_digest 48 = .ok (.iconst 2, 1) := by decide +kernel
theorem dX4_digest_49 : decode cX4_digest 49 = .ok (.iload_n 1, 1) := by decide +kernel
theorem dX4_digest_50 : decode cX4_digest 50 = .ok (.iadd, 1) := by decide +kernel
theorem dX4_digest_51 : decode cX4_digest 51 = .ok (.iaload, 1) := by decide +kernel
theorem dX4_digest_52 : decode cX4_digest 52 = .ok (.i2l, 1) := by decide +kernel
theorem dX4_digest_53 : decode cX4_digest 53 = .ok (.invokevirtual 239, 3) := by decide +kernel
theorem dX4_digest_56 : decode cX4_digest 56 = .ok (.iinc 1 1, 3) := by decide +kernel
theorem dX4_digest_59 : decode cX4_digest 59 = .ok (.goto (-21), 3) := by decide +kernel
theorem dX4_digest_62 : decode cX4_digest 62 = .ok (.iconst 0, 1) := by decide +kernel
theorem dX4_digest_63 : decode cX4_digest 63 = .ok (.istore_n 1, 1) := by decide +kernel
theorem dX4_digest_64 : decode cX4_digest 64 = .ok (.iload_n 1, 1) := by decide +kernel
theorem dX4_digest_65 : decode cX4_digest 65 = .ok (.aload_n 0, 1) := by decide +kernel
theorem dX4_digest_66 : decode cX4_digest 66 = .ok (.getfield 7, 3) := by decide +kernel
theorem dX4_digest_69 : decode cX4_digest 69 = .ok (.iconst 0, 1) := by decide +kernel
theorem dX4_digest_70 : decode cX4_digest 70 = .ok (.iaload, 1) := by decide +kernel
theorem dX4_digest_71 : decode cX4_digest 71 = .ok (.if_icmp .ge 54, 3) := by decide +kernel
theorem dX4_digest_74 : decode cX4_digest 74 = .ok (.iconst 0, 1) := by decide +kernel
theorem dX4_digest_75 : decode cX4_digest 75 = .ok (.istore_n 2, 1) := by decide +kernel
theorem dX4_digest_76 : decode cX4_digest 76 = .ok (.iload_n 2, 1) := by decide +kernel
theorem dX4_digest_77 : decode cX4_digest 77 = .ok (.bipush 6, 2) := by decide +kernel
theorem dX4_digest_79 : decode cX4_digest 79 = .ok (.if_icmp .ge 20, 3) := by decide +kernel
theorem dX4_digest_82 : decode cX4_digest 82 = .ok (.aload_n 0, 1) := by decide +kernel
theorem dX4_digest_83 : decode cX4_digest 83 = .ok (.aload_n 0, 1) := by decide +kernel
theorem dX4_digest_84 : decode cX4_digest 84 = .ok (.iload_n 1, 1) := by decide +kernel
theorem dX4_digest_85 : decode cX4_digest 85 = .ok (.iload_n 2, 1) := by decide +kernel
theorem dX4_digest_86 : decode cX4_digest 86 = .ok (.invokevirtual 178, 3) := by decide +kernel
theorem dX4_digest_89 : decode cX4_digest 89 = .ok (.i2l, 1) := by decide +kernel
theorem dX4_digest_90 : decode cX4_digest 90 = .ok (.invokevirtual 239, 3) := by decide +kernel
theorem dX4_digest_93 : decode cX4_digest 93 = .ok (.iinc 2 1, 3) := by decide +kernel
theorem dX4_digest_96 : decode cX4_digest 96 = .ok (.goto (-20), 3) := by decide +kernel
theorem dX4_digest_99 : decode cX4_digest 99 = .ok (.aload_n 0, 1) := by decide +kernel
theorem dX4_digest_100 : decode cX4_digest 100 = .ok (.aload_n 0, 1) := by decide +kernel
theorem dX4_digest_101 : decode cX4_digest 101 = .ok (.iload_n 1, 1) := by decide +kernel
theorem dX4_digest_102 : decode cX4_digest 102 = .ok (.invokevirtual 191, 3) := by decide +kernel
theorem dX4_digest_105 : decode cX4_digest 105 = .ok (.i2l, 1) := by decide +kernel
theorem dX4_digest_106 : decode cX4_digest 106 = .ok (.invokevirtual 239, 3) := by decide +kernel
theorem dX4_digest_109 : decode cX4_digest 109 = .ok (.aload_n 0, 1) := by decide +kernel
theorem dX4_digest_110 : decode cX4_digest 110 = .ok (.aload_n 0, 1) := by decide +kernel
theorem dX4_digest_111 : decode cX4_digest 111 = .ok (.iload_n 1, 1) := by decide +kernel
theorem dX4_digest_112 : decode cX4_digest 112 = .ok (.invokevirtual 207, 3) := by decide +kernel
theorem dX4_digest_115 : decode cX4_digest 115 = .ok (.i2l, 1) := by decide +kernel
theorem dX4_digest_116 : decode cX4_digest 116 = .ok (.invokevirtual 239, 3) := by decide +kernel
theorem dX4_digest_119 : decode cX4_digest 119 = .ok (.iinc 1 1, 3) := by decide +kernel
theorem dX4_digest_122 : decode cX4_digest 122 = .ok (.goto (-58), 3) := by decide +kernel
theorem dX4_digest_125 : decode cX4_digest 125 = .ok (.iconst 0, 1) := by decide +kernel
theorem dX4_digest_126 : decode cX4_digest 126 = .ok (.istore_n 1, 1) := by decide +kernel
theorem dX4_digest_127 : decode cX4_digest 127 = .ok (.iload_n 1, 1) := by decide +kernel
theorem dX4_digest_128 : decode cX4_digest 128 = .ok (.iconst 5, 1) := by decide +kernel
theorem dX4_digest_129 : decode cX4_digest 129 = .ok (.if_icmp .ge 19, 3) := by decide +kernel
theorem dX4_digest_132 : decode cX4_digest 132 = .ok (.aload_n 0, 1) := by decide +kernel
theorem dX4_digest_133 : decode cX4_digest 133 = .ok (.aload_n 0, 1) := by decide +kernel
theorem dX4_digest_134 : decode cX4_digest 134 = .ok (.iload_n 1, 1) := by decide +kernel
theorem dX4_digest_135 : decode cX4_digest 135 = .ok (.invokevirtual 185, 3) := by decide +kernel
theorem dX4_digest_138 : decode cX4_digest 138 = .ok (.i2l, 1) := by decide +kernel
theorem dX4_digest_139 : decode cX4_digest 139 = .ok (.invokevirtual 239, 3) := by decide +kernel
theorem dX4_digest_142 : decode cX4_digest 142 = .ok (.iinc 1 1, 3) := by decide +kernel
theorem dX4_digest_145 : decode cX4_digest 145 = .ok (.goto (-18), 3) := by decide +kernel
theorem dX4_digest_148 : decode cX4_digest 148 = .ok (.iconst 0, 1) := by decide +kernel
theorem dX4_digest_149 : decode cX4_digest 149 = .ok (.istore_n 1, 1) := by decide +kernel
theorem dX4_digest_150 : decode cX4_digest 150 = .ok (.iload_n 1, 1) := by decide +kernel
theorem dX4_digest_151 : decode cX4_digest 151 = .ok (.iconst 4, 1) := by decide +kernel
theorem dX4_digest_152 : decode cX4_digest 152 = .ok (.if_icmp .ge 33, 3) := by decide +kernel
theorem dX4_digest_155 : decode cX4_digest 155 = .ok (.iconst 0, 1) := by decide +kernel
theorem dX4_digest_156 : decode cX4_digest 156 = .ok (.istore_n 2, 1) := by decide +kernel
theorem dX4_digest_157 : decode cX4_digest 157 = .ok (.iload_n 2, 1) := by decide +kernel
theorem dX4_digest_158 : decode cX4_digest 158 = .ok (.iconst 3, 1) := by decide +kernel
theorem dX4_digest_159 : decode cX4_digest 159 = .ok (.if_icmp .ge 20, 3) := by decide +kernel
theorem dX4_digest_162 : decode cX4_digest 162 = .ok (.aload_n 0, 1) := by decide +kernel
theorem dX4_digest_163 : decode cX4_digest 163 = .ok (.aload_n 0, 1) := by decide +kernel
theorem dX4_digest_164 : decode cX4_digest 164 = .ok (.iload_n 1, 1) := by decide +kernel
theorem dX4_digest_165 : decode cX4_digest 165 = .ok (.iload_n 2, 1) := by decide +kernel
theorem dX4_digest_166 : decode cX4_digest 166 = .ok (.invokevirtual 188, 3) := by decide +kernel
theorem dX4_digest_169 : decode cX4_digest 169 = .ok (.i2l, 1) := by decide +kernel
theorem dX4_digest_170 : decode cX4_digest 170 = .ok (.invokevirtual 239, 3) := by decide +kernel
theorem dX4_digest_173 : decode cX4_digest 173 = .ok (.iinc 2 1, 3) := by decide +kernel
theorem dX4_digest_176 : decode cX4_digest 176 = .ok (.goto (-19), 3) := by decide +kernel
theorem dX4_digest_179 : decode cX4_digest 179 = .ok (.iinc 1 1, 3) := by decide +kernel
theorem dX4_digest_182 : decode cX4_digest 182 = .ok (.goto (-32), 3) := by decide +kernel
theorem dX4_digest_185 : decode cX4_digest 185 = .ok (.aload_n 0, 1) := by decide +kernel
theorem dX4_digest_186 : decode cX4_digest 186 = .ok (.iconst 1, 1) := by decide +kernel
theorem dX4_digest_187 : decode cX4_digest 187 = .ok (.aload_n 0, 1) := by decide +kernel
theorem dX4_digest_188 : decode cX4_digest 188 = .ok (.getfield 7, 3) := by decide +kernel
theorem dX4_digest_191 : decode cX4_digest 191 = .ok (.iconst 0, 1) := by decide +kernel
theorem dX4_digest_192 : decode cX4_digest 192 = .ok (.iaload, 1) := by decide +kernel
theorem dX4_digest_193 : decode cX4_digest 193 = .ok (.invokestatic 81, 3) := by decide +kernel
theorem dX4_digest_196 : decode cX4_digest 196 = .ok (.i2l, 1) := by decide +kernel
theorem dX4_digest_197 : decode cX4_digest 197 = .ok (.invokevirtual 239, 3) := by decide +kernel
theorem dX4_digest_200 : decode cX4_digest 200 = .ok (.aload_n 0, 1) := by decide +kernel
theorem dX4_digest_201 : decode cX4_digest 201 = .ok (.bipush 52, 2) := by decide +kernel
theorem dX4_digest_203 : decode cX4_digest 203 = .ok (.aload_n 0, 1) := by decide +kernel
theorem dX4_digest_204 : decode cX4_digest 204 = .ok (.getfield 7, 3) := by decide +kernel
theorem dX4_digest_207 : decode cX4_digest 207 = .ok (.iconst 0, 1) := by decide +kernel
theorem dX4_digest_208 : decode cX4_digest 208 = .ok (.iaload, 1) := by decide +kernel
theorem dX4_digest_209 : decode cX4_digest 209 = .ok (.invokestatic 81, 3) := by decide +kernel
theorem dX4_digest_212 : decode cX4_digest 212 = .ok (.i2l, 1) := by decide +kernel
theorem dX4_digest_213 : decode cX4_digest 213 = .ok (.invokevirtual 239, 3) := by decide +kernel
theorem dX4_digest_216 : decode cX4_digest 216 = .ok (.aload_n 0, 1) := by decide +kernel
theorem dX4_digest_217 : decode cX4_digest 217 = .ok (.ldc 243, 2) := by decide +kernel
theorem dX4_digest_219 : decode cX4_digest 219 = .ok (.aload_n 0, 1) := by decide +kernel
theorem dX4_digest_220 : decode cX4_digest 220 = .ok (.getfield 7, 3) := by decide +kernel
theorem dX4_digest_223 : decode cX4_digest 223 = .ok (.iconst 0, 1) := by decide +kernel
theorem dX4_digest_224 : decode cX4_digest 224 = .ok (.iaload, 1) := by decide +kernel
theorem dX4_digest_225 : decode cX4_digest 225 = .ok (.invokestatic 81, 3) := by decide +kernel
theorem dX4_digest_228 : decode cX4_digest 228 = .ok (.i2l, 1) := by decide +kernel
theorem dX4_digest_229 : decode cX4_digest 229 = .ok (.invokevirtual 239, 3) := by decide +kernel
theorem dX4_digest_232 : decode cX4_digest 232 = .ok (.aload_n 0, 1) := by decide +kernel
theorem dX4_digest_233 : decode cX4_digest 233 = .ok (.aload_n 0, 1) := by decide +kernel
theorem dX4_digest_234 : decode cX4_digest 234 = .ok (.iconst 0, 1) := by decide +kernel
theorem dX4_digest_235 : decode cX4_digest 235 = .ok (.invokevirtual 147, 3) := by decide +kernel
theorem dX4_digest_238 : decode cX4_digest 238 = .ok (.i2l, 1) := by decide +kernel
theorem dX4_digest_239 : decode cX4_digest 239 = .ok (.invokevirtual 239, 3) := by decide +kernel
theorem dX4_digest_242 : decode cX4_digest 242 = .ok (.iconst 1, 1) := by decide +kernel
theorem dX4_digest_243 : decode cX4_digest 243 = .ok (.istore_n 1, 1) := by decide +kernel
theorem dX4_digest_244 : decode cX4_digest 244 = .ok (.iload_n 1, 1) := by decide +kernel
theorem dX4_digest_245 : decode cX4_digest 245 = .ok (.iconst 5, 1) := by decide +kernel
theorem dX4_digest_246 : decode cX4_digest 246 = .ok (.if_icmp .ge 19, 3) := by decide +kernel
theorem dX4_digest_249 : decode cX4_digest 249 = .ok (.aload_n 0, 1) := by decide +kernel
theorem dX4_digest_250 : decode cX4_digest 250 = .ok (.aload_n 0, 1) := by decide +kernel
theorem dX4_digest_251 : decode cX4_digest 251 = .ok (.iload_n 1, 1) := by decide +kernel
theorem dX4_digest_252 : decode cX4_digest 252 = .ok (.invokevirtual 210, 3) := by decide +kernel
theorem dX4_digest_255 : decode cX4_digest 255 = .ok (.i2l, 1) := by decide +kernel
theorem dX4_digest_256 : decode cX4_digest 256 = .ok (.invokevirtual 239, 3) := by decide +kernel
theorem dX4_digest_259 : decode cX4_digest 259 = .ok (.iinc 1 1, 3) := by decide +kernel
theorem dX4_digest_262 : decode cX4_digest 262 = .ok (.goto (-18), 3) := by decide +kernel
theorem dX4_digest_265 : decode cX4_digest 265 = .ok (.aload_n 0, 1) := by decide +kernel
theorem dX4_digest_266 : decode cX4_digest 266 = .ok (.aload_n 0, 1) := by decide +kernel
theorem dX4_digest_267 : decode cX4_digest 267 = .ok (.invokevirtual 213, 3) := by decide +kernel
theorem dX4_digest_270 : decode cX4_digest 270 = .ok (.i2l, 1) := by decide +kernel
theorem dX4_digest_271 : decode cX4_digest 271 = .ok (.invokevirtual 239, 3) := by decide +kernel
theorem dX4_digest_274 : decode cX4_digest 274 = .ok (.aload_n 0, 1) := by decide +kernel
theorem dX4_digest_275 : decode cX4_digest 275 = .ok (.aload_n 0, 1) := by decide +kernel
theorem dX4_digest_276 : decode cX4_digest 276 = .ok (.invokevirtual 222, 3) := by decide +kernel
theorem dX4_digest_279 : decode cX4_digest 279 = .ok (.i2l, 1) := by decide +kernel
theorem dX4_digest_280 : decode cX4_digest 280 = .ok (.invokevirtual 239, 3) := by decide +kernel
theorem dX4_digest_283 : decode cX4_digest 283 = .ok (.aload_n 0, 1) := by decide +kernel
theorem dX4_digest_284 : decode cX4_digest 284 = .ok (.aload_n 0, 1) := by decide +kernel
theorem dX4_digest_285 : decode cX4_digest 285 = .ok (.invokevirtual 227, 3) := by decide +kernel
theorem dX4_digest_288 : decode cX4_digest 288 = .ok (.invokestatic 244, 3) := by decide +kernel
theorem dX4_digest_291 : decode cX4_digest 291 = .ok (.invokevirtual 239, 3) := by decide +kernel
theorem dX4_digest_294 : decode cX4_digest 294 = .ok (.aload_n 0, 1) := by decide +kernel
theorem dX4_digest_295 : decode cX4_digest 295 = .ok (.aload_n 0, 1) := by decide +kernel
theorem dX4_digest_296 : decode cX4_digest 296 = .ok (.getfield 153, 3) := by decide +kernel
theorem dX4_digest_299 : decode cX4_digest 299 = .ok (.i2l, 1) := by decide +kernel
theorem dX4_digest_300 : decode cX4_digest 300 = .ok (.invokevirtual 239, 3) := by decide +kernel
theorem dX4_digest_303 : decode cX4_digest 303 = .ok (.iconst 0, 1) := by decide +kernel
theorem dX4_digest_304 : decode cX4_digest 304 = .ok (.istore_n 1, 1) := by decide +kernel
theorem dX4_digest_305 : decode cX4_digest 305 = .ok (.iload_n 1, 1) := by decide +kernel
theorem dX4_digest_306 : decode cX4_digest 306 = .ok (.aload_n 0, 1) := by decide +kernel
theorem dX4_digest_307 : decode cX4_digest 307 = .ok (.getfield 153, 3) := by decide +kernel
theorem dX4_digest_310 : decode cX4_digest 310 = .ok (.if_icmp .ge 20, 3) := by decide +kernel
theorem dX4_digest_313 : decode cX4_digest 313 = .ok (.aload_n 0, 1) := by decide +kernel
theorem dX4_digest_314 : decode cX4_digest 314 = .ok (.aload_n 0, 1) := by decide +kernel
theorem dX4_digest_315 : decode cX4_digest 315 = .ok (.getfield 19, 3) := by decide +kernel
theorem dX4_digest_318 : decode cX4_digest 318 = .ok (.iload_n 1, 1) := by decide +kernel
theorem dX4_digest_319 : decode cX4_digest 319 = .ok (.iaload, 1) := by decide +kernel
theorem dX4_digest_320 : decode cX4_digest 320 = .ok (.i2l, 1) := by decide +kernel
theorem dX4_digest_321 : decode cX4_digest 321 = .ok (.invokevirtual 239, 3) := by decide +kernel
theorem dX4_digest_324 : decode cX4_digest 324 = .ok (.iinc 1 1, 3) := by decide +kernel
theorem dX4_digest_327 : decode cX4_digest 327 = .ok (.goto (-22), 3) := by decide +kernel
theorem dX4_digest_330 : decode cX4_digest 330 = .ok (.aload_n 0, 1) := by decide +kernel
theorem dX4_digest_331 : decode cX4_digest 331 = .ok (.getfield 233, 3) := by decide +kernel
theorem dX4_digest_334 : decode cX4_digest 334 = .ok (.lreturn, 1) := by decide +kernel
theorem dJxe99ae_isNaN_b9ae7_0 : decode cJxe99ae_isNaN_b9ae7 0 = .ok (.dload_n 0, 1) := by decide +kernel
theorem dJxe99ae_isNaN_b9ae7_1 : decode cJxe99ae_isNaN_b9ae7 1 = .ok (.dload_n 0, 1) := by decide +kernel
theorem dJxe99ae_isNaN_b9ae7_2 : decode cJxe99ae_isNaN_b9ae7 2 = .ok (.dcmp .l, 1) := by decide +kernel
theorem dJxe99ae_isNaN_b9ae7_3 : decode cJxe99ae_isNaN_b9ae7 3 = .ok (.ifCond .eq 7, 3) := by decide +kernel
theorem dJxe99ae_isNaN_b9ae7_6 : decode cJxe99ae_isNaN_b9ae7 6 = .ok (.iconst 1, 1) := by decide +kernel
theorem dJxe99ae_isNaN_b9ae7_7 : decode cJxe99ae_isNaN_b9ae7 7 = .ok (.goto 4, 3) := by decide +kernel
theorem dJxe99ae_isNaN_b9ae7_10 : decode cJxe99ae_isNaN_b9ae7 10 = .ok (.iconst 0, 1) := by decide +kernel
theorem dJxe99ae_isNaN_b9ae7_11 : decode cJxe99ae_isNaN_b9ae7 11 = .ok (.ireturn, 1) := by decide +kernel
set_option maxRecDepth 20000 in
theorem ggJxe99ae_doubleToLongBits_ccdee_Jxe99ae_isNaN_b9ae7 : GoodIn wsJxe99ae_doubleToLongBits_ccdee wsJxe99ae_isNaN_b9ae7 := goodIn_r _ [9] (by decide +kernel) (by decide +kernel)
set_option maxRecDepth 20000 in
theorem gJxe99ae_doubleToLongBits_ccdee_Jxe99ae_isNaN_b9ae7 : GoodIn wsJxe99ae_doubleToLongBits_ccdee (va_wsS RJxe99ae 122 yJxe99ae_isNaN_b9ae7 wsJxe99ae_isNaN_b9ae7) := goodIn_app (goodIn_of _ (by decide +kernel)) ggJxe99ae_doubleToLongBits_ccdee_Jxe99ae_isNaN_b9ae7
theorem dJxe99ae_doubleToLongBits_ccdee_0 : decode cJxe99ae_doubleToLongBits_ccdee 0 = .ok (.dload_n 0, 1) := by decide +kernel
theorem dJxe99ae_doubleToLongBits_ccdee_1 : decode cJxe99ae_doubleToLongBits_ccdee 1 = .ok (.invokestatic 122, 3) := by decide +kernel
theorem dJxe99ae_doubleToLongBits_ccdee_4 : decode cJxe99ae_doubleToLongBits_ccdee 4 = .ok (.ifCond .ne 8, 3) := by decide +kernel
theorem dJxe99ae_doubleToLongBits_ccdee_7 : decode cJxe99ae_doubleToLongBits_ccdee 7 = .ok (.dload_n 0, 1) := by decide +kernel
theorem dJxe99ae_doubleToLongBits_ccdee_8 : decode cJxe99ae_doubleToLongBits_ccdee 8 = .ok (.invokestatic 134, 3) := by decide +kernel
theorem dJxe99ae_doubleToLongBits_ccdee_11 : decode cJxe99ae_doubleToLongBits_ccdee 11 = .ok (.lreturn, 1) := by decide +kernel
theorem dJxe99ae_doubleToLongBits_ccdee_12 : decode cJxe99ae_doubleToLongBits_ccdee 12 = .ok (.ldc2_w 137, 3) := by decide +kernel
theorem dJxe99ae_doubleToLongBits_ccdee_15 : decode cJxe99ae_doubleToLongBits_ccdee 15 = .ok (.lreturn, 1) := by decide +kernel
theorem dJ6_bitCount_0f7a4_0 : decode cJ6_bitCount_0f7a4 0 = .ok (.iload_n 0, 1) := by decide +kernel
theorem dJ6_bitCount_0f7a4_1 : decode cJ6_bitCount_0f7a4 1 = .ok (.iload_n 0, 1) := by decide +kernel
theorem dJ6_bitCount_0f7a4_2 : decode cJ6_bitCount_0f7a4 2 = .ok (.iconst 1, 1) := by decide +kernel
theorem dJ6_bitCount_0f7a4_3 : decode cJ6_bitCount_0f7a4 3 = .ok (.iushr, 1) := by decide +kernel
theorem dJ6_bitCount_0f7a4_4 : decode cJ6_bitCount_0f7a4 4 = .ok (.ldc_w 265, 3) := by decide +kernel
theorem dJ6_bitCount_0f7a4_7 : decode cJ6_bitCount_0f7a4 7 = .ok (.iand, 1) := by decide +kernel
theorem dJ6_bitCount_0f7a4_8 : decode cJ6_bitCount_0f7a4 8 = .ok (.isub, 1) := by decide +kernel
theorem dJ6_bitCount_0f7a4_9 : decode cJ6_bitCount_0f7a4 9 = .ok (.istore_n 0, 1) := by decide +kernel
theorem dJ6_bitCount_0f7a4_10 : decode cJ6_bitCount_0f7a4 10 = .ok (.iload_n 0, 1) := by decide +kernel
theorem dJ6_bitCount_0f7a4_11 : decode cJ6_bitCount_0f7a4 11 = .ok (.ldc_w 266, 3) := by decide +kernel
theorem dJ6_bitCount_0f7a4_14 : decode cJ6_bitCount_0f7a4 14 = .ok (.iand, 1) := by decide +kernel
theorem dJ6_bitCount_0f7a4_15 : decode cJ6_bitCount_0f7a4 15 = .ok (.iload_n 0, 1) := by decide +kernel
theorem dJ6_bitCount_0f7a4_16 : decode cJ6_bitCount_0f7a4 16 = .ok (.iconst 2, 1) := by decide +kernel
theorem dJ6_bitCount_0f7a4_17 : decode cJ6_bitCount_0f7a4 17 = .ok (.iushr, 1) := by decide +kernel
theorem dJ6_bitCount_0f7a4_18 : decode cJ6_bitCount_0f7a4 18 = .ok (.ldc_w 266, 3) := by decide +kernel
theorem dJ6_bitCount_0f7a4_21 : decode cJ6_bitCount_0f7a4 21 = .ok (.iand, 1) := by decide +kernel
theorem dJ6_bitCount_0f7a4_22 : decode cJ6_bitCount_0f7a4 22 = .ok (.iadd, 1) := by decide +kernel
theorem dJ6_bitCount_0f7a4_23 : decode cJ6_bitCount_0f7a4 23 = .ok (.istore_n 0, 1) := by decide +kernel
theorem dJ6_bitCount_0f7a4_24 : decode cJ6_bitCount_0f7a4 24 = .ok (.iload_n 0, 1) := by decide +kernel
theorem dJ6_bitCount_0f7a4_25 : decode cJ6_bitCount_0f7a4 25 = .ok (.iload_n 0, 1) := by decide +kernel
theorem dJ6_bitCount_0f7a4_26 : decode cJ6_bitCount_0f7a4 26 = .ok (.iconst 4, 1) := by decide +kernel
theorem dJ6_bitCount_0f7a4_27 : decode cJ6_bitCount_0f7a4 27 = .ok (.iushr, 1) := by decide +kernel
theorem dJ6_bitCount_0f7a4_28 : decode cJ6_bitCount_0f7a4 28 = .ok (.iadd, 1) := by decide +kernel
theorem dJ6_bitCount_0f7a4_29 : decode cJ6_bitCount_0f7a4 29 = .ok (.ldc_w 267, 3) := by decide +kernel
theorem dJ6_bitCount_0f7a4_32 : decode cJ6_bitCount_0f7a4 32 = .ok (.iand, 1) := by decide +kernel
theorem dJ6_bitCount_0f7a4_33 : decode cJ6_bitCount_0f7a4 33 = .ok (.istore_n 0, 1) := by decide +kernel
theorem dJ6_bitCount_0f7a4_34 : decode cJ6_bitCount_0f7a4 34 = .ok (.iload_n 0, 1) := by decide +kernel
theorem dJ6_bitCount_0f7a4_35 : decode cJ6_bitCount_0f7a4 35 = .ok (.iload_n 0, 1) := by decide +kernel
theorem dJ6_bitCount_0f7a4_36 : decode cJ6_bitCount_0f7a4 36 = .ok (.bipush 8, 2) := by decide +kernel
theorem dJ6_bitCount_0f7a4_38 : decode cJ6_bitCount_0f7a4 38 = .ok (.iushr, 1) := by decide +kernel
theorem dJ6_bitCount_0f7a4_39 : decode cJ6_bitCount_0f7a4 39 = .ok (.iadd, 1) := by decide +kernel
theorem dJ6_bitCount_0f7a4_40 : decode cJ6_bitCount_0f7a4 40 = .ok (.istore_n 0, 1) := by decide +kernel
theorem dJ6_bitCount_0f7a4_41 : decode cJ6_bitCount_0f7a4 41 = .ok (.iload_n 0, 1) := by decide +kernel
theorem dJ6_bitCount_0f7a4_42 : decode cJ6_bitCount_0f7a4 42 = .ok (.iload_n 0, 1) := by decide +kernel
theorem dJ6_bitCount_0f7a4_43 : decode cJ6_bitCount_0f7a4 43 = .ok (.bipush 16, 2) := by decide +kernel
theorem dJ6_bitCount_0f7a4_45 : decode cJ6_bitCount_0f7a4 45 = .ok (.iushr, 1) := by decide +kernel
theorem dJ6_bitCount_0f7a4_46 : decode cJ6_bitCount_0f7a4 46 = .ok (.iadd, 1) := by decide +kernel
theorem dJ6_bitCount_0f7a4_47 : decode cJ6_bitCount_0f7a4 47 = .ok (.istore_n 0, 1) := by decide +kernel
theorem dJ6_bitCount_0f7a4_48 : decode cJ6_bitCount_0f7a4 48 = .ok (.iload_n 0, 1) := by decide +kernel
theorem dJ6_bitCount_0f7a4_49 : decode cJ6_bitCount_0f7a4 49 = .ok (.bipush 63, 2) := by decide +kernel
theorem dJ6_bitCount_0f7a4_51 : decode cJ6_bitCount_0f7a4 51 = .ok (.iand, 1) := by decide +kernel
theorem dJ6_bitCount_0f7a4_52 : decode cJ6_bitCount_0f7a4 52 = .ok (.ireturn, 1) := by decide +kernel
theorem dJ9_abs_0f7a4_0 : decode cJ9_abs_0f7a4 0 = .ok (.iload_n 0, 1) := by decide +kernel
theorem dJ9_abs_0f7a4_1 : decode cJ9_abs_0f7a4 1 = .ok (.ifCond .ge 8, 3) := by decide +kernel
theorem dJ9_abs_0f7a4_4 : decode cJ9_abs_0f7a4 4 = .ok (.iload_n 0, 1) := by decide +kernel
theorem dJ9_abs_0f7a4_5 : decode cJ9_abs_0f7a4 5 = .ok (.ineg, 1) := by decide +kernel
theorem dJ9_abs_0f7a4_6 : decode cJ9_abs_0f7a4 6 = .ok (.goto 4, 3) := by decide +kernel
theorem dJ9_abs_0f7a4_9 : decode cJ9_abs_0f7a4 9 = .ok (.iload_n 0, 1) := by decide +kernel
theorem dJ9_abs_0f7a4_10 : decode cJ9_abs_0f7a4 10 = .ok (.ireturn, 1) := by decide +kernel
theorem dJ9_min_7cf53_0 : decode cJ9_min_7cf53 0 = .ok (.iload_n 0, 1) := by decide +kernel
theorem dJ9_min_7cf53_1 : decode cJ9_min_7cf53 1 = .ok (.iload_n 1, 1) := by decide +kernel
theorem dJ9_min_7cf53_2 : decode cJ9_min_7cf53 2 = .ok (.if_icmp .gt 7, 3) := by decide +kernel
theorem dJ9_min_7cf53_5 : decode cJ9_min_7cf53 5 = .ok (.iload_n 0, 1) := by decide +kernel
theorem dJ9_min_7cf53_6 : decode cJ9_min_7cf53 6 = .ok (.goto 4, 3) := by decide +kernel
theorem dJ9_min_7cf53_9 : decode cJ9_min_7cf53 9 = .ok (.iload_n 1, 1) := by decide +kernel
theorem dJ9_min_7cf53_10 : decode cJ9_min_7cf53 10 = .ok (.ireturn, 1) := by decide +kernel
set_option maxRecDepth 20000 in
theorem ggL_begin_X3_begin : GoodIn wsL_begin wsX3_begin := goodIn_ca (goodIn_r _ [6, 7, 8, 9, 10, 11, 12, 13, 14, 15, 5, 16, 17, 18, 19, 20, 21, 22, 23, 24, 25, 26, 27, 28, 29, 30, 31, 32, 33, 34, 35, 36, 37, 38, 39, 40, 41, 42, 43, 44, 45, 46] (by decide +kernel) (by decide +kernel)) (goodIn_sub (fun _ h => List.mem_cons_of_mem _ (List.mem_append_right _ h)) (by decide +kernel))
