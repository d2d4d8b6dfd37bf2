theorem dX4_sumOf_39 : decode cX4_sumOf 39 = .ok (.iand, 1) := by decide +kernel
theorem dX4_sumOf_40 : decode cX4_sumOf 40 = .ok (.ireturn, 1) := by decide +kernel
set_option maxRecDepth 20000 in
theorem ggX4_isRight_X4_bodyMany : GoodIn wsX4_isRight wsX4_bodyMany := goodIn_r _ [5, 6, 7, 8, 4, 9, 10, 11, 12, 13, 14, 15, 16, 17, 18, 23, 24, 25, 26, 27, 28, 29, 30, 31, 32, 33, 34, 35, 36, 37, 38, 39, 40] (by decide +kernel) (by decide +kernel)
set_option maxRecDepth 20000 in
theorem gX4_isRight_X4_bodyMany : GoodIn wsX4_isRight (wsV RX4 72 RX4 yX4_bodyMany wsX4_bodyMany) := goodIn_app (goodIn_of _ (by decide +kernel)) ggX4_isRight_X4_bodyMany
set_option maxRecDepth 20000 in
theorem ggX4_isRight_X4_sumOf : GoodIn wsX4_isRight wsX4_sumOf := goodIn_r _ [22, 1, 2, 3, 4, 5, 6, 7, 8, 9, 10, 11, 12, 13, 14, 15, 16, 17, 18, 23, 24, 25, 26, 27, 28, 29, 30, 31, 32, 33, 34, 35, 36, 37, 38, 39, 40] (by decide +kernel) (by decide +kernel)
set_option maxRecDepth 20000 in
theorem gX4_isRight_X4_sumOf : GoodIn wsX4_isRight (wsV RX4 75 RX4 yX4_sumOf wsX4_sumOf) := goodIn_app (goodIn_of _ (by decide +kernel)) ggX4_isRight_X4_sumOf
theorem dX4_isRight_0 : decode cX4_isRight 0 = .ok (.iload_n 1, 1) := by decide +kernel
theorem dX4_isRight_1 : decode cX4_isRight 1 = .ok (.aload_n 0, 1) := by decide +kernel
theorem dX4_isRight_2 : decode cX4_isRight 2 = .ok (.invokevirtual 72, 3) := by decide +kernel
theorem dX4_isRight_5 : decode cX4_isRight 5 = .ok (.ishr, 1) := by decide +kernel
theorem dX4_isRight_6 : decode cX4_isRight 6 = .ok (.aload_n 0, 1) := by decide +kernel
theorem dX4_isRight_7 : decode cX4_isRight 7 = .ok (.iload_n 1, 1) := by decide +kernel
theorem dX4_isRight_8 : decode cX4_isRight 8 = .ok (.invokevirtual 75, 3) := by decide +kernel
theorem dX4_isRight_11 : decode cX4_isRight 11 = .ok (.if_icmp .ne 7, 3) := by decide +kernel
theorem dX4_isRight_14 : decode cX4_isRight 14 = .ok (.iconst 1, 1) := by decide +kernel
theorem dX4_isRight_15 : decode cX4_isRight 15 = .ok (.goto 4, 3) := by decide +kernel
theorem dX4_isRight_18 : decode cX4_isRight 18 = .ok (.iconst 0, 1) := by decide +kernel
theorem dX4_isRight_19 : decode cX4_isRight 19 = .ok (.ireturn, 1) := by decide +kernel
set_option maxRecDepth 20000 in
theorem ggX4_isBody_X4_bodyMany : GoodIn wsX4_isBody wsX4_bodyMany := goodIn_r _ [5, 6, 7, 8, 4, 9, 10, 11, 12, 13, 14, 15, 16, 17, 18, 19, 20, 21, 22, 23, 24, 25, 26, 27, 28, 29, 30, 31, 32, 33, 34, 35, 36] (by decide +kernel) (by decide +kernel)
set_option maxRecDepth 20000 in
theorem gX4_isBody_X4_bodyMany : GoodIn wsX4_isBody (wsV RX4 72 RX4 yX4_bodyMany wsX4_bodyMany) := goodIn_app (goodIn_of _ (by decide +kernel)) ggX4_isBody_X4_bodyMany
theorem dX4_isBody_0 : decode cX4_isBody 0 = .ok (.iload_n 1, 1) := by decide +kernel
theorem dX4_isBody_1 : decode cX4_isBody 1 = .ok (.ifCond .lt 16, 3) := by decide +kernel
theorem dX4_isBody_4 : decode cX4_isBody 4 = .ok (.iload_n 1, 1) := by decide +kernel
theorem dX4_isBody_5 : decode cX4_isBody 5 = .ok (.aload_n 0, 1) := by decide +kernel
theorem dX4_isBody_6 : decode cX4_isBody 6 = .ok (.invokevirtual 72, 3) := by decide +kernel
theorem dX4_isBody_9 : decode cX4_isBody 9 = .ok (.ishr, 1) := by decide +kernel
theorem dX4_isBody_10 : decode cX4_isBody 10 = .ok (.ifCond .ne 7, 3) := by decide +kernel
theorem dX4_isBody_13 : decode cX4_isBody 13 = .ok (.iconst 1, 1) := by decide +kernel
theorem dX4_isBody_14 : decode cX4_isBody 14 = .ok (.goto 4, 3) := by decide +kernel
theorem dX4_isBody_17 : decode cX4_isBody 17 = .ok (.iconst 0, 1) := by decide +kernel
theorem dX4_isBody_18 : decode cX4_isBody 18 = .ok (.ireturn, 1) := by decide +kernel
set_option maxRecDepth 20000 in
theorem ggX4_wordOf_X4_sumOf : GoodIn wsX4_wordOf wsX4_sumOf := goodIn_r _ [6, 7, 8, 9, 5, 10, 11, 12, 13, 14, 1, 15, 16, 17, 18, 19, 20, 21, 22, 30, 31, 32, 33, 34, 35, 36, 37, 38, 39, 40, 41, 42, 43, 44, 45, 46, 47] (by decide +kernel) (by decide +kernel)
set_option maxRecDepth 20000 in
theorem gX4_wordOf_X4_sumOf : GoodIn wsX4_wordOf (wsV RX4 75 RX4 yX4_sumOf wsX4_sumOf) := goodIn_app (goodIn_of _ (by decide +kernel)) ggX4_wordOf_X4_sumOf
set_option maxRecDepth 20000 in
theorem ggX4_wordOf_X4_bodyMany : GoodIn wsX4_wordOf wsX4_bodyMany := goodIn_r _ [10, 11, 12, 13, 5, 14, 1, 15, 16, 17, 18, 19, 20, 21, 22, 30, 31, 32, 33, 34, 35, 36, 37, 38, 39, 40, 41, 42, 43, 44, 45, 46, 47] (by decide +kernel) (by decide +kernel)
set_option maxRecDepth 20000 in
theorem gX4_wordOf_X4_bodyMany : GoodIn wsX4_wordOf (wsV RX4 72 RX4 yX4_bodyMany wsX4_bodyMany) := goodIn_app (goodIn_of _ (by decide +kernel)) ggX4_wordOf_X4_bodyMany
set_option maxRecDepth 20000 in
theorem ggX4_wordOf_X4_bitsOf : GoodIn wsX4_wordOf wsX4_bitsOf := goodIn_r _ [26, 1, 15, 16, 17, 5, 18, 30, 31, 32, 33, 34, 35, 36, 37, 38, 39, 40, 41, 42, 43, 44, 45, 46, 47] (by decide +kernel) (by decide +kernel)
set_option maxRecDepth 20000 in
theorem gX4_wordOf_X4_bitsOf : GoodIn wsX4_wordOf (wsV RX4 78 RX4 yX4_bitsOf wsX4_bitsOf) := goodIn_app (goodIn_of _ (by decide +kernel)) ggX4_wordOf_X4_bitsOf
set_option maxRecDepth 20000 in
theorem ggX4_wordOf_X4_coded : GoodIn wsX4_wordOf wsX4_coded := goodIn_r _ [29] (by decide +kernel) (by decide +kernel)
set_option maxRecDepth 20000 in
theorem gX4_wordOf_X4_coded : GoodIn wsX4_wordOf (va_wsS RX4 81 yX4_coded wsX4_coded) := goodIn_app (goodIn_of _ (by decide +kernel)) ggX4_wordOf_X4_coded
theorem dX4_wordOf_0 : decode cX4_wordOf 0 = .ok (.aload_n 0, 1) := by decide +kernel
theorem dX4_wordOf_1 : decode cX4_wordOf 1 = .ok (.iload_n 1, 1) := by decide +kernel
theorem dX4_wordOf_2 : decode cX4_wordOf 2 = .ok (.aload_n 0, 1) := by decide +kernel
theorem dX4_wordOf_3 : decode cX4_wordOf 3 = .ok (.iload_n 1, 1) := by decide +kernel
theorem dX4_wordOf_4 : decode cX4_wordOf 4 = .ok (.invokevirtual 75, 3) := by decide +kernel
theorem dX4_wordOf_7 : decode cX4_wordOf 7 = .ok (.aload_n 0, 1) := by decide +kernel
theorem dX4_wordOf_8 : decode cX4_wordOf 8 = .ok (.invokevirtual 72, 3) := by decide +kernel
theorem dX4_wordOf_11 : decode cX4_wordOf 11 = .ok (.ishl, 1) := by decide +kernel
theorem dX4_wordOf_12 : decode cX4_wordOf 12 = .ok (.ior, 1) := by decide +kernel
theorem dX4_wordOf_13 : decode cX4_wordOf 13 = .ok (.invokevirtual 78, 3) := by decide +kernel
theorem dX4_wordOf_16 : decode cX4_wordOf 16 = .ok (.aload_n 0, 1) := by decide +kernel
theorem dX4_wordOf_17 : decode cX4_wordOf 17 = .ok (.getfield 7, 3) := by decide +kernel
theorem dX4_wordOf_20 : decode cX4_wordOf 20 = .ok (.iconst 0, 1) := by decide +kernel
theorem dX4_wordOf_21 : decode cX4_wordOf 21 = .ok (.iaload, 1) := by decide +kernel
theorem dX4_wordOf_22 : decode cX4_wordOf 22 = .ok (.invokestatic 81, 3) := by decide +kernel
theorem dX4_wordOf_25 : decode cX4_wordOf 25 = .ok (.ireturn, 1) := by decide +kernel
set_option maxRecDepth 20000 in
theorem ggX4_hears_X4_pairs : GoodIn wsX4_hears wsX4_pairs := goodIn_r _ [7, 2, 8, 9, 6, 10, 18, 19, 20, 21, 22, 23, 24, 25, 26, 27, 28, 29, 30, 31, 32, 33, 34, 35] (by decide +kernel) (by decide +kernel)
set_option maxRecDepth 20000 in
theorem gX4_hears_X4_pairs : GoodIn wsX4_hears (wsV RX4 85 RX4 yX4_pairs wsX4_pairs) := goodIn_app (goodIn_of _ (by decide +kernel)) ggX4_hears_X4_pairs
set_option maxRecDepth 20000 in
theorem ggX4_hears_X4_coded : GoodIn wsX4_hears wsX4_coded := goodIn_r _ [13] (by decide +kernel) (by decide +kernel)
set_option maxRecDepth 20000 in
theorem gX4_hears_X4_coded : GoodIn wsX4_hears (va_wsS RX4 81 yX4_coded wsX4_coded) := goodIn_app (goodIn_of _ (by decide +kernel)) ggX4_hears_X4_coded
set_option maxRecDepth 20000 in
theorem ggX4_hears_X4_adds : GoodIn wsX4_hears wsX4_adds := goodIn_r _ [17, 2, 18, 19, 20, 21, 22, 23, 24, 25, 26, 27, 28, 29, 30, 31, 32, 33, 34, 35] (by decide +kernel) (by decide +kernel)
set_option maxRecDepth 20000 in
theorem gX4_hears_X4_adds : GoodIn wsX4_hears (wsV RX4 89 RX4 yX4_adds wsX4_adds) := goodIn_app (goodIn_of _ (by decide +kernel)) ggX4_hears_X4_adds
theorem dX4_hears_0 : decode cX4_hears 0 = .ok (.iconst 0, 1) := by decide +kernel
theorem dX4_hears_1 : decode cX4_hears 1 = .ok (.istore_n 3, 1) := by decide +kernel
theorem dX4_hears_2 : decode cX4_hears 2 = .ok (.iload_n 3, 1) := by decide +kernel
theorem dX4_hears_3 : decode cX4_hears 3 = .ok (.aload_n 0, 1) := by decide +kernel
theorem dX4_hears_4 : decode cX4_hears 4 = .ok (.getfield 7, 3) := by decide +kernel
theorem dX4_hears_7 : decode cX4_hears 7 = .ok (.iconst 0, 1) := by decide +kernel
theorem dX4_hears_8 : decode cX4_hears 8 = .ok (.iaload, 1) := by decide +kernel
theorem dX4_hears_9 : decode cX4_hears 9 = .ok (.if_icmp .ge 24, 3) := by decide +kernel
theorem dX4_hears_12 : decode cX4_hears 12 = .ok (.aload_n 0, 1) := by decide +kernel
theorem dX4_hears_13 : decode cX4_hears 13 = .ok (.getfield 34, 3) := by decide +kernel
theorem dX4_hears_16 : decode cX4_hears 16 = .ok (.iload_n 3, 1) := by decide +kernel
theorem dX4_hears_17 : decode cX4_hears 17 = .ok (.aload_n 0, 1) := by decide +kernel
theorem dX4_hears_18 : decode cX4_hears 18 = .ok (.getfield 7, 3) := by decide +kernel
theorem dX4_hears_21 : decode cX4_hears 21 = .ok (.bipush 6, 2) := by decide +kernel
theorem dX4_hears_23 : decode cX4_hears 23 = .ok (.iload_n 3, 1) := by decide +kernel
theorem dX4_hears_24 : decode cX4_hears 24 = .ok (.iadd, 1) := by decide +kernel
theorem dX4_hears_25 : decode cX4_hears 25 = .ok (.iaload, 1) := by decide +kernel
theorem dX4_hears_26 : decode cX4_hears 26 = .ok (.iastore, 1) := by decide +kernel
theorem dX4_hears_27 : decode cX4_hears 27 = .ok (.iinc 3 1, 3) := by decide +kernel
theorem dX4_hears_30 : decode cX4_hears 30 = .ok (.goto (-28), 3) := by decide +kernel
theorem dX4_hears_33 : decode cX4_hears 33 = .ok (.iload_n 2, 1) := by decide +kernel
theorem dX4_hears_34 : decode cX4_hears 34 = .ok (.istore_n 3, 1) := by decide +kernel
theorem dX4_hears_35 : decode cX4_hears 35 = .ok (.iconst 0, 1) := by decide +kernel
theorem dX4_hears_36 : decode cX4_hears 36 = .ok (.istore 4, 2) := by decide +kernel
theorem dX4_hears_38 : decode cX4_hears 38 = .ok (.aload_n 0, 1) := by decide +kernel
theorem dX4_hears_39 : decode cX4_hears 39 = .ok (.getfield 7, 3) := by decide +kernel
theorem dX4_hears_42 : decode cX4_hears 42 = .ok (.iconst 0, 1) := by decide +kernel
theorem dX4_hears_43 : decode cX4_hears 43 = .ok (.iaload, 1) := by decide +kernel
theorem dX4_hears_44 : decode cX4_hears 44 = .ok (.iconst 2, 1) := by decide +kernel
theorem dX4_hears_45 : decode cX4_hears 45 = .ok (.idiv, 1) := by decide +kernel
theorem dX4_hears_46 : decode cX4_hears 46 = .ok (.istore 5, 2) := by decide +kernel
theorem dX4_hears_48 : decode cX4_hears 48 = .ok (.iload 5, 2) := by decide +kernel
theorem dX4_hears_50 : decode cX4_hears 50 = .ok (.ifCond .le 54, 3) := by decide +kernel
theorem dX4_hears_53 : decode cX4_hears 53 = .ok (.iload_n 3, 1) := by decide +kernel
theorem dX4_hears_54 : decode cX4_hears 54 = .ok (.iload 5, 2) := by decide +kernel
theorem dX4_hears_56 : decode cX4_hears 56 = .ok (.if_icmp .ge 12, 3) := by decide +kernel
theorem dX4_hears_59 : decode cX4_hears 59 = .ok (.aload_n 0, 1) := by decide +kernel
theorem dX4_hears_60 : decode cX4_hears 60 = .ok (.iload 5, 2) := by decide +kernel
theorem dX4_hears_62 : decode cX4_hears 62 = .ok (.invokevirtual 85, 3) := by decide +kernel
theorem dX4_hears_65 : decode cX4_hears 65 = .ok (.goto 30, 3) := by decide +kernel
theorem dX4_hears_68 : decode cX4_hears 68 = .ok (.aload_n 0, 1) := by decide +kernel
theorem dX4_hears_69 : decode cX4_hears 69 = .ok (.iload 5, 2) := by decide +kernel
theorem dX4_hears_71 : decode cX4_hears 71 = .ok (.iload_n 1, 1) := by decide +kernel
theorem dX4_hears_72 : decode cX4_hears 72 = .ok (.iload 4, 2) := by decide +kernel
theorem dX4_hears_74 : decode cX4_hears 74 = .ok (.ishr, 1) := by decide +kernel
theorem dX4_hears_75 : decode cX4_hears 75 = .ok (.iload 5, 2) := by decide +kernel
theorem dX4_hears_77 : decode cX4_hears 77 = .ok (.invokestatic 81, 3) := by decide +kernel
theorem dX4_hears_80 : decode cX4_hears 80 = .ok (.invokevirtual 89, 3) := by decide +kernel
theorem dX4_hears_83 : decode cX4_hears 83 = .ok (.iload_n 3, 1) := by decide +kernel
theorem dX4_hears_84 : decode cX4_hears 84 = .ok (.iload 5, 2) := by decide +kernel
theorem dX4_hears_86 : decode cX4_hears 86 = .ok (.isub, 1) := by decide +kernel
theorem dX4_hears_87 : decode cX4_hears 87 = .ok (.istore_n 3, 1) := by decide +kernel
theorem dX4_hears_88 : decode cX4_hears 88 = .ok (.iload 4, 2) := by decide +kernel
theorem dX4_hears_90 : decode cX4_hears 90 = .ok (.iload 5, 2) := by decide +kernel
theorem dX4_hears_92 : decode cX4_hears 92 = .ok (.iadd, 1) := by decide +kernel
theorem dX4_hears_93 : decode cX4_hears 93 = .ok (.istore 4, 2) := by decide +kernel
theorem dX4_hears_95 : decode cX4_hears 95 = .ok (.iload 5, 2) := by decide +kernel
theorem dX4_hears_97 : decode cX4_hears 97 = .ok (.iconst 2, 1) := by decide +kernel
theorem dX4_hears_98 : decode cX4_hears 98 = .ok (.idiv, 1) := by decide +kernel
theorem dX4_hears_99 : decode cX4_hears 99 = .ok (.istore 5, 2) := by decide +kernel
theorem dX4_hears_101 : decode cX4_hears 101 = .ok (.goto (-53), 3) := by decide +kernel
theorem dX4_hears_104 : decode cX4_hears 104 = .ok (.aload_n 0, 1) := by decide +kernel
theorem dX4_hears_105 : decode cX4_hears 105 = .ok (.getfield 34, 3) := by decide +kernel
theorem dX4_hears_108 : decode cX4_hears 108 = .ok (.iconst 0, 1) := by decide +kernel
theorem dX4_hears_109 : decode cX4_hears 109 = .ok (.iaload, 1) := by decide +kernel
theorem dX4_hears_110 : decode cX4_hears 110 = .ok (.ireturn, 1) := by decide +kernel
set_option maxRecDepth 20000 in
theorem ggX4_pairs_X4_size : GoodIn wsX4_pairs wsX4_size := goodIn_r _ [5] (by decide +kernel) (by decide +kernel)
set_option maxRecDepth 20000 in
theorem gX4_pairs_X4_size : GoodIn wsX4_pairs (va_wsS RX4 93 yX4_size wsX4_size) := goodIn_app (goodIn_of _ (by decide +kernel)) ggX4_pairs_X4_size
theorem dX4_pairs_0 : decode cX4_pairs 0 = .ok (.iconst 0, 1) := by decide +kernel
theorem dX4_pairs_1 : decode cX4_pairs 1 = .ok (.istore_n 2, 1) := by decide +kernel
theorem dX4_pairs_2 : decode cX4_pairs 2 = .ok (.iload_n 2, 1) := by decide +kernel
theorem dX4_pairs_3 : decode cX4_pairs 3 = .ok (.iload_n 1, 1) := by decide +kernel
theorem dX4_pairs_4 : decode cX4_pairs 4 = .ok (.if_icmp .ge 88, 3) := by decide +kernel
theorem dX4_pairs_7 : decode cX4_pairs 7 = .ok (.aload_n 0, 1) := by decide +kernel
theorem dX4_pairs_8 : decode cX4_pairs 8 = .ok (.getfield 34, 3) := by decide +kernel
theorem dX4_pairs_11 : decode cX4_pairs 11 = .ok (.iload_n 2, 1) := by decide +kernel
theorem dX4_pairs_12 : decode cX4_pairs 12 = .ok (.iaload, 1) := by decide +kernel
theorem dX4_pairs_13 : decode cX4_pairs 13 = .ok (.istore_n 3, 1) := by decide +kernel
theorem dX4_pairs_14 : decode cX4_pairs 14 = .ok (.aload_n 0, 1) := by decide +kernel
theorem dX4_pairs_15 : decode cX4_pairs 15 = .ok (.getfield 34, 3) := by decide +kernel
theorem dX4_pairs_18 : decode cX4_pairs 18 = .ok (.iload_n 2, 1) := by decide +kernel
theorem dX4_pairs_19 : decode cX4_pairs 19 = .ok (.iload_n 1, 1) := by decide +kernel
theorem dX4_pairs_20 : decode cX4_pairs 20 = .ok (.iadd, 1) := by decide +kernel
theorem dX4_pairs_21 : decode cX4_pairs 21 = .ok (.iaload, 1) := by decide +kernel
theorem dX4_pairs_22 : decode cX4_pairs 22 = .ok (.istore 4, 2) := by decide +kernel
theorem dX4_pairs_24 : decode cX4_pairs 24 = .ok (.iload_n 3, 1) := by decide +kernel
theorem dX4_pairs_25 : decode cX4_pairs 25 = .ok (.invokestatic 93, 3) := by decide +kernel
theorem dX4_pairs_28 : decode cX4_pairs 28 = .ok (.iload 4, 2) := by decide +kernel
theorem dX4_pairs_30 : decode cX4_pairs 30 = .ok (.invokestatic 93, 3) := by decide +kernel
theorem dX4_pairs_33 : decode cX4_pairs 33 = .ok (.if_icmp .ge 10, 3) := by decide +kernel
theorem dX4_pairs_36 : decode cX4_pairs 36 = .ok (.iload_n 3, 1) := by decide +kernel
theorem dX4_pairs_37 : decode cX4_pairs 37 = .ok (.invokestatic 93, 3) := by decide +kernel
theorem dX4_pairs_40 : decode cX4_pairs 40 = .ok (.goto 8, 3) := by decide +kernel
theorem dX4_pairs_43 : decode cX4_pairs 43 = .ok (.iload 4, 2) := by decide +kernel
theorem dX4_pairs_45 : decode cX4_pairs 45 = .ok (.invokestatic 93, 3) := by decide +kernel
theorem dX4_pairs_48 : decode cX4_pairs 48 = .ok (.istore 5, 2) := by decide +kernel
theorem dX4_pairs_50 : decode cX4_pairs 50 = .ok (.aload_n 0, 1) := by decide +kernel
theorem dX4_pairs_51 : decode cX4_pairs 51 = .ok (.getfield 34, 3) := by decide +kernel
theorem dX4_pairs_54 : decode cX4_pairs 54 = .ok (.iload_n 2, 1) := by decide +kernel
theorem dX4_pairs_55 : decode cX4_pairs 55 = .ok (.iload_n 3, 1) := by decide +kernel
theorem dX4_pairs_56 : decode cX4_pairs 56 = .ok (.ifCond .le 7, 3) := by decide +kernel
theorem dX4_pairs_59 : decode cX4_pairs 59 = .ok (.iconst 1, 1) := by decide +kernel
theorem dX4_pairs_60 : decode cX4_pairs 60 = .ok (.goto 4, 3) := by decide +kernel
theorem dX4_pairs_63 : decode cX4_pairs 63 = .ok (.iconst 0, 1) := by decide +kernel
theorem dX4_pairs_64 : decode cX4_pairs 64 = .ok (.iload 4, 2) := by decide +kernel
theorem dX4_pairs_66 : decode cX4_pairs 66 = .ok (.ifCond .le 7, 3) := by decide +kernel
theorem dX4_pairs_69 : decode cX4_pairs 69 = .ok (.iconst 1, 1) := by decide +kernel
theorem dX4_pairs_70 : decode cX4_pairs 70 = .ok (.goto 4, 3) := by decide +kernel
theorem dX4_pairs_73 : decode cX4_pairs 73 = .ok (.iconst 0, 1) := by decide +kernel
theorem dX4_pairs_74 : decode cX4_pairs 74 = .ok (.if_icmp .ne 8, 3) := by decide +kernel
theorem dX4_pairs_77 : decode cX4_pairs 77 = .ok (.iload 5, 2) := by decide +kernel
theorem dX4_pairs_79 : decode cX4_pairs 79 = .ok (.goto 6, 3) := by decide +kernel
theorem dX4_pairs_82 : decode cX4_pairs 82 = .ok (.iload 5, 2) := by decide +kernel
theorem dX4_pairs_84 : decode cX4_pairs 84 = .ok (.ineg, 1) := by decide +kernel
theorem dX4_pairs_85 : decode cX4_pairs 85 = .ok (.iastore, 1) := by decide +kernel
theorem dX4_pairs_86 : decode cX4_pairs 86 = .ok (.iinc 2 1, 3) := by decide +kernel
theorem dX4_pairs_89 : decode cX4_pairs 89 = .ok (.goto (-87), 3) := by decide +kernel
theorem dX4_pairs_92 : decode cX4_pairs 92 = .ok (.return_, 1) := by decide +kernel
theorem dX4_adds_0 : decode cX4_adds 0 = .ok (.iconst 0, 1) := by decide +kernel
theorem dX4_adds_1 : decode cX4_adds 1 = .ok (.istore_n 3, 1) := by decide +kernel
theorem dX4_adds_2 : decode cX4_adds 2 = .ok (.iload_n 3, 1) := by decide +kernel
theorem dX4_adds_3 : decode cX4_adds 3 = .ok (.iload_n 1, 1) := by decide +kernel
theorem dX4_adds_4 : decode cX4_adds 4 = .ok (.if_icmp .ge 49, 3) := by decide +kernel
theorem dX4_adds_7 : decode cX4_adds 7 = .ok (.aload_n 0, 1) := by decide +kernel
theorem dX4_adds_8 : decode cX4_adds 8 = .ok (.getfield 34, 3) := by decide +kernel
theorem dX4_adds_11 : decode cX4_adds 11 = .ok (.iload_n 3, 1) := by decide +kernel
theorem dX4_adds_12 : decode cX4_adds 12 = .ok (.aload_n 0, 1) := by decide +kernel
theorem dX4_adds_13 : decode cX4_adds 13 = .ok (.getfield 34, 3) := by decide +kernel
theorem dX4_adds_16 : decode cX4_adds 16 = .ok (.iload_n 3, 1) := by decide +kernel
theorem dX4_adds_17 : decode cX4_adds 17 = .ok (.iload_n 1, 1) := by decide +kernel
theorem dX4_adds_18 : decode cX4_adds 18 = .ok (.iadd, 1) := by decide +kernel
theorem dX4_adds_19 : decode cX4_adds 19 = .ok (.iaload, 1) := by decide +kernel
theorem dX4_adds_20 : decode cX4_adds 20 = .ok (.iload_n 2, 1) := by decide +kernel
theorem dX4_adds_21 : decode cX4_adds 21 = .ok (.iload_n 3, 1) := by decide +kernel
theorem dX4_adds_22 : decode cX4_adds 22 = .ok (.ishr, 1) := by decide +kernel
theorem dX4_adds_23 : decode cX4_adds 23 = .ok (.iconst 1, 1) := by decide +kernel
theorem dX4_adds_24 : decode cX4_adds 24 = .ok (.iand, 1) := by decide +kernel
theorem dX4_adds_25 : decode cX4_adds 25 = .ok (.iconst 1, 1) := by decide +kernel
theorem dX4_adds_26 : decode cX4_adds 26 = .ok (.if_icmp .ne 13, 3) := by decide +kernel
theorem dX4_adds_29 : decode cX4_adds 29 = .ok (.aload_n 0, 1) := by decide +kernel
theorem dX4_adds_30 : decode cX4_adds 30 = .ok (.getfield 34, 3) := by decide +kernel
theorem dX4_adds_33 : decode cX4_adds 33 = .ok (.iload_n 3, 1) := by decide +kernel
theorem dX4_adds_34 : decode cX4_adds 34 = .ok (.iaload, 1) := by decide +kernel
theorem dX4_adds_35 : decode cX4_adds 35 = .ok (.ineg, 1) := by decide +kernel
theorem dX4_adds_36 : decode cX4_adds 36 = .ok (.goto 9, 3) := by decide +kernel
theorem dX4_adds_39 : decode cX4_adds 39 = .ok (.aload_n 0, 1) := by decide +kernel
theorem dX4_adds_40 : decode cX4_adds 40 = .ok (.getfield 34, 3) := by decide +kernel
theorem dX4_adds_43 : decode cX4_adds 43 = .ok (.iload_n 3, 1) := by decide +kernel
theorem dX4_adds_44 : decode cX4_adds 44 = .ok (.iaload, 1) := by decide +kernel
theorem dX4_adds_45 : decode cX4_adds 45 = .ok (.iadd, 1) := by decide +kernel
theorem dX4_adds_46 : decode cX4_adds 46 = .ok (.iastore, 1) := by decide +kernel
theorem dX4_adds_47 : decode cX4_adds 47 = .ok (.iinc 3 1, 3) := by decide +kernel
theorem dX4_adds_50 : decode cX4_adds 50 = .ok (.goto (-48), 3) := by decide +kernel
theorem dX4_adds_53 : decode cX4_adds 53 = .ok (.return_, 1) := by decide +kernel
set_option maxRecDepth 20000 in
theorem ggX4_goesOn_X4_hears : GoodIn wsX4_goesOn wsX4_hears := goodIn_r _ [10, 11, 12, 13, 14, 15, 9, 16, 17, 18, 19, 20, 21, 22, 23, 24, 25, 26, 27, 28, 29, 30, 31, 32, 33, 34, 35, 36, 37, 38, 39, 40, 41, 42, 43, 44] (by decide +kernel) (by decide +kernel)
set_option maxRecDepth 20000 in
theorem gX4_goesOn_X4_hears : GoodIn wsX4_goesOn (wsV RX4 96 RX4 yX4_hears wsX4_hears) := goodIn_app (goodIn_of _ (by decide +kernel)) ggX4_goesOn_X4_hears
set_option maxRecDepth 20000 in
theorem ggX4_goesOn_X4_size : GoodIn wsX4_goesOn wsX4_size := goodIn_r _ [19] (by decide +kernel) (by decide +kernel)
set_option maxRecDepth 20000 in
theorem gX4_goesOn_X4_size : GoodIn wsX4_goesOn (va_wsS RX4 93 yX4_size wsX4_size) := goodIn_app (goodIn_of _ (by decide +kernel)) ggX4_goesOn_X4_size
theorem dX4_goesOn_0 : decode cX4_goesOn 0 = .ok (.aload_n 0, 1) := by decide +kernel
theorem dX4_goesOn_1 : decode cX4_goesOn 1 = .ok (.aload_n 0, 1) := by decide +kernel
theorem dX4_goesOn_2 : decode cX4_goesOn 2 = .ok (.getfield 22, 3) := by decide +kernel
theorem dX4_goesOn_5 : decode cX4_goesOn 5 = .ok (.iload_n 1, 1) := by decide +kernel
theorem dX4_goesOn_6 : decode cX4_goesOn 6 = .ok (.iaload, 1) := by decide +kernel
theorem dX4_goesOn_7 : decode cX4_goesOn 7 = .ok (.iload_n 2, 1) := by decide +kernel
theorem dX4_goesOn_8 : decode cX4_goesOn 8 = .ok (.invokevirtual 96, 3) := by decide +kernel
theorem dX4_goesOn_11 : decode cX4_goesOn 11 = .ok (.istore 4, 2) := by decide +kernel
theorem dX4_goesOn_13 : decode cX4_goesOn 13 = .ok (.iload_n 3, 1) := by decide +kernel
theorem dX4_goesOn_14 : decode cX4_goesOn 14 = .ok (.ifCond .ne 16, 3) := by decide +kernel
theorem dX4_goesOn_17 : decode cX4_goesOn 17 = .ok (.iload 4, 2) := by decide +kernel
theorem dX4_goesOn_19 : decode cX4_goesOn 19 = .ok (.ifCond .ge 7, 3) := by decide +kernel
theorem dX4_goesOn_22 : decode cX4_goesOn 22 = .ok (.iconst 1, 1) := by decide +kernel
theorem dX4_goesOn_23 : decode cX4_goesOn 23 = .ok (.goto 17, 3) := by decide +kernel
theorem dX4_goesOn_26 : decode cX4_goesOn 26 = .ok (.iconst 0, 1) := by decide +kernel
theorem dX4_goesOn_27 : decode cX4_goesOn 27 = .ok (.goto 13, 3) := by decide +kernel
theorem dX4_goesOn_30 : decode cX4_goesOn 30 = .ok (.iload 4, 2) := by decide +kernel
theorem dX4_goesOn_32 : decode cX4_goesOn 32 = .ok (.ifCond .le 7, 3) := by decide +kernel
theorem dX4_goesOn_35 : decode cX4_goesOn 35 = .ok (.iconst 1, 1) := by decide +kernel
theorem dX4_goesOn_36 : decode cX4_goesOn 36 = .ok (.goto 4, 3) := by decide +kernel
theorem dX4_goesOn_39 : decode cX4_goesOn 39 = .ok (.iconst 0, 1) := by decide +kernel
theorem dX4_goesOn_40 : decode cX4_goesOn 40 = .ok (.istore 5, 2) := by decide +kernel
theorem dX4_goesOn_42 : decode cX4_goesOn 42 = .ok (.aload_n 0, 1) := by decide +kernel
theorem dX4_goesOn_43 : decode cX4_goesOn 43 = .ok (.getfield 28, 3) := by decide +kernel
theorem dX4_goesOn_46 : decode cX4_goesOn 46 = .ok (.aload_n 0, 1) := by decide +kernel
theorem dX4_goesOn_47 : decode cX4_goesOn 47 = .ok (.getfield 99, 3) := by decide +kernel
theorem dX4_goesOn_50 : decode cX4_goesOn 50 = .ok (.aload_n 0, 1) := by decide +kernel
theorem dX4_goesOn_51 : decode cX4_goesOn 51 = .ok (.getfield 22, 3) := by decide +kernel
theorem dX4_goesOn_54 : decode cX4_goesOn 54 = .ok (.iload_n 1, 1) := by decide +kernel
theorem dX4_goesOn_55 : decode cX4_goesOn 55 = .ok (.iaload, 1) := by decide +kernel
theorem dX4_goesOn_56 : decode cX4_goesOn 56 = .ok (.iload_n 3, 1) := by decide +kernel
theorem dX4_goesOn_57 : decode cX4_goesOn 57 = .ok (.iload_n 2, 1) := by decide +kernel
theorem dX4_goesOn_58 : decode cX4_goesOn 58 = .ok (.ishl, 1) := by decide +kernel
theorem dX4_goesOn_59 : decode cX4_goesOn 59 = .ok (.ior, 1) := by decide +kernel
theorem dX4_goesOn_60 : decode cX4_goesOn 60 = .ok (.iastore, 1) := by decide +kernel
theorem dX4_goesOn_61 : decode cX4_goesOn 61 = .ok (.aload_n 0, 1) := by decide +kernel
theorem dX4_goesOn_62 : decode cX4_goesOn 62 = .ok (.getfield 31, 3) := by decide +kernel
theorem dX4_goesOn_65 : decode cX4_goesOn 65 = .ok (.aload_n 0, 1) := by decide +kernel
theorem dX4_goesOn_66 : decode cX4_goesOn 66 = .ok (.getfield 99, 3) := by decide +kernel
theorem dX4_goesOn_69 : decode cX4_goesOn 69 = .ok (.aload_n 0, 1) := by decide +kernel
theorem dX4_goesOn_70 : decode cX4_goesOn 70 = .ok (.getfield 25, 3) := by decide +kernel
theorem dX4_goesOn_73 : decode cX4_goesOn 73 = .ok (.iload_n 1, 1) := by decide +kernel
theorem dX4_goesOn_74 : decode cX4_goesOn 74 = .ok (.iaload, 1) := by decide +kernel
theorem dX4_goesOn_75 : decode cX4_goesOn 75 = .ok (.iload 5, 2) := by decide +kernel
theorem dX4_goesOn_77 : decode cX4_goesOn 77 = .ok (.ifCond .eq 11, 3) := by decide +kernel
theorem dX4_goesOn_80 : decode cX4_goesOn 80 = .ok (.iload 4, 2) := by decide +kernel
theorem dX4_goesOn_82 : decode cX4_goesOn 82 = .ok (.invokestatic 93, 3) := by decide +kernel
theorem dX4_goesOn_85 : decode cX4_goesOn 85 = .ok (.goto 4, 3) := by decide +kernel
theorem dX4_goesOn_88 : decode cX4_goesOn 88 = .ok (.iconst 0, 1) := by decide +kernel
theorem dX4_goesOn_89 : decode cX4_goesOn 89 = .ok (.iadd, 1) := by decide +kernel
theorem dX4_goesOn_90 : decode cX4_goesOn 90 = .ok (.iastore, 1) := by decide +kernel
theorem dX4_goesOn_91 : decode cX4_goesOn 91 = .ok (.aload_n 0, 1) := by decide +kernel
theorem dX4_goesOn_92 : decode cX4_goesOn 92 = .ok (.dup, 1) := by decide +kernel
theorem dX4_goesOn_93 : decode cX4_goesOn 93 = .ok (.getfield 99, 3) := by decide +kernel
theorem dX4_goesOn_96 : decode cX4_goesOn 96 = .ok (.iconst 1, 1) := by decide +kernel
theorem dX4_goesOn_97 : decode cX4_goesOn 97 = .ok (.iadd, 1) := by decide +kernel
theorem dX4_goesOn_98 : decode cX4_goesOn 98 = .ok (.putfield 99, 3) := by decide +kernel
theorem dX4_goesOn_101 : decode cX4_goesOn 101 = .ok (.return_, 1) := by decide +kernel
theorem dX4_better_0 : decode cX4_better 0 = .ok (.iconst 0, 1) := by decide +kernel
theorem dX4_better_1 : decode cX4_better 1 = .ok (.istore_n 2, 1) := by decide +kernel
theorem dX4_better_2 : decode cX4_better 2 = .ok (.iconst 0, 1) := by decide +kernel
theorem dX4_better_3 : decode cX4_better 3 = .ok (.istore_n 3, 1) := by decide +kernel
theorem dX4_better_4 : decode cX4_better 4 = .ok (.iload_n 3, 1) := by decide +kernel
theorem dX4_better_5 : decode cX4_better 5 = .ok (.aload_n 0, 1) := by decide +kernel
theorem dX4_better_6 : decode cX4_better 6 = .ok (.getfield 99, 3) := by decide +kernel
theorem dX4_better_9 : decode cX4_better 9 = .ok (.if_icmp .ge 52, 3) := by decide +kernel
theorem dX4_better_12 : decode cX4_better 12 = .ok (.iload_n 2, 1) := by decide +kernel
theorem dX4_better_13 : decode cX4_better 13 = .ok (.aload_n 0, 1) := by decide +kernel
theorem dX4_better_14 : decode cX4_better 14 = .ok (.getfield 31, 3) := by decide +kernel
theorem dX4_better_17 : decode cX4_better 17 = .ok (.iload_n 3, 1) := by decide +kernel
theorem dX4_better_18 : decode cX4_better 18 = .ok (.iaload, 1) := by decide +kernel
theorem dX4_better_19 : decode cX4_better 19 = .ok (.aload_n 0, 1) := by decide +kernel
theorem dX4_better_20 : decode cX4_better 20 = .ok (.getfield 31, 3) := by decide +kernel
theorem dX4_better_23 : decode cX4_better 23 = .ok (.iload_n 1, 1) := by decide +kernel
theorem dX4_better_24 : decode cX4_better 24 = .ok (.iaload, 1) := by decide +kernel
theorem dX4_better_25 : decode cX4_better 25 = .ok (.if_icmp .lt 23, 3) := by decide +kernel
theorem dX4_better_28 : decode cX4_better 28 = .ok (.aload_n 0, 1) := by decide +kernel
theorem dX4_better_29 : decode cX4_better 29 = .ok (.getfield 31, 3) := by decide +kernel
theorem dX4_better_32 : decode cX4_better 32 = .ok (.iload_n 3, 1) := by decide +kernel
theorem dX4_better_33 : decode cX4_better 33 = .ok (.iaload, 1) := by decide +kernel
theorem dX4_better_34 : decode cX4_better 34 = .ok (.aload_n 0, 1) := by decide +kernel
theorem dX4_better_35 : decode cX4_better 35 = .ok (.getfield 31, 3) := by decide +kernel
theorem dX4_better_38 : decode cX4_better 38 = .ok (.iload_n 1, 1) := by decide +kernel
theorem dX4_better_39 : decode cX4_better 39 = .ok (.iaload, 1) := by decide +kernel
theorem dX4_better_40 : decode cX4_better 40 = .ok (.if_icmp .ne 12, 3) := by decide +kernel
theorem dX4_better_43 : decode cX4_better 43 = .ok (.iload_n 3, 1) := by decide +kernel
theorem dX4_better_44 : decode cX4_better 44 = .ok (.iload_n 1, 1) := by decide +kernel
theorem dX4_better_45 : decode cX4_better 45 = .ok (.if_icmp .ge 7, 3) := by decide +kernel
theorem dX4_better_48 : decode cX4_better 48 = .ok (.iconst 1, 1) := by decide +kernel
theorem dX4_better_49 : decode cX4_better 49 = .ok (.goto 4, 3) := by decide +kernel
theorem dX4_better_52 : decode cX4_better 52 = .ok (.iconst 0, 1) := by decide +kernel
theorem dX4_better_53 : decode cX4_better 53 = .ok (.iadd, 1) := by decide +kernel
theorem dX4_better_54 : decode cX4_better 54 = .ok (.istore_n 2, 1) := by decide +kernel
theorem dX4_better_55 : decode cX4_better 55 = .ok (.iinc 3 1, 3) := by decide +kernel
theorem dX4_better_58 : decode cX4_better 58 = .ok (.goto (-54), 3) := by decide +kernel
theorem dX4_better_61 : decode cX4_better 61 = .ok (.iload_n 2, 1) := by decide +kernel
theorem dX4_better_62 : decode cX4_better 62 = .ok (.ireturn, 1) := by decide +kernel
set_option maxRecDepth 20000 in
theorem ggX4_stays_X4_better : GoodIn wsX4_stays wsX4_better := goodIn_r _ [11, 1, 6, 12, 13, 14, 15, 16, 17, 18, 19, 20, 21, 22, 23, 24, 25, 26, 27, 28, 29] (by decide +kernel) (by decide +kernel)
set_option maxRecDepth 20000 in
theorem gX4_stays_X4_better : GoodIn wsX4_stays (wsV RX4 102 RX4 yX4_better wsX4_better) := goodIn_app (goodIn_of _ (by decide +kernel)) ggX4_stays_X4_better
theorem dX4_stays_0 : decode cX4_stays 0 = .ok (.iconst 0, 1) := by decide +kernel
theorem dX4_stays_1 : decode cX4_stays 1 = .ok (.istore_n 2, 1) := by decide +kernel
theorem dX4_stays_2 : decode cX4_stays 2 = .ok (.iconst 0, 1) := by decide +kernel
theorem dX4_stays_3 : decode cX4_stays 3 = .ok (.istore_n 3, 1) := by decide +kernel
theorem dX4_stays_4 : decode cX4_stays 4 = .ok (.iload_n 3, 1) := by decide +kernel
theorem dX4_stays_5 : decode cX4_stays 5 = .ok (.aload_n 0, 1) := by decide +kernel
theorem dX4_stays_6 : decode cX4_stays 6 = .ok (.getfield 99, 3) := by decide +kernel
theorem dX4_stays_9 : decode cX4_stays 9 = .ok (.if_icmp .ge 72, 3) := by decide +kernel
theorem dX4_stays_12 : decode cX4_stays 12 = .ok (.aload_n 0, 1) := by decide +kernel
theorem dX4_stays_13 : decode cX4_stays 13 = .ok (.iload_n 3, 1) := by decide +kernel
theorem dX4_stays_14 : decode cX4_stays 14 = .ok (.invokevirtual 102, 3) := by decide +kernel
theorem dX4_stays_17 : decode cX4_stays 17 = .ok (.istore 4, 2) := by decide +kernel
theorem dX4_stays_19 : decode cX4_stays 19 = .ok (.iload 4, 2) := by decide +kernel
theorem dX4_stays_21 : decode cX4_stays 21 = .ok (.aload_n 0, 1) := by decide +kernel
theorem dX4_stays_22 : decode cX4_stays 22 = .ok (.getfield 7, 3) := by decide +kernel
theorem dX4_stays_25 : decode cX4_stays 25 = .ok (.iconst 3, 1) := by decide +kernel
theorem dX4_stays_26 : decode cX4_stays 26 = .ok (.iaload, 1) := by decide +kernel
theorem dX4_stays_27 : decode cX4_stays 27 = .ok (.if_icmp .ge 48, 3) := by decide +kernel
theorem dX4_stays_30 : decode cX4_stays 30 = .ok (.aload_n 0, 1) := by decide +kernel
theorem dX4_stays_31 : decode cX4_stays 31 = .ok (.getfield 22, 3) := by decide +kernel
theorem dX4_stays_34 : decode cX4_stays 34 = .ok (.iload_n 1, 1) := by decide +kernel
theorem dX4_stays_35 : decode cX4_stays 35 = .ok (.ifCond .eq 8, 3) := by decide +kernel
theorem dX4_stays_38 : decode cX4_stays 38 = .ok (.iload 4, 2) := by decide +kernel
theorem dX4_stays_40 : decode cX4_stays 40 = .ok (.goto 4, 3) := by decide +kernel
theorem dX4_stays_43 : decode cX4_stays 43 = .ok (.iload_n 2, 1) := by decide +kernel
theorem dX4_stays_44 : decode cX4_stays 44 = .ok (.aload_n 0, 1) := by decide +kernel
theorem dX4_stays_45 : decode cX4_stays 45 = .ok (.getfield 28, 3) := by decide +kernel
theorem dX4_stays_48 : decode cX4_stays 48 = .ok (.iload_n 3, 1) := by decide +kernel
theorem dX4_stays_49 : decode cX4_stays 49 = .ok (.iaload, 1) := by decide +kernel
theorem dX4_stays_50 : decode cX4_stays 50 = .ok (.iastore, 1) := by decide +kernel
theorem dX4_stays_51 : decode cX4_stays 51 = .ok (.aload_n 0, 1) := by decide +kernel
theorem dX4_stays_52 : decode cX4_stays 52 = .ok (.getfield 25, 3) := by decide +kernel
theorem dX4_stays_55 : decode cX4_stays 55 = .ok (.iload_n 1, 1) := by decide +kernel
theorem dX4_stays_56 : decode cX4_stays 56 = .ok (.ifCond .eq 8, 3) := by decide +kernel
theorem dX4_stays_59 : decode cX4_stays 59 = .ok (.iload 4, 2) := by decide +kernel
theorem dX4_stays_61 : decode cX4_stays 61 = .ok (.goto 4, 3) := by decide +kernel
theorem dX4_stays_64 : decode cX4_stays 64 = .ok (.iload_n 2, 1) := by decide +kernel
theorem dX4_stays_65 : decode cX4_stays 65 = .ok (.aload_n 0, 1) := by decide +kernel
theorem dX4_stays_66 : decode cX4_stays 66 = .ok (.getfield 31, 3) := by decide +kernel
theorem dX4_stays_69 : decode cX4_stays 69 = .ok (.iload_n 3, 1) := by decide +kernel
theorem dX4_stays_70 : decode cX4_stays 70 = .ok (.iaload, 1) := by decide +kernel
theorem dX4_stays_71 : decode cX4_stays 71 = .ok (.iastore, 1) := by decide +kernel
theorem dX4_stays_72 : decode cX4_stays 72 = .ok (.iinc 2 1, 3) := by decide +kernel
theorem dX4_stays_75 : decode cX4_stays 75 = .ok (.iinc 3 1, 3) := by decide +kernel
theorem dX4_stays_78 : decode cX4_stays 78 = .ok (.goto (-74), 3) := by decide +kernel
theorem dX4_stays_81 : decode cX4_stays 81 = .ok (.aload_n 0, 1) := by decide +kernel
theorem dX4_stays_82 : decode cX4_stays 82 = .ok (.iload_n 2, 1) := by decide +kernel
theorem dX4_stays_83 : decode cX4_stays 83 = .ok (.putfield 99, 3) := by decide +kernel
theorem dX4_stays_86 : decode cX4_stays 86 = .ok (.return_, 1) := by decide +kernel
set_option maxRecDepth 20000 in
theorem ggX4_step_X4_goesOn : GoodIn wsX4_step wsX4_goesOn := goodIn_r _ [6, 7, 8, 1, 9, 10, 11, 12, 13, 5, 14, 15, 16, 17, 18, 19, 20, 21, 22, 23, 24, 25, 26, 27, 28, 29, 30, 43, 44, 45, 46, 47, 48, 49, 50, 51, 52, 53, 54, 55, 56, 57, 58, 59, 60] (by decide +kernel) (by decide +kernel)
set_option maxRecDepth 20000 in
theorem gX4_step_X4_goesOn : GoodIn wsX4_step (wsV RX4 105 RX4 yX4_goesOn wsX4_goesOn) := goodIn_app (goodIn_of _ (by decide +kernel)) ggX4_step_X4_goesOn
set_option maxRecDepth 20000 in
theorem ggX4_step_X4_isOpen : GoodIn wsX4_step wsX4_isOpen := goodIn_r _ [34, 15, 43, 44, 45, 46, 47, 48, 49, 50, 51, 52, 53, 54, 55, 56, 57, 58, 59, 60] (by decide +kernel) (by decide +kernel)
set_option maxRecDepth 20000 in
theorem gX4_step_X4_isOpen : GoodIn wsX4_step (wsV RX4 51 RX4 yX4_isOpen wsX4_isOpen) := goodIn_app (goodIn_of _ (by decide +kernel)) ggX4_step_X4_isOpen
set_option maxRecDepth 20000 in
theorem ggX4_step_X4_stays : GoodIn wsX4_step wsX4_stays := goodIn_r _ [38, 1, 15, 7, 8, 10, 9, 39, 40, 41, 5, 42, 43, 44, 45, 46, 47, 48, 49, 50, 51, 52, 53, 54, 55, 56, 57, 58, 59, 60] (by decide +kernel) (by decide +kernel)
set_option maxRecDepth 20000 in
theorem gX4_step_X4_stays : GoodIn wsX4_step (wsV RX4 109 RX4 yX4_stays wsX4_stays) := goodIn_app (goodIn_of _ (by decide +kernel)) ggX4_step_X4_stays
theorem dX4_step_0 : decode cX4_step 0 = .ok (.aload_n 0, 1) := by decide +kernel
theorem dX4_step_1 : decode cX4_step 1 = .ok (.getfield 99, 3) := by decide +kernel
theorem dX4_step_4 : decode cX4_step 4 = .ok (.istore_n 2, 1) := by decide +kernel
theorem dX4_step_5 : decode cX4_step 5 = .ok (.aload_n 0, 1) := by decide +kernel
theorem dX4_step_6 : decode cX4_step 6 = .ok (.iconst 0, 1) := by decide +kernel
theorem dX4_step_7 : decode cX4_step 7 = .ok (.putfield 99, 3) := by decide +kernel
theorem dX4_step_10 : decode cX4_step 10 = .ok (.iconst 0, 1) := by decide +kernel
theorem dX4_step_11 : decode cX4_step 11 = .ok (.istore_n 3, 1) := by decide +kernel
theorem dX4_step_12 : decode cX4_step 12 = .ok (.iload_n 3, 1) := by decide +kernel
theorem dX4_step_13 : decode cX4_step 13 = .ok (.iload_n 2, 1) := by decide +kernel
theorem dX4_step_14 : decode cX4_step 14 = .ok (.if_icmp .ge 31, 3) := by decide +kernel
theorem dX4_step_17 : decode cX4_step 17 = .ok (.aload_n 0, 1) := by decide +kernel
theorem dX4_step_18 : decode cX4_step 18 = .ok (.iload_n 3, 1) := by decide +kernel
theorem dX4_step_19 : decode cX4_step 19 = .ok (.iload_n 1, 1) := by decide +kernel
theorem dX4_step_20 : decode cX4_step 20 = .ok (.iconst 0, 1) := by decide +kernel
theorem dX4_step_21 : decode cX4_step 21 = .ok (.invokevirtual 105, 3) := by decide +kernel
theorem dX4_step_24 : decode cX4_step 24 = .ok (.aload_n 0, 1) := by decide +kernel
theorem dX4_step_25 : decode cX4_step 25 = .ok (.iload_n 1, 1) := by decide +kernel
theorem dX4_step_26 : decode cX4_step 26 = .ok (.invokevirtual 51, 3) := by decide +kernel
theorem dX4_step_29 : decode cX4_step 29 = .ok (.ifCond .eq 10, 3) := by decide +kernel
theorem dX4_step_32 : decode cX4_step 32 = .ok (.aload_n 0, 1) := by decide +kernel
theorem dX4_step_33 : decode cX4_step 33 = .ok (.iload_n 3, 1) := by decide +kernel
theorem dX4_step_34 : decode cX4_step 34 = .ok (.iload_n 1, 1) := by decide +kernel
theorem dX4_step_35 : decode cX4_step 35 = .ok (.iconst 1, 1) := by decide +kernel
theorem dX4_step_36 : decode cX4_step 36 = .ok (.invokevirtual 105, 3) := by decide +kernel
theorem dX4_step_39 : decode cX4_step 39 = .ok (.iinc 3 1, 3) := by decide +kernel
theorem dX4_step_42 : decode cX4_step 42 = .ok (.goto (-30), 3) := by decide +kernel
theorem dX4_step_45 : decode cX4_step 45 = .ok (.aload_n 0, 1) := by decide +kernel
theorem dX4_step_46 : decode cX4_step 46 = .ok (.iconst 0, 1) := by decide +kernel
theorem dX4_step_47 : decode cX4_step 47 = .ok (.invokevirtual 109, 3) := by decide +kernel
theorem dX4_step_50 : decode cX4_step 50 = .ok (.return_, 1) := by decide +kernel
set_option maxRecDepth 20000 in
theorem ggX4_reads_X4_step : GoodIn wsX4_reads wsX4_step := goodIn_r _ [11, 1, 12, 13, 14, 10, 15, 2, 5, 6, 3, 16, 17, 18, 19, 4, 20, 21, 22, 23, 24, 25, 26, 27, 28, 29, 30, 31, 32, 33, 34, 35, 36, 37, 38, 39, 40, 41, 42, 43, 44, 45, 46, 47, 48, 49, 50, 51, 52, 53, 54, 55, 56, 57, 58, 59, 60, 61, 62, 63, 64] (by decide +kernel) (by decide +kernel)
set_option maxRecDepth 20000 in
theorem gX4_reads_X4_step : GoodIn wsX4_reads (wsV RX4 113 RX4 yX4_step wsX4_step) := goodIn_app (goodIn_of _ (by decide +kernel)) ggX4_reads_X4_step
set_option maxRecDepth 20000 in
theorem ggX4_reads_X4_stays : GoodIn wsX4_reads wsX4_stays := goodIn_r _ [42, 1, 4, 2, 5, 3, 6, 43, 44, 45, 10, 46, 47, 48, 49, 50, 51, 52, 53, 54, 55, 56, 57, 58, 59, 60, 61, 62, 63, 64] (by decide +kernel) (by decide +kernel)
set_option maxRecDepth 20000 in
theorem gX4_reads_X4_stays : GoodIn wsX4_reads (wsV RX4 109 RX4 yX4_stays wsX4_stays) := goodIn_app (goodIn_of _ (by decide +kernel)) ggX4_reads_X4_stays
theorem dX4_reads_0 : decode cX4_reads 0 = .ok (.aload_n 0, 1) := by decide +kernel
theorem dX4_reads_1 : decode cX4_reads 1 = .ok (.iconst 1, 1) := by decide +kernel
theorem dX4_reads_2 : decode cX4_reads 2 = .ok (.putfield 99, 3) := by decide +kernel
theorem dX4_reads_5 : decode cX4_reads 5 = .ok (.aload_n 0, 1) := by decide +kernel
theorem dX4_reads_6 : decode cX4_reads 6 = .ok (.getfield 22, 3) := by decide +kernel
theorem dX4_reads_9 : decode cX4_reads 9 = .ok (.iconst 0, 1) := by decide +kernel
theorem dX4_reads_10 : decode cX4_reads 10 = .ok (.iconst 0, 1) := by decide +kernel
theorem dX4_reads_11 : decode cX4_reads 11 = .ok (.iastore, 1) := by decide +kernel
theorem dX4_reads_12 : decode cX4_reads 12 = .ok (.aload_n 0, 1) := by decide +kernel
theorem dX4_reads_13 : decode cX4_reads 13 = .ok (.getfield 25, 3) := by decide +kernel
theorem dX4_reads_16 : decode cX4_reads 16 = .ok (.iconst 0, 1) := by decide +kernel
theorem dX4_reads_17 : decode cX4_reads 17 = .ok (.iconst 0, 1) := by decide +kernel
theorem dX4_reads_18 : decode cX4_reads 18 = .ok (.iastore, 1) := by decide +kernel
theorem dX4_reads_19 : decode cX4_reads 19 = .ok (.iconst 0, 1) := by decide +kernel
theorem dX4_reads_20 : decode cX4_reads 20 = .ok (.istore_n 1, 1) := by decide +kernel
theorem dX4_reads_21 : decode cX4_reads 21 = .ok (.iload_n 1, 1) := by decide +kernel
theorem dX4_reads_22 : decode cX4_reads 22 = .ok (.aload_n 0, 1) := by decide +kernel
theorem dX4_reads_23 : decode cX4_reads 23 = .ok (.getfield 7, 3) := by decide +kernel
theorem dX4_reads_26 : decode cX4_reads 26 = .ok (.iconst 0, 1) := by decide +kernel
theorem dX4_reads_27 : decode cX4_reads 27 = .ok (.iaload, 1) := by decide +kernel
theorem dX4_reads_28 : decode cX4_reads 28 = .ok (.if_icmp .ge 14, 3) := by decide +kernel
theorem dX4_reads_31 : decode cX4_reads 31 = .ok (.aload_n 0, 1) := by decide +kernel
theorem dX4_reads_32 : decode cX4_reads 32 = .ok (.iload_n 1, 1) := by decide +kernel
theorem dX4_reads_33 : decode cX4_reads 33 = .ok (.invokevirtual 113, 3) := by decide +kernel
theorem dX4_reads_36 : decode cX4_reads 36 = .ok (.iinc 1 1, 3) := by decide +kernel
theorem dX4_reads_39 : decode cX4_reads 39 = .ok (.goto (-18), 3) := by decide +kernel
theorem dX4_reads_42 : decode cX4_reads 42 = .ok (.iconst 0, 1) := by decide +kernel
theorem dX4_reads_43 : decode cX4_reads 43 = .ok (.istore_n 1, 1) := by decide +kernel
theorem dX4_reads_44 : decode cX4_reads 44 = .ok (.iload_n 1, 1) := by decide +kernel
theorem dX4_reads_45 : decode cX4_reads 45 = .ok (.aload_n 0, 1) := by decide +kernel
theorem dX4_reads_46 : decode cX4_reads 46 = .ok (.getfield 99, 3) := by decide +kernel
theorem dX4_reads_49 : decode cX4_reads 49 = .ok (.if_icmp .ge 33, 3) := by decide +kernel
theorem dX4_reads_52 : decode cX4_reads 52 = .ok (.aload_n 0, 1) := by decide +kernel
theorem dX4_reads_53 : decode cX4_reads 53 = .ok (.getfield 28, 3) := by decide +kernel
theorem dX4_reads_56 : decode cX4_reads 56 = .ok (.iload_n 1, 1) := by decide +kernel
theorem dX4_reads_57 : decode cX4_reads 57 = .ok (.aload_n 0, 1) := by decide +kernel
theorem dX4_reads_58 : decode cX4_reads 58 = .ok (.getfield 22, 3) := by decide +kernel
theorem dX4_reads_61 : decode cX4_reads 61 = .ok (.iload_n 1, 1) := by decide +kernel
theorem dX4_reads_62 : decode cX4_reads 62 = .ok (.iaload, 1) := by decide +kernel
theorem dX4_reads_63 : decode cX4_reads 63 = .ok (.iastore, 1) := by decide +kernel
theorem dX4_reads_64 : decode cX4_reads 64 = .ok (.aload_n 0, 1) := by decide +kernel
theorem dX4_reads_65 : decode cX4_reads 65 = .ok (.getfield 31, 3) := by decide +kernel
theorem dX4_reads_68 : decode cX4_reads 68 = .ok (.iload_n 1, 1) := by decide +kernel
theorem dX4_reads_69 : decode cX4_reads 69 = .ok (.aload_n 0, 1) := by decide +kernel
theorem dX4_reads_70 : decode cX4_reads 70 = .ok (.getfield 25, 3) := by decide +kernel
theorem dX4_reads_73 : decode cX4_reads 73 = .ok (.iload_n 1, 1) := by decide +kernel
theorem dX4_reads_74 : decode cX4_reads 74 = .ok (.iaload, 1) := by decide +kernel
theorem dX4_reads_75 : decode cX4_reads 75 = .ok (.iastore, 1) := by decide +kernel
theorem dX4_reads_76 : decode cX4_reads 76 = .ok (.iinc 1 1, 3) := by decide +kernel
theorem dX4_reads_79 : decode cX4_reads 79 = .ok (.goto (-35), 3) := by decide +kernel
theorem dX4_reads_82 : decode cX4_reads 82 = .ok (.aload_n 0, 1) := by decide +kernel
theorem dX4_reads_83 : decode cX4_reads 83 = .ok (.iconst 1, 1) := by decide +kernel
theorem dX4_reads_84 : decode cX4_reads 84 = .ok (.invokevirtual 109, 3) := by decide +kernel
theorem dX4_reads_87 : decode cX4_reads 87 = .ok (.return_, 1) := by decide +kernel
set_option maxRecDepth 20000 in
theorem ggX4_readPath_X4_reads : GoodIn wsX4_readPath wsX4_reads := goodIn_r _ [7, 1, 2, 8, 9, 10, 11, 12, 13, 14, 6, 15, 16, 17, 18, 19, 20, 21, 22, 23, 24, 25, 26, 27, 28, 29, 30, 31, 32, 33, 34, 35, 36, 37, 38, 39, 40, 41, 42, 43, 44, 45, 46, 47, 48, 49, 50, 75, 76, 77, 78, 79, 80, 81, 82, 83, 84, 85, 86, 87, 88, 89, 90, 91, 92] (by decide +kernel) (by decide +kernel)
set_option maxRecDepth 20000 in
theorem gX4_readPath_X4_reads : GoodIn wsX4_readPath (wsV RX4 116 RX4 yX4_reads wsX4_reads) := goodIn_app (goodIn_of _ (by decide +kernel)) ggX4_readPath_X4_reads
set_option maxRecDepth 20000 in
theorem ggX4_readPath_X4_messageOf : GoodIn wsX4_readPath wsX4_messageOf := goodIn_r _ [54, 9, 39, 40, 41, 6, 42, 75, 76, 77, 78, 79, 80, 81, 82, 83, 84, 85, 86, 87, 88, 89, 90, 91, 92] (by decide +kernel) (by decide +kernel)
set_option maxRecDepth 20000 in
theorem gX4_readPath_X4_messageOf : GoodIn wsX4_readPath (wsV RX4 119 RX4 yX4_messageOf wsX4_messageOf) := goodIn_app (goodIn_of _ (by decide +kernel)) ggX4_readPath_X4_messageOf
set_option maxRecDepth 20000 in
theorem ggX4_readPath_X4_isRight : GoodIn wsX4_readPath wsX4_isRight := goodIn_r _ [58, 59, 60, 61, 6, 62, 63, 64, 65, 66, 9, 39, 40, 41, 42, 67, 68, 69, 70, 71, 72, 73, 74, 75, 76, 77, 78, 79, 80, 81, 82, 83, 84, 85, 86, 87, 88, 89, 90, 91, 92] (by decide +kernel) (by decide +kernel)
set_option maxRecDepth 20000 in
theorem gX4_readPath_X4_isRight : GoodIn wsX4_readPath (wsV RX4 122 RX4 yX4_isRight wsX4_isRight) := goodIn_app (goodIn_of _ (by decide +kernel)) ggX4_readPath_X4_isRight
theorem dX4_readPath_0 : decode cX4_readPath 0 = .ok (.aload_n 0, 1) := by decide +kernel
theorem dX4_readPath_1 : decode cX4_readPath 1 = .ok (.invokevirtual 116, 3) := by decide +kernel
theorem dX4_readPath_4 : decode cX4_readPath 4 = .ok (.iconst 0, 1) := by decide +kernel
theorem dX4_readPath_5 : decode cX4_readPath 5 = .ok (.istore_n 1, 1) := by decide +kernel
theorem dX4_readPath_6 : decode cX4_readPath 6 = .ok (.iload_n 1, 1) := by decide +kernel
theorem dX4_readPath_7 : decode cX4_readPath 7 = .ok (.aload_n 0, 1) := by decide +kernel
theorem dX4_readPath_8 : decode cX4_readPath 8 = .ok (.getfield 99, 3) := by decide +kernel
theorem dX4_readPath_11 : decode cX4_readPath 11 = .ok (.if_icmp .ge 28, 3) := by decide +kernel
theorem dX4_readPath_14 : decode cX4_readPath 14 = .ok (.aload_n 0, 1) := by decide +kernel
theorem dX4_readPath_15 : decode cX4_readPath 15 = .ok (.aload_n 0, 1) := by decide +kernel
theorem dX4_readPath_16 : decode cX4_readPath 16 = .ok (.aload_n 0, 1) := by decide +kernel
theorem dX4_readPath_17 : decode cX4_readPath 17 = .ok (.getfield 22, 3) := by decide +kernel
theorem dX4_readPath_20 : decode cX4_readPath 20 = .ok (.iload_n 1, 1) := by decide +kernel
theorem dX4_readPath_21 : decode cX4_readPath 21 = .ok (.iaload, 1) := by decide +kernel
theorem dX4_readPath_22 : decode cX4_readPath 22 = .ok (.invokevirtual 119, 3) := by decide +kernel
theorem dX4_readPath_25 : decode cX4_readPath 25 = .ok (.invokevirtual 122, 3) := by decide +kernel
theorem dX4_readPath_28 : decode cX4_readPath 28 = .ok (.ifCond .eq 5, 3) := by decide +kernel
theorem dX4_readPath_31 : decode cX4_readPath 31 = .ok (.iload_n 1, 1) := by decide +kernel
theorem dX4_readPath_32 : decode cX4_readPath 32 = .ok (.ireturn, 1) := by decide +kernel
theorem dX4_readPath_33 : decode cX4_readPath 33 = .ok (.iinc 1 1, 3) := by decide +kernel
theorem dX4_readPath_36 : decode cX4_readPath 36 = .ok (.goto (-30), 3) := by decide +kernel
theorem dX4_readPath_39 : decode cX4_readPath 39 = .ok (.iconst (-1), 1) := by decide +kernel
theorem dX4_readPath_40 : decode cX4_readPath 40 = .ok (.ireturn, 1) := by decide +kernel
set_option maxRecDepth 20000 in
theorem ggX4_readMessage_X4_readPath : GoodIn wsX4_readMessage wsX4_readPath := goodIn_r _ [6, 7, 1, 8, 9, 10, 5, 11, 12, 13, 14, 15, 16, 17, 18, 19, 20, 21, 22, 23, 24, 25, 26, 27, 28, 29, 30, 31, 32, 33, 34, 35, 36, 37, 38, 39, 40, 41, 42, 43, 44, 45, 46, 47, 48, 49, 50, 51, 52, 53, 54, 55, 56, 57, 58, 59, 60, 61, 62, 63, 64, 65, 66, 67, 68, 69, 70, 71, 72, 73, 74, 75, 76, 77, 78, 79, 80, 81, 82, 83, 84, 85, 86, 87, 88, 89, 90, 91, 92, 93, 94, 95, 96] (by decide +kernel) (by decide +kernel)
set_option maxRecDepth 20000 in
theorem gX4_readMessage_X4_readPath : GoodIn wsX4_readMessage (wsV RX4 125 RX4 yX4_readPath wsX4_readPath) := goodIn_app (goodIn_of _ (by decide +kernel)) ggX4_readMessage_X4_readPath
set_option maxRecDepth 20000 in
theorem ggX4_readMessage_X4_messageOf : GoodIn wsX4_readMessage wsX4_messageOf := goodIn_r _ [58, 13, 43, 44, 45, 5, 46, 79, 80, 81, 82, 83, 84, 85, 86, 87, 88, 89, 90, 91, 92, 93, 94, 95, 96] (by decide +kernel) (by decide +kernel)
set_option maxRecDepth 20000 in
theorem gX4_readMessage_X4_messageOf : GoodIn wsX4_readMessage (wsV RX4 119 RX4 yX4_messageOf wsX4_messageOf) := goodIn_app (goodIn_of _ (by decide +kernel)) ggX4_readMessage_X4_messageOf
theorem dX4_readMessage_0 : decode cX4_readMessage 0 = .ok (.aload_n 0, 1) := by decide +kernel
theorem dX4_readMessage_1 : decode cX4_readMessage 1 = .ok (.invokevirtual 125, 3) := by decide +kernel
theorem dX4_readMessage_4 : decode cX4_readMessage 4 = .ok (.istore_n 1, 1) := by decide +kernel
theorem dX4_readMessage_5 : decode cX4_readMessage 5 = .ok (.iload_n 1, 1) := by decide +kernel
theorem dX4_readMessage_6 : decode cX4_readMessage 6 = .ok (.iconst (-1), 1) := by decide +kernel
theorem dX4_readMessage_7 : decode cX4_readMessage 7 = .ok (.if_icmp .ne 7, 3) := by decide +kernel
theorem dX4_readMessage_10 : decode cX4_readMessage 10 = .ok (.iconst (-1), 1) := by decide +kernel
theorem dX4_readMessage_11 : decode cX4_readMessage 11 = .ok (.goto 13, 3) := by decide +kernel
theorem dX4_readMessage_14 : decode cX4_readMessage 14 = .ok (.aload_n 0, 1) := by decide +kernel
theorem dX4_readMessage_15 : decode cX4_readMessage 15 = .ok (.aload_n 0, 1) := by decide +kernel
theorem dX4_readMessage_16 : decode cX4_readMessage 16 = .ok (.getfield 22, 3) := by decide +kernel
theorem dX4_readMessage_19 : decode cX4_readMessage 19 = .ok (.iload_n 1, 1) := by decide +kernel
theorem dX4_readMessage_20 : decode cX4_readMessage 20 = .ok (.iaload, 1) := by decide +kernel
theorem dX4_readMessage_21 : decode cX4_readMessage 21 = .ok (.invokevirtual 119, 3) := by decide +kernel
theorem dX4_readMessage_24 : decode cX4_readMessage 24 = .ok (.ireturn, 1) := by decide +kernel
theorem dX4_differing_0 : decode cX4_differing 0 = .ok (.iconst 0, 1) := by decide +kernel
theorem dX4_differing_1 : decode cX4_differing 1 = .ok (.istore_n 2, 1) := by decide +kernel
theorem dX4_differing_2 : decode cX4_differing 2 = .ok (.iconst 0, 1) := by decide +kernel
theorem dX4_differing_3 : decode cX4_differing 3 = .ok (.istore_n 3, 1) := by decide +kernel
theorem dX4_differing_4 : decode cX4_differing 4 = .ok (.iload_n 3, 1) := by decide +kernel
theorem dX4_differing_5 : decode cX4_differing 5 = .ok (.aload_n 0, 1) := by decide +kernel
theorem dX4_differing_6 : decode cX4_differing 6 = .ok (.getfield 7, 3) := by decide +kernel
theorem dX4_differing_9 : decode cX4_differing 9 = .ok (.iconst 0, 1) := by decide +kernel
theorem dX4_differing_10 : decode cX4_differing 10 = .ok (.iaload, 1) := by decide +kernel
theorem dX4_differing_11 : decode cX4_differing 11 = .ok (.if_icmp .ge 58, 3) := by decide +kernel
theorem dX4_differing_14 : decode cX4_differing 14 = .ok (.iload_n 2, 1) := by decide +kernel
theorem dX4_differing_15 : decode cX4_differing 15 = .ok (.iload_n 1, 1) := by decide +kernel
theorem dX4_differing_16 : decode cX4_differing 16 = .ok (.iload_n 3, 1) := by decide +kernel
theorem dX4_differing_17 : decode cX4_differing 17 = .ok (.ishr, 1) := by decide +kernel
theorem dX4_differing_18 : decode cX4_differing 18 = .ok (.iconst 1, 1) := by decide +kernel
theorem dX4_differing_19 : decode cX4_differing 19 = .ok (.iand, 1) := by decide +kernel
theorem dX4_differing_20 : decode cX4_differing 20 = .ok (.iconst 1, 1) := by decide +kernel
theorem dX4_differing_21 : decode cX4_differing 21 = .ok (.if_icmp .ne 23, 3) := by decide +kernel
theorem dX4_differing_24 : decode cX4_differing 24 = .ok (.aload_n 0, 1) := by decide +kernel
theorem dX4_differing_25 : decode cX4_differing 25 = .ok (.getfield 7, 3) := by decide +kernel
theorem dX4_differing_28 : decode cX4_differing 28 = .ok (.bipush 6, 2) := by decide +kernel
theorem dX4_differing_30 : decode cX4_differing 30 = .ok (.iload_n 3, 1) := by decide +kernel
theorem dX4_differing_31 : decode cX4_differing 31 = .ok (.iadd, 1) := by decide +kernel
theorem dX4_differing_32 : decode cX4_differing 32 = .ok (.iaload, 1) := by decide +kernel
theorem dX4_differing_33 : decode cX4_differing 33 = .ok (.ifCond .le 7, 3) := by decide +kernel
theorem dX4_differing_36 : decode cX4_differing 36 = .ok (.iconst 1, 1) := by decide +kernel
theorem dX4_differing_37 : decode cX4_differing 37 = .ok (.goto 24, 3) := by decide +kernel
theorem dX4_differing_40 : decode cX4_differing 40 = .ok (.iconst 0, 1) := by decide +kernel
theorem dX4_differing_41 : decode cX4_differing 41 = .ok (.goto 20, 3) := by decide +kernel
theorem dX4_differing_44 : decode cX4_differing 44 = .ok (.aload_n 0, 1) := by decide +kernel
theorem dX4_differing_45 : decode cX4_differing 45 = .ok (.getfield 7, 3) := by decide +kernel
theorem dX4_differing_48 : decode cX4_differing 48 = .ok (.bipush 6, 2) := by decide +kernel
theorem dX4_differing_50 : decode cX4_differing 50 = .ok (.iload_n 3, 1) := by decide +kernel
theorem dX4_differing_51 : decode cX4_differing 51 = .ok (.iadd, 1) := by decide +kernel
theorem dX4_differing_52 : decode cX4_differing 52 = .ok (.iaload, 1) := by decide +kernel
theorem dX4_differing_53 : decode cX4_differing 53 = .ok (.ifCond .ge 7, 3) := by decide +kernel
theorem dX4_differing_56 : decode cX4_differing 56 = .ok (.iconst 1, 1) := by decide +kernel
theorem dX4_differing_57 : decode cX4_differing 57 = .ok (.goto 4, 3) := by decide +kernel
theorem dX4_differing_60 : decode cX4_differing 60 = .ok (.iconst 0, 1) := by decide +kernel
theorem dX4_differing_61 : decode cX4_differing 61 = .ok (.iadd, 1) := by decide +kernel
theorem dX4_differing_62 : decode cX4_differing 62 = .ok (.istore_n 2, 1) := by decide +kernel
theorem dX4_differing_63 : decode cX4_differing 63 = .ok (.iinc 3 1, 3) := by decide +kernel
theorem dX4_differing_66 : decode cX4_differing 66 = .ok (.goto (-62), 3) := by decide +kernel
theorem dX4_differing_69 : decode cX4_differing 69 = .ok (.iload_n 2, 1) := by decide +kernel
theorem dX4_differing_70 : decode cX4_differing 70 = .ok (.ireturn, 1) := by decide +kernel
set_option maxRecDepth 20000 in
theorem ggX4_begin_X4_in : GoodIn wsX4_begin wsX4_in := goodIn_r _ [6] (by decide +kernel) (by decide +kernel)
set_option maxRecDepth 20000 in
theorem gX4_begin_X4_in : GoodIn wsX4_begin (va_wsS RX4 44 yX4_in wsX4_in) := goodIn_app (goodIn_of _ (by decide +kernel)) ggX4_begin_X4_in
set_option maxRecDepth 20000 in
theorem ggX4_begin_X4_fails : GoodIn wsX4_begin wsX4_fails := goodIn_r _ [10, 1, 17, 18, 19, 20, 21, 22, 23, 24, 25, 26, 27, 28, 29, 30, 31, 32, 33, 34] (by decide +kernel) (by decide +kernel)
set_option maxRecDepth 20000 in
theorem gX4_begin_X4_fails : GoodIn wsX4_begin (wsV RX4 128 RX4 yX4_fails wsX4_fails) := goodIn_app (goodIn_of _ (by decide +kernel)) ggX4_begin_X4_fails
set_option maxRecDepth 20000 in
theorem ggX4_begin_X4_saves : GoodIn wsX4_begin wsX4_saves := goodIn_r _ [14, 15, 16, 2, 17, 18, 19, 20, 21, 22, 23, 24, 25, 26, 27, 28, 29, 30, 31, 32, 33, 34] (by decide +kernel) (by decide +kernel)
set_option maxRecDepth 20000 in
theorem gX4_begin_X4_saves : GoodIn wsX4_begin (wsV RX4 131 RX4 yX4_saves wsX4_saves) := goodIn_app (goodIn_of _ (by decide +kernel)) ggX4_begin_X4_saves
theorem dX4_begin_0 : decode cX4_begin 0 = .ok (.aload_n 0, 1) := by decide +kernel
theorem dX4_begin_1 : decode cX4_begin 1 = .ok (.iconst 0, 1) := by decide +kernel
theorem dX4_begin_2 : decode cX4_begin 2 = .ok (.putfield 40, 3) := by decide +kernel
theorem dX4_begin_5 : decode cX4_begin 5 = .ok (.iload_n 1, 1) := by decide +kernel
theorem dX4_begin_6 : decode cX4_begin 6 = .ok (.iconst 1, 1) := by decide +kernel
theorem dX4_begin_7 : decode cX4_begin 7 = .ok (.iconst 4, 1) := by decide +kernel
theorem dX4_begin_8 : decode cX4_begin 8 = .ok (.invokestatic 44, 3) := by decide +kernel
theorem dX4_begin_11 : decode cX4_begin 11 = .ok (.ifCond .ne 9, 3) := by decide +kernel
theorem dX4_begin_14 : decode cX4_begin 14 = .ok (.aload_n 0, 1) := by decide +kernel
theorem dX4_begin_15 : decode cX4_begin 15 = .ok (.iconst 1, 1) := by decide +kernel
theorem dX4_begin_16 : decode cX4_begin 16 = .ok (.invokevirtual 128, 3) := by decide +kernel
theorem dX4_begin_19 : decode cX4_begin 19 = .ok (.ireturn, 1) := by decide +kernel
theorem dX4_begin_20 : decode cX4_begin 20 = .ok (.aload_n 0, 1) := by decide +kernel
theorem dX4_begin_21 : decode cX4_begin 21 = .ok (.invokevirtual 131, 3) := by decide +kernel
theorem dX4_begin_24 : decode cX4_begin 24 = .ok (.aload_n 0, 1) := by decide +kernel
theorem dX4_begin_25 : decode cX4_begin 25 = .ok (.getfield 7, 3) := by decide +kernel
theorem dX4_begin_28 : decode cX4_begin 28 = .ok (.iconst 0, 1) := by decide +kernel
theorem dX4_begin_29 : decode cX4_begin 29 = .ok (.iconst 1, 1) := by decide +kernel
theorem dX4_begin_30 : decode cX4_begin 30 = .ok (.iload_n 1, 1) := by decide +kernel
theorem dX4_begin_31 : decode cX4_begin 31 = .ok (.ishl, 1) := by decide +kernel
theorem dX4_begin_32 : decode cX4_begin 32 = .ok (.iastore, 1) := by decide +kernel
theorem dX4_begin_33 : decode cX4_begin 33 = .ok (.aload_n 0, 1) := by decide +kernel
theorem dX4_begin_34 : decode cX4_begin 34 = .ok (.getfield 7, 3) := by decide +kernel
theorem dX4_begin_37 : decode cX4_begin 37 = .ok (.iconst 1, 1) := by decide +kernel
theorem dX4_begin_38 : decode cX4_begin 38 = .ok (.iconst 0, 1) := by decide +kernel
theorem dX4_begin_39 : decode cX4_begin 39 = .ok (.iastore, 1) := by decide +kernel
theorem dX4_begin_40 : decode cX4_begin 40 = .ok (.iconst 0, 1) := by decide +kernel
theorem dX4_begin_41 : decode cX4_begin 41 = .ok (.istore_n 2, 1) := by decide +kernel
theorem dX4_begin_42 : decode cX4_begin 42 = .ok (.iload_n 2, 1) := by decide +kernel
theorem dX4_begin_43 : decode cX4_begin 43 = .ok (.bipush 16, 2) := by decide +kernel
theorem dX4_begin_45 : decode cX4_begin 45 = .ok (.if_icmp .ge 19, 3) := by decide +kernel
theorem dX4_begin_48 : decode cX4_begin 48 = .ok (.aload_n 0, 1) := by decide +kernel
theorem dX4_begin_49 : decode cX4_begin 49 = .ok (.getfield 7, 3) := by decide +kernel
theorem dX4_begin_52 : decode cX4_begin 52 = .ok (.bipush 6, 2) := by decide +kernel
theorem dX4_begin_54 : decode cX4_begin 54 = .ok (.iload_n 2, 1) := by decide +kernel
theorem dX4_begin_55 : decode cX4_begin 55 = .ok (.iadd, 1) := by decide +kernel
theorem dX4_begin_56 : decode cX4_begin 56 = .ok (.iconst 0, 1) := by decide +kernel
theorem dX4_begin_57 : decode cX4_begin 57 = .ok (.iastore, 1) := by decide +kernel
theorem dX4_begin_58 : decode cX4_begin 58 = .ok (.iinc 2 1, 3) := by decide +kernel
theorem dX4_begin_61 : decode cX4_begin 61 = .ok (.goto (-19), 3) := by decide +kernel
theorem dX4_begin_64 : decode cX4_begin 64 = .ok (.aload_n 0, 1) := by decide +kernel
theorem dX4_begin_65 : decode cX4_begin 65 = .ok (.getfield 7, 3) := by decide +kernel
theorem dX4_begin_68 : decode cX4_begin 68 = .ok (.iconst 0, 1) := by decide +kernel
theorem dX4_begin_69 : decode cX4_begin 69 = .ok (.iaload, 1) := by decide +kernel
theorem dX4_begin_70 : decode cX4_begin 70 = .ok (.ireturn, 1) := by decide +kernel
set_option maxRecDepth 20000 in
theorem ggX4_open_X4_in : GoodIn wsX4_open wsX4_in := goodIn_r _ [6] (by decide +kernel) (by decide +kernel)
set_option maxRecDepth 20000 in
theorem gX4_open_X4_in : GoodIn wsX4_open (va_wsS RX4 44 yX4_in wsX4_in) := goodIn_app (goodIn_of _ (by decide +kernel)) ggX4_open_X4_in
set_option maxRecDepth 20000 in
theorem ggX4_open_X4_fails : GoodIn wsX4_open wsX4_fails := goodIn_r _ [10, 1, 28, 29, 30, 31, 32, 33, 34, 35, 36, 37, 38, 39, 40, 41, 42, 43, 44, 45] (by decide +kernel) (by decide +kernel)
set_option maxRecDepth 20000 in
theorem gX4_open_X4_fails : GoodIn wsX4_open (wsV RX4 128 RX4 yX4_fails wsX4_fails) := goodIn_app (goodIn_of _ (by decide +kernel)) ggX4_open_X4_fails
set_option maxRecDepth 20000 in
theorem ggX4_open_X4_saves : GoodIn wsX4_open wsX4_saves := goodIn_r _ [14, 15, 16, 2, 28, 29, 30, 31, 32, 33, 34, 35, 36, 37, 38, 39, 40, 41, 42, 43, 44, 45] (by decide +kernel) (by decide +kernel)
set_option maxRecDepth 20000 in
theorem gX4_open_X4_saves : GoodIn wsX4_open (wsV RX4 131 RX4 yX4_saves wsX4_saves) := goodIn_app (goodIn_of _ (by decide +kernel)) ggX4_open_X4_saves
set_option maxRecDepth 20000 in
theorem ggX4_open_X4_rankOf : GoodIn wsX4_open wsX4_rankOf := goodIn_r _ [20, 2, 21, 22, 23, 5, 24, 25, 26, 27, 28, 29, 30, 31, 32, 33, 34, 35, 36, 37, 38, 39, 40, 41, 42, 43, 44, 45] (by decide +kernel) (by decide +kernel)
set_option maxRecDepth 20000 in
theorem gX4_open_X4_rankOf : GoodIn wsX4_open (wsV RX4 134 RX4 yX4_rankOf wsX4_rankOf) := goodIn_app (goodIn_of _ (by decide +kernel)) ggX4_open_X4_rankOf
theorem dX4_open_0 : decode cX4_open 0 = .ok (.aload_n 0, 1) := by decide +kernel
theorem dX4_open_1 : decode cX4_open 1 = .ok (.iconst 0, 1) := by decide +kernel
theorem dX4_open_2 : decode cX4_open 2 = .ok (.putfield 40, 3) := by decide +kernel
theorem dX4_open_5 : decode cX4_open 5 = .ok (.iload_n 1, 1) := by decide +kernel
theorem dX4_open_6 : decode cX4_open 6 = .ok (.iconst 0, 1) := by decide +kernel
theorem dX4_open_7 : decode cX4_open 7 = .ok (.bipush 16, 2) := by decide +kernel
theorem dX4_open_9 : decode cX4_open 9 = .ok (.invokestatic 44, 3) := by decide +kernel
theorem dX4_open_12 : decode cX4_open 12 = .ok (.ifCond .ne 9, 3) := by decide +kernel
theorem dX4_open_15 : decode cX4_open 15 = .ok (.aload_n 0, 1) := by decide +kernel
theorem dX4_open_16 : decode cX4_open 16 = .ok (.iconst 1, 1) := by decide +kernel
theorem dX4_open_17 : decode cX4_open 17 = .ok (.invokevirtual 128, 3) := by decide +kernel
theorem dX4_open_20 : decode cX4_open 20 = .ok (.ireturn, 1) := by decide +kernel
theorem dX4_open_21 : decode cX4_open 21 = .ok (.iload_n 1, 1) := by decide +kernel
theorem dX4_open_22 : decode cX4_open 22 = .ok (.aload_n 0, 1) := by decide +kernel
theorem dX4_open_23 : decode cX4_open 23 = .ok (.getfield 7, 3) := by decide +kernel
theorem dX4_open_26 : decode cX4_open 26 = .ok (.iconst 0, 1) := by decide +kernel
theorem dX4_open_27 : decode cX4_open 27 = .ok (.iaload, 1) := by decide +kernel
theorem dX4_open_28 : decode cX4_open 28 = .ok (.if_icmp .le 9, 3) := by decide +kernel
theorem dX4_open_31 : decode cX4_open 31 = .ok (.aload_n 0, 1) := by decide +kernel
theorem dX4_open_32 : decode cX4_open 32 = .ok (.iconst 2, 1) := by decide +kernel
theorem dX4_open_33 : decode cX4_open 33 = .ok (.invokevirtual 128, 3) := by decide +kernel
theorem dX4_open_36 : decode cX4_open 36 = .ok (.ireturn, 1) := by decide +kernel
theorem dX4_open_37 : decode cX4_open 37 = .ok (.aload_n 0, 1) := by decide +kernel
theorem dX4_open_38 : decode cX4_open 38 = .ok (.invokevirtual 131, 3) := by decide +kernel
theorem dX4_open_41 : decode cX4_open 41 = .ok (.iconst 0, 1) := by decide +kernel
theorem dX4_open_42 : decode cX4_open 42 = .ok (.istore_n 2, 1) := by decide +kernel
theorem dX4_open_43 : decode cX4_open 43 = .ok (.iconst 0, 1) := by decide +kernel
theorem dX4_open_44 : decode cX4_open 44 = .ok (.istore_n 3, 1) := by decide +kernel
theorem dX4_open_45 : decode cX4_open 45 = .ok (.iload_n 3, 1) := by decide +kernel
theorem dX4_open_46 : decode cX4_open 46 = .ok (.aload_n 0, 1) := by decide +kernel
theorem dX4_open_47 : decode cX4_open 47 = .ok (.getfield 7, 3) := by decide +kernel
theorem dX4_open_50 : decode cX4_open 50 = .ok (.iconst 0, 1) := by decide +kernel
theorem dX4_open_51 : decode cX4_open 51 = .ok (.iaload, 1) := by decide +kernel
theorem dX4_open_52 : decode cX4_open 52 = .ok (.if_icmp .ge 28, 3) := by decide +kernel
theorem dX4_open_55 : decode cX4_open 55 = .ok (.iload_n 2, 1) := by decide +kernel
theorem dX4_open_56 : decode cX4_open 56 = .ok (.aload_n 0, 1) := by decide +kernel
theorem dX4_open_57 : decode cX4_open 57 = .ok (.iload_n 3, 1) := by decide +kernel
theorem dX4_open_58 : decode cX4_open 58 = .ok (.invokevirtual 134, 3) := by decide +kernel
theorem dX4_open_61 : decode cX4_open 61 = .ok (.iload_n 1, 1) := by decide +kernel
theorem dX4_open_62 : decode cX4_open 62 = .ok (.if_icmp .ge 9, 3) := by decide +kernel
theorem dX4_open_65 : decode cX4_open 65 = .ok (.iconst 1, 1) := by decide +kernel
theorem dX4_open_66 : decode cX4_open 66 = .ok (.iload_n 3, 1) := by decide +kernel
theorem dX4_open_67 : decode cX4_open 67 = .ok (.ishl, 1) := by decide +kernel
theorem dX4_open_68 : decode cX4_open 68 = .ok (.goto 4, 3) := by decide +kernel
theorem dX4_open_71 : decode cX4_open 71 = .ok (.iconst 0, 1) := by decide +kernel
theorem dX4_open_72 : decode cX4_open 72 = .ok (.ior, 1) := by decide +kernel
theorem dX4_open_73 : decode cX4_open 73 = .ok (.istore_n 2, 1) := by decide +kernel
theorem dX4_open_74 : decode cX4_open 74 = .ok (.iinc 3 1, 3) := by decide +kernel
theorem dX4_open_77 : decode cX4_open 77 = .ok (.goto (-32), 3) := by decide +kernel
theorem dX4_open_80 : decode cX4_open 80 = .ok (.aload_n 0, 1) := by decide +kernel
theorem dX4_open_81 : decode cX4_open 81 = .ok (.getfield 7, 3) := by decide +kernel
theorem dX4_open_84 : decode cX4_open 84 = .ok (.iconst 1, 1) := by decide +kernel
theorem dX4_open_85 : decode cX4_open 85 = .ok (.iload_n 2, 1) := by decide +kernel
theorem dX4_open_86 : decode cX4_open 86 = .ok (.iastore, 1) := by decide +kernel
theorem dX4_open_87 : decode cX4_open 87 = .ok (.iload_n 2, 1) := by decide +kernel
theorem dX4_open_88 : decode cX4_open 88 = .ok (.ireturn, 1) := by decide +kernel
set_option maxRecDepth 20000 in
theorem ggX4_toggle_X4_isPlace : GoodIn wsX4_toggle wsX4_isPlace := goodIn_r _ [7, 2, 8, 9, 6, 10, 25, 26, 27, 28, 29, 30, 31, 32, 33, 34, 35, 36, 37, 38, 39, 40, 41, 42] (by decide +kernel) (by decide +kernel)
set_option maxRecDepth 20000 in
theorem gX4_toggle_X4_isPlace : GoodIn wsX4_toggle (wsV RX4 137 RX4 yX4_isPlace wsX4_isPlace) := goodIn_app (goodIn_of _ (by decide +kernel)) ggX4_toggle_X4_isPlace
set_option maxRecDepth 20000 in
theorem ggX4_toggle_X4_fails : GoodIn wsX4_toggle wsX4_fails := goodIn_r _ [14, 1, 25, 26, 27, 28, 29, 30, 31, 32, 33, 34, 35, 36, 37, 38, 39, 40, 41, 42] (by decide +kernel) (by decide +kernel)
set_option maxRecDepth 20000 in
theorem gX4_toggle_X4_fails : GoodIn wsX4_toggle (wsV RX4 128 RX4 yX4_fails wsX4_fails) := goodIn_app (goodIn_of _ (by decide +kernel)) ggX4_toggle_X4_fails
set_option maxRecDepth 20000 in
theorem ggX4_toggle_X4_saves : GoodIn wsX4_toggle wsX4_saves := goodIn_r _ [18, 19, 20, 2, 25, 26, 27, 28, 29, 30, 31, 32, 33, 34, 35, 36, 37, 38, 39, 40, 41, 42] (by decide +kernel) (by decide +kernel)
set_option maxRecDepth 20000 in
theorem gX4_toggle_X4_saves : GoodIn wsX4_toggle (wsV RX4 131 RX4 yX4_saves wsX4_saves) := goodIn_app (goodIn_of _ (by decide +kernel)) ggX4_toggle_X4_saves
set_option maxRecDepth 20000 in
theorem ggX4_toggle_X4_isOpen : GoodIn wsX4_toggle wsX4_isOpen := goodIn_r _ [24, 2, 25, 26, 27, 28, 29, 30, 31, 32, 33, 34, 35, 36, 37, 38, 39, 40, 41, 42] (by decide +kernel) (by decide +kernel)
set_option maxRecDepth 20000 in
theorem gX4_toggle_X4_isOpen : GoodIn wsX4_toggle (wsV RX4 51 RX4 yX4_isOpen wsX4_isOpen) := goodIn_app (goodIn_of _ (by decide +kernel)) ggX4_toggle_X4_isOpen
theorem dX4_toggle_0 : decode cX4_toggle 0 = .ok (.aload_n 0, 1) := by decide +kernel
theorem dX4_toggle_1 : decode cX4_toggle 1 = .ok (.iconst 0, 1) := by decide +kernel
theorem dX4_toggle_2 : decode cX4_toggle 2 = .ok (.putfield 40, 3) := by decide +kernel
theorem dX4_toggle_5 : decode cX4_toggle 5 = .ok (.aload_n 0, 1) := by decide +kernel
theorem dX4_toggle_6 : decode cX4_toggle 6 = .ok (.iload_n 1, 1) := by decide +kernel
theorem dX4_toggle_7 : decode cX4_toggle 7 = .ok (.invokevirtual 137, 3) := by decide +kernel
theorem dX4_toggle_10 : decode cX4_toggle 10 = .ok (.ifCond .ne 9, 3) := by decide +kernel
theorem dX4_toggle_13 : decode cX4_toggle 13 = .ok (.aload_n 0, 1) := by decide +kernel
theorem dX4_toggle_14 : decode cX4_toggle 14 = .ok (.iconst 1, 1) := by decide +kernel
theorem dX4_toggle_15 : decode cX4_toggle 15 = .ok (.invokevirtual 128, 3) := by decide +kernel
theorem dX4_toggle_18 : decode cX4_toggle 18 = .ok (.ireturn, 1) := by decide +kernel
theorem dX4_toggle_19 : decode cX4_toggle 19 = .ok (.aload_n 0, 1) := by decide +kernel
theorem dX4_toggle_20 : decode cX4_toggle 20 = .ok (.invokevirtual 131, 3) := by decide +kernel
theorem dX4_toggle_23 : decode cX4_toggle 23 = .ok (.aload_n 0, 1) := by decide +kernel
theorem dX4_toggle_24 : decode cX4_toggle 24 = .ok (.getfield 7, 3) := by decide +kernel
theorem dX4_toggle_27 : decode cX4_toggle 27 = .ok (.iconst 1, 1) := by decide +kernel
theorem dX4_toggle_28 : decode cX4_toggle 28 = .ok (.dup2, 1) := by decide +kernel
theorem dX4_toggle_29 : decode cX4_toggle 29 = .ok (.iaload, 1) := by decide +kernel
theorem dX4_toggle_30 : decode cX4_toggle 30 = .ok (.iconst 1, 1) := by decide +kernel
theorem dX4_toggle_31 : decode cX4_toggle 31 = .ok (.iload_n 1, 1) := by decide +kernel
theorem dX4_toggle_32 : decode cX4_toggle 32 = .ok (.ishl, 1) := by decide +kernel
theorem dX4_toggle_33 : decode cX4_toggle 33 = .ok (.ixor, 1) := by decide +kernel
theorem dX4_toggle_34 : decode cX4_toggle 34 = .ok (.iastore, 1) := by decide +kernel
theorem dX4_toggle_35 : decode cX4_toggle 35 = .ok (.aload_n 0, 1) := by decide +kernel
theorem dX4_toggle_36 : decode cX4_toggle 36 = .ok (.iload_n 1, 1) := by decide +kernel
theorem dX4_toggle_37 : decode cX4_toggle 37 = .ok (.invokevirtual 51, 3) := by decide +kernel
theorem dX4_toggle_40 : decode cX4_toggle 40 = .ok (.ifCond .eq 7, 3) := by decide +kernel
theorem dX4_toggle_43 : decode cX4_toggle 43 = .ok (.iconst 1, 1) := by decide +kernel
theorem dX4_toggle_44 : decode cX4_toggle 44 = .ok (.goto 4, 3) := by decide +kernel
theorem dX4_toggle_47 : decode cX4_toggle 47 = .ok (.iconst 0, 1) := by decide +kernel
theorem dX4_toggle_48 : decode cX4_toggle 48 = .ok (.ireturn, 1) := by decide +kernel
set_option maxRecDepth 20000 in
theorem ggX4_isSetting_X4_in : GoodIn wsX4_isSetting wsX4_in := goodIn_r _ [4] (by decide +kernel) (by decide +kernel)
set_option maxRecDepth 20000 in
theorem gX4_isSetting_X4_in : GoodIn wsX4_isSetting (va_wsS RX4 44 yX4_in wsX4_in) := goodIn_app (goodIn_of _ (by decide +kernel)) ggX4_isSetting_X4_in
theorem dX4_isSetting_0 : decode cX4_isSetting 0 = .ok (.iload_n 0, 1) := by decide +kernel
theorem dX4_isSetting_1 : decode cX4_isSetting 1 = .ok (.tableswitch 50 0 2 #[27, 36, 43], 27) := by decide +kernel
theorem dX4_isSetting_28 : decode cX4_isSetting 28 = .ok (.iload_n 1, 1) := by decide +kernel
theorem dX4_isSetting_29 : decode cX4_isSetting 29 = .ok (.iconst 1, 1) := by decide +kernel
theorem dX4_isSetting_30 : decode cX4_isSetting 30 = .ok (.sipush 999, 3) := by decide +kernel
theorem dX4_isSetting_33 : decode cX4_isSetting 33 = .ok (.invokestatic 44, 3) := by decide +kernel
theorem dX4_isSetting_36 : decode cX4_isSetting 36 = .ok (.ireturn, 1) := by decide +kernel
theorem dX4_isSetting_37 : decode cX4_isSetting 37 = .ok (.iload_n 1, 1) := by decide +kernel
theorem dX4_isSetting_38 : decode cX4_isSetting 38 = .ok (.iconst 1, 1) := by decide +kernel
theorem dX4_isSetting_39 : decode cX4_isSetting 39 = .ok (.iconst 4, 1) := by decide +kernel
theorem dX4_isSetting_40 : decode cX4_isSetting 40 = .ok (.invokestatic 44, 3) := by decide +kernel
theorem dX4_isSetting_43 : decode cX4_isSetting 43 = .ok (.ireturn, 1) := by decide +kernel
theorem dX4_isSetting_44 : decode cX4_isSetting 44 = .ok (.iload_n 1, 1) := by decide +kernel
theorem dX4_isSetting_45 : decode cX4_isSetting 45 = .ok (.iconst 0, 1) := by decide +kernel
theorem dX4_isSetting_46 : decode cX4_isSetting 46 = .ok (.iconst 3, 1) := by decide +kernel
theorem dX4_isSetting_47 : decode cX4_isSetting 47 = .ok (.invokestatic 44, 3) := by decide +kernel
theorem dX4_isSetting_50 : decode cX4_isSetting 50 = .ok (.ireturn, 1) := by decide +kernel
theorem dX4_isSetting_51 : decode cX4_isSetting 51 = .ok (.iload_n 1, 1) := by decide +kernel
theorem dX4_isSetting_52 : decode cX4_isSetting 52 = .ok (.iconst 1, 1) := by decide +kernel
theorem dX4_isSetting_53 : decode cX4_isSetting 53 = .ok (.bipush 99, 2) := by decide +kernel
theorem dX4_isSetting_55 : decode cX4_isSetting 55 = .ok (.invokestatic 44, 3) := by decide +kernel
theorem dX4_isSetting_58 : decode cX4_isSetting 58 = .ok (.ireturn, 1) := by decide +kernel
set_option maxRecDepth 20000 in
theorem ggX4_set_X4_in : GoodIn wsX4_set wsX4_in := goodIn_r _ [6] (by decide +kernel) (by decide +kernel)
set_option maxRecDepth 20000 in
theorem gX4_set_X4_in : GoodIn wsX4_set (va_wsS RX4 44 yX4_in wsX4_in) := goodIn_app (goodIn_of _ (by decide +kernel)) ggX4_set_X4_in
set_option maxRecDepth 20000 in
theorem ggX4_set_X4_fails : GoodIn wsX4_set wsX4_fails := goodIn_r _ [10, 1, 20, 21, 22, 23, 24, 25, 26, 27, 28, 29, 30, 31, 32, 33, 34, 35, 36, 37] (by decide +kernel) (by decide +kernel)
set_option maxRecDepth 20000 in
theorem gX4_set_X4_fails : GoodIn wsX4_set (wsV RX4 128 RX4 yX4_fails wsX4_fails) := goodIn_app (goodIn_of _ (by decide +kernel)) ggX4_set_X4_fails
set_option maxRecDepth 20000 in
theorem ggX4_set_X4_isSetting : GoodIn wsX4_set wsX4_isSetting := goodIn_r _ [13, 3, 4, 5, 6] (by decide +kernel) (by decide +kernel)
set_option maxRecDepth 20000 in
theorem gX4_set_X4_isSetting : GoodIn wsX4_set (va_wsS RX4 140 yX4_isSetting wsX4_isSetting) := goodIn_app (goodIn_of _ (by decide +kernel)) ggX4_set_X4_isSetting
set_option maxRecDepth 20000 in
theorem ggX4_set_X4_saves : GoodIn wsX4_set wsX4_saves := goodIn_r _ [17, 18, 19, 2, 20, 21, 22, 23, 24, 25, 26, 27, 28, 29, 30, 31, 32, 33, 34, 35, 36, 37] (by decide +kernel) (by decide +kernel)
set_option maxRecDepth 20000 in
theorem gX4_set_X4_saves : GoodIn wsX4_set (wsV RX4 131 RX4 yX4_saves wsX4_saves) := goodIn_app (goodIn_of _ (by decide +kernel)) ggX4_set_X4_saves
theorem dX4_set_0 : decode cX4_set 0 = .ok (.aload_n 0, 1) := by decide +kernel
theorem dX4_set_1 : decode cX4_set 1 = .ok (.iconst 0, 1) := by decide +kernel
theorem dX4_set_2 : decode cX4_set 2 = .ok (.putfield 40, 3) := by decide +kernel
theorem dX4_set_5 : decode cX4_set 5 = .ok (.iload_n 1, 1) := by decide +kernel
theorem dX4_set_6 : decode cX4_set 6 = .ok (.iconst 0, 1) := by decide +kernel
theorem dX4_set_7 : decode cX4_set 7 = .ok (.iconst 3, 1) := by decide +kernel
theorem dX4_set_8 : decode cX4_set 8 = .ok (.invokestatic 44, 3) := by decide +kernel
theorem dX4_set_11 : decode cX4_set 11 = .ok (.ifCond .ne 9, 3) := by decide +kernel
theorem dX4_set_14 : decode cX4_set 14 = .ok (.aload_n 0, 1) := by decide +kernel
theorem dX4_set_15 : decode cX4_set 15 = .ok (.iconst 1, 1) := by decide +kernel
theorem dX4_set_16 : decode cX4_set 16 = .ok (.invokevirtual 128, 3) := by decide +kernel
theorem dX4_set_19 : decode cX4_set 19 = .ok (.ireturn, 1) := by decide +kernel
theorem dX4_set_20 : decode cX4_set 20 = .ok (.iload_n 1, 1) := by decide +kernel
theorem dX4_set_21 : decode cX4_set 21 = .ok (.iload_n 2, 1) := by decide +kernel
theorem dX4_set_22 : decode cX4_set 22 = .ok (.invokestatic 140, 3) := by decide +kernel
theorem dX4_set_25 : decode cX4_set 25 = .ok (.ifCond .ne 9, 3) := by decide +kernel
theorem dX4_set_28 : decode cX4_set 28 = .ok (.aload_n 0, 1) := by decide +kernel
theorem dX4_set_29 : decode cX4_set 29 = .ok (.iconst 2, 1) := by decide +kernel
theorem dX4_set_30 : decode cX4_set 30 = .ok (.invokevirtual 128, 3) := by decide +kernel
theorem dX4_set_33 : decode cX4_set 33 = .ok (.ireturn, 1) := by decide +kernel
theorem dX4_set_34 : decode cX4_set 34 = .ok (.aload_n 0, 1) := by decide +kernel
theorem dX4_set_35 : decode cX4_set 35 = .ok (.invokevirtual 131, 3) := by decide +kernel
theorem dX4_set_38 : decode cX4_set 38 = .ok (.aload_n 0, 1) := by decide +kernel
theorem dX4_set_39 : decode cX4_set 39 = .ok (.getfield 7, 3) := by decide +kernel
theorem dX4_set_42 : decode cX4_set 42 = .ok (.iconst 2, 1) := by decide +kernel
theorem dX4_set_43 : decode cX4_set 43 = .ok (.iload_n 1, 1) := by decide +kernel
theorem dX4_set_44 : decode cX4_set 44 = .ok (.iadd, 1) := by decide +kernel
theorem dX4_set_45 : decode cX4_set 45 = .ok (.iaload, 1) := by decide +kernel
theorem dX4_set_46 : decode cX4_set 46 = .ok (.istore_n 3, 1) := by decide +kernel
theorem dX4_set_47 : decode cX4_set 47 = .ok (.aload_n 0, 1) := by decide +kernel
theorem dX4_set_48 : decode cX4_set 48 = .ok (.getfield 7, 3) := by decide +kernel
theorem dX4_set_51 : decode cX4_set 51 = .ok (.iconst 2, 1) := by decide +kernel
theorem dX4_set_52 : decode cX4_set 52 = .ok (.iload_n 1, 1) := by decide +kernel
theorem dX4_set_53 : decode cX4_set 53 = .ok (.iadd, 1) := by decide +kernel
theorem dX4_set_54 : decode cX4_set 54 = .ok (.iload_n 2, 1) := by decide +kernel
theorem dX4_set_55 : decode cX4_set 55 = .ok (.iastore, 1) := by decide +kernel
theorem dX4_set_56 : decode cX4_set 56 = .ok (.iload_n 3, 1) := by decide +kernel
theorem dX4_set_57 : decode cX4_set 57 = .ok (.ireturn, 1) := by decide +kernel
set_option maxRecDepth 20000 in
theorem ggX4_send_X4_isBody : GoodIn wsX4_send wsX4_isBody := goodIn_r _ [7, 8, 9, 10, 6, 11, 12, 13, 14, 15, 2, 16, 17, 18, 19, 20, 21, 22, 23, 49, 50, 51, 52, 53, 54, 55, 56, 57, 58, 59, 60, 61, 62, 63, 64, 65, 66] (by decide +kernel) (by decide +kernel)
set_option maxRecDepth 20000 in
theorem gX4_send_X4_isBody : GoodIn wsX4_send (wsV RX4 144 RX4 yX4_isBody wsX4_isBody) := goodIn_app (goodIn_of _ (by decide +kernel)) ggX4_send_X4_isBody
set_option maxRecDepth 20000 in
theorem ggX4_send_X4_fails : GoodIn wsX4_send wsX4_fails := goodIn_r _ [27, 1, 49, 50, 51, 52, 53, 54, 55, 56, 57, 58, 59, 60, 61, 62, 63, 64, 65, 66] (by decide +kernel) (by decide +kernel)
set_option maxRecDepth 20000 in
theorem gX4_send_X4_fails : GoodIn wsX4_send (wsV RX4 128 RX4 yX4_fails wsX4_fails) := goodIn_app (goodIn_of _ (by decide +kernel)) ggX4_send_X4_fails
set_option maxRecDepth 20000 in
theorem ggX4_send_X4_saves : GoodIn wsX4_send wsX4_saves := goodIn_r _ [31, 32, 33, 2, 49, 50, 51, 52, 53, 54, 55, 56, 57, 58, 59, 60, 61, 62, 63, 64, 65, 66] (by decide +kernel) (by decide +kernel)
set_option maxRecDepth 20000 in
theorem gX4_send_X4_saves : GoodIn wsX4_send (wsV RX4 131 RX4 yX4_saves wsX4_saves) := goodIn_app (goodIn_of _ (by decide +kernel)) ggX4_send_X4_saves
set_option maxRecDepth 20000 in
theorem ggX4_send_X4_wordOf : GoodIn wsX4_send wsX4_wordOf := goodIn_r _ [37, 2, 38, 39, 40, 6, 41, 8, 9, 10, 11, 12, 13, 14, 15, 16, 17, 18, 19, 20, 21, 22, 23, 42, 43, 44, 45, 46, 47, 48, 49, 50, 51, 52, 53, 54, 55, 56, 57, 58, 59, 60, 61, 62, 63, 64, 65, 66] (by decide +kernel) (by decide +kernel)
set_option maxRecDepth 20000 in
theorem gX4_send_X4_wordOf : GoodIn wsX4_send (wsV RX4 147 RX4 yX4_wordOf wsX4_wordOf) := goodIn_app (goodIn_of _ (by decide +kernel)) ggX4_send_X4_wordOf
theorem dX4_send_0 : decode cX4_send 0 = .ok (.aload_n 0, 1) := by decide +kernel
theorem dX4_send_1 : decode cX4_send 1 = .ok (.iconst 0, 1) := by decide +kernel
theorem dX4_send_2 : decode cX4_send 2 = .ok (.putfield 40, 3) := by decide +kernel
theorem dX4_send_5 : decode cX4_send 5 = .ok (.aload_n 0, 1) := by decide +kernel
theorem dX4_send_6 : decode cX4_send 6 = .ok (.iload_n 1, 1) := by decide +kernel
theorem dX4_send_7 : decode cX4_send 7 = .ok (.invokevirtual 144, 3) := by decide +kernel
theorem dX4_send_10 : decode cX4_send 10 = .ok (.ifCond .ne 9, 3) := by decide +kernel
theorem dX4_send_13 : decode cX4_send 13 = .ok (.aload_n 0, 1) := by decide +kernel
theorem dX4_send_14 : decode cX4_send 14 = .ok (.iconst 1, 1) := by decide +kernel
theorem dX4_send_15 : decode cX4_send 15 = .ok (.invokevirtual 128, 3) := by decide +kernel
theorem dX4_send_18 : decode cX4_send 18 = .ok (.ireturn, 1) := by decide +kernel
theorem dX4_send_19 : decode cX4_send 19 = .ok (.aload_n 0, 1) := by decide +kernel
theorem dX4_send_20 : decode cX4_send 20 = .ok (.invokevirtual 131, 3) := by decide +kernel
theorem dX4_send_23 : decode cX4_send 23 = .ok (.aload_n 0, 1) := by decide +kernel
theorem dX4_send_24 : decode cX4_send 24 = .ok (.iload_n 1, 1) := by decide +kernel
theorem dX4_send_25 : decode cX4_send 25 = .ok (.invokevirtual 147, 3) := by decide +kernel
theorem dX4_send_28 : decode cX4_send 28 = .ok (.istore_n 2, 1) := by decide +kernel
theorem dX4_send_29 : decode cX4_send 29 = .ok (.iconst 0, 1) := by decide +kernel
theorem dX4_send_30 : decode cX4_send 30 = .ok (.istore_n 3, 1) := by decide +kernel
theorem dX4_send_31 : decode cX4_send 31 = .ok (.iload_n 3, 1) := by decide +kernel
theorem dX4_send_32 : decode cX4_send 32 = .ok (.aload_n 0, 1) := by decide +kernel
theorem dX4_send_33 : decode cX4_send 33 = .ok (.getfield 7, 3) := by decide +kernel
theorem dX4_send_36 : decode cX4_send 36 = .ok (.iconst 0, 1) := by decide +kernel
theorem dX4_send_37 : decode cX4_send 37 = .ok (.iaload, 1) := by decide +kernel
theorem dX4_send_38 : decode cX4_send 38 = .ok (.if_icmp .ge 43, 3) := by decide +kernel
