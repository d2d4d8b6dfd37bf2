theorem dX3_roll_78 : decode cX3_roll 78 = .ok (.aload_n 0, 1) := by decide +kernel
theorem dX3_roll_79 : decode cX3_roll 79 = .ok (.getfield 10, 3) := by decide +kernel
theorem dX3_roll_82 : decode cX3_roll 82 = .ok (.getfield 58, 3) := by decide +kernel
theorem dX3_roll_85 : decode cX3_roll 85 = .ok (.iload_n 2, 1) := by decide +kernel
theorem dX3_roll_86 : decode cX3_roll 86 = .ok (.iaload, 1) := by decide +kernel
theorem dX3_roll_87 : decode cX3_roll 87 = .ok (.iastore, 1) := by decide +kernel
theorem dX3_roll_88 : decode cX3_roll 88 = .ok (.iinc 2 1, 3) := by decide +kernel
theorem dX3_roll_91 : decode cX3_roll 91 = .ok (.goto (-60), 3) := by decide +kernel
theorem dX3_roll_94 : decode cX3_roll 94 = .ok (.iconst 0, 1) := by decide +kernel
theorem dX3_roll_95 : decode cX3_roll 95 = .ok (.istore_n 2, 1) := by decide +kernel
theorem dX3_roll_96 : decode cX3_roll 96 = .ok (.iconst 0, 1) := by decide +kernel
theorem dX3_roll_97 : decode cX3_roll 97 = .ok (.istore_n 3, 1) := by decide +kernel
theorem dX3_roll_98 : decode cX3_roll 98 = .ok (.iload_n 3, 1) := by decide +kernel
theorem dX3_roll_99 : decode cX3_roll 99 = .ok (.aload_n 0, 1) := by decide +kernel
theorem dX3_roll_100 : decode cX3_roll 100 = .ok (.getfield 10, 3) := by decide +kernel
theorem dX3_roll_103 : decode cX3_roll 103 = .ok (.getfield 51, 3) := by decide +kernel
theorem dX3_roll_106 : decode cX3_roll 106 = .ok (.if_icmp .ge 50, 3) := by decide +kernel
theorem dX3_roll_109 : decode cX3_roll 109 = .ok (.iload_n 2, 1) := by decide +kernel
theorem dX3_roll_110 : decode cX3_roll 110 = .ok (.aload_n 0, 1) := by decide +kernel
theorem dX3_roll_111 : decode cX3_roll 111 = .ok (.getfield 27, 3) := by decide +kernel
theorem dX3_roll_114 : decode cX3_roll 114 = .ok (.iload_n 3, 1) := by decide +kernel
theorem dX3_roll_115 : decode cX3_roll 115 = .ok (.iaload, 1) := by decide +kernel
theorem dX3_roll_116 : decode cX3_roll 116 = .ok (.aload_n 0, 1) := by decide +kernel
theorem dX3_roll_117 : decode cX3_roll 117 = .ok (.getfield 10, 3) := by decide +kernel
theorem dX3_roll_120 : decode cX3_roll 120 = .ok (.getfield 58, 3) := by decide +kernel
theorem dX3_roll_123 : decode cX3_roll 123 = .ok (.iload_n 3, 1) := by decide +kernel
theorem dX3_roll_124 : decode cX3_roll 124 = .ok (.iaload, 1) := by decide +kernel
theorem dX3_roll_125 : decode cX3_roll 125 = .ok (.if_icmp .ne 7, 3) := by decide +kernel
theorem dX3_roll_128 : decode cX3_roll 128 = .ok (.iconst 0, 1) := by decide +kernel
theorem dX3_roll_129 : decode cX3_roll 129 = .ok (.goto 4, 3) := by decide +kernel
theorem dX3_roll_132 : decode cX3_roll 132 = .ok (.iconst 1, 1) := by decide +kernel
theorem dX3_roll_133 : decode cX3_roll 133 = .ok (.iadd, 1) := by decide +kernel
theorem dX3_roll_134 : decode cX3_roll 134 = .ok (.istore_n 2, 1) := by decide +kernel
theorem dX3_roll_135 : decode cX3_roll 135 = .ok (.aload_n 0, 1) := by decide +kernel
theorem dX3_roll_136 : decode cX3_roll 136 = .ok (.getfield 10, 3) := by decide +kernel
theorem dX3_roll_139 : decode cX3_roll 139 = .ok (.getfield 58, 3) := by decide +kernel
theorem dX3_roll_142 : decode cX3_roll 142 = .ok (.iload_n 3, 1) := by decide +kernel
theorem dX3_roll_143 : decode cX3_roll 143 = .ok (.aload_n 0, 1) := by decide +kernel
theorem dX3_roll_144 : decode cX3_roll 144 = .ok (.getfield 27, 3) := by decide +kernel
theorem dX3_roll_147 : decode cX3_roll 147 = .ok (.iload_n 3, 1) := by decide +kernel
theorem dX3_roll_148 : decode cX3_roll 148 = .ok (.iaload, 1) := by decide +kernel
theorem dX3_roll_149 : decode cX3_roll 149 = .ok (.iastore, 1) := by decide +kernel
theorem dX3_roll_150 : decode cX3_roll 150 = .ok (.iinc 3 1, 3) := by decide +kernel
theorem dX3_roll_153 : decode cX3_roll 153 = .ok (.goto (-55), 3) := by decide +kernel
theorem dX3_roll_156 : decode cX3_roll 156 = .ok (.iload_n 2, 1) := by decide +kernel
theorem dX3_roll_157 : decode cX3_roll 157 = .ok (.ireturn, 1) := by decide +kernel
theorem dX3_append_0 : decode cX3_append 0 = .ok (.iload_n 1, 1) := by decide +kernel
theorem dX3_append_1 : decode cX3_append 1 = .ok (.bipush 33, 2) := by decide +kernel
theorem dX3_append_3 : decode cX3_append 3 = .ok (.if_icmp .lt 9, 3) := by decide +kernel
theorem dX3_append_6 : decode cX3_append 6 = .ok (.iload_n 1, 1) := by decide +kernel
theorem dX3_append_7 : decode cX3_append 7 = .ok (.bipush 126, 2) := by decide +kernel
theorem dX3_append_9 : decode cX3_append 9 = .ok (.if_icmp .le 13, 3) := by decide +kernel
theorem dX3_append_12 : decode cX3_append 12 = .ok (.new 41, 3) := by decide +kernel
theorem dX3_append_15 : decode cX3_append 15 = .ok (.dup, 1) := by decide +kernel
theorem dX3_append_16 : decode cX3_append 16 = .ok (.ldc 117, 2) := by decide +kernel
theorem dX3_append_18 : decode cX3_append 18 = .ok (.invokespecial 45, 3) := by decide +kernel
theorem dX3_append_21 : decode cX3_append 21 = .ok (.athrow, 1) := by decide +kernel
theorem dX3_append_22 : decode cX3_append 22 = .ok (.aload_n 0, 1) := by decide +kernel
theorem dX3_append_23 : decode cX3_append 23 = .ok (.getfield 23, 3) := by decide +kernel
theorem dX3_append_26 : decode cX3_append 26 = .ok (.getfield 119, 3) := by decide +kernel
theorem dX3_append_29 : decode cX3_append 29 = .ok (.bipush 60, 2) := by decide +kernel
theorem dX3_append_31 : decode cX3_append 31 = .ok (.if_icmp .lt 13, 3) := by decide +kernel
theorem dX3_append_34 : decode cX3_append 34 = .ok (.new 63, 3) := by decide +kernel
theorem dX3_append_37 : decode cX3_append 37 = .ok (.dup, 1) := by decide +kernel
theorem dX3_append_38 : decode cX3_append 38 = .ok (.ldc 122, 2) := by decide +kernel
theorem dX3_append_40 : decode cX3_append 40 = .ok (.invokespecial 67, 3) := by decide +kernel
theorem dX3_append_43 : decode cX3_append 43 = .ok (.athrow, 1) := by decide +kernel
theorem dX3_append_44 : decode cX3_append 44 = .ok (.aload_n 0, 1) := by decide +kernel
theorem dX3_append_45 : decode cX3_append 45 = .ok (.getfield 23, 3) := by decide +kernel
theorem dX3_append_48 : decode cX3_append 48 = .ok (.getfield 124, 3) := by decide +kernel
theorem dX3_append_51 : decode cX3_append 51 = .ok (.aload_n 0, 1) := by decide +kernel
theorem dX3_append_52 : decode cX3_append 52 = .ok (.getfield 23, 3) := by decide +kernel
theorem dX3_append_55 : decode cX3_append 55 = .ok (.getfield 119, 3) := by decide +kernel
theorem dX3_append_58 : decode cX3_append 58 = .ok (.iload_n 1, 1) := by decide +kernel
theorem dX3_append_59 : decode cX3_append 59 = .ok (.i2c, 1) := by decide +kernel
theorem dX3_append_60 : decode cX3_append 60 = .ok (.castore, 1) := by decide +kernel
theorem dX3_append_61 : decode cX3_append 61 = .ok (.aload_n 0, 1) := by decide +kernel
theorem dX3_append_62 : decode cX3_append 62 = .ok (.getfield 23, 3) := by decide +kernel
theorem dX3_append_65 : decode cX3_append 65 = .ok (.dup, 1) := by decide +kernel
theorem dX3_append_66 : decode cX3_append 66 = .ok (.getfield 119, 3) := by decide +kernel
theorem dX3_append_69 : decode cX3_append 69 = .ok (.iconst 1, 1) := by decide +kernel
theorem dX3_append_70 : decode cX3_append 70 = .ok (.iadd, 1) := by decide +kernel
theorem dX3_append_71 : decode cX3_append 71 = .ok (.putfield 119, 3) := by decide +kernel
theorem dX3_append_74 : decode cX3_append 74 = .ok (.aload_n 0, 1) := by decide +kernel
theorem dX3_append_75 : decode cX3_append 75 = .ok (.getfield 23, 3) := by decide +kernel
theorem dX3_append_78 : decode cX3_append 78 = .ok (.getfield 119, 3) := by decide +kernel
theorem dX3_append_81 : decode cX3_append 81 = .ok (.ireturn, 1) := by decide +kernel
theorem dX3_clearBuffer_0 : decode cX3_clearBuffer 0 = .ok (.aload_n 0, 1) := by decide +kernel
theorem dX3_clearBuffer_1 : decode cX3_clearBuffer 1 = .ok (.getfield 23, 3) := by decide +kernel
theorem dX3_clearBuffer_4 : decode cX3_clearBuffer 4 = .ok (.getfield 119, 3) := by decide +kernel
theorem dX3_clearBuffer_7 : decode cX3_clearBuffer 7 = .ok (.istore_n 1, 1) := by decide +kernel
theorem dX3_clearBuffer_8 : decode cX3_clearBuffer 8 = .ok (.aload_n 0, 1) := by decide +kernel
theorem dX3_clearBuffer_9 : decode cX3_clearBuffer 9 = .ok (.getfield 23, 3) := by decide +kernel
theorem dX3_clearBuffer_12 : decode cX3_clearBuffer 12 = .ok (.iconst 0, 1) := by decide +kernel
theorem dX3_clearBuffer_13 : decode cX3_clearBuffer 13 = .ok (.putfield 119, 3) := by decide +kernel
theorem dX3_clearBuffer_16 : decode cX3_clearBuffer 16 = .ok (.iload_n 1, 1) := by decide +kernel
theorem dX3_clearBuffer_17 : decode cX3_clearBuffer 17 = .ok (.ireturn, 1) := by decide +kernel
set_option maxRecDepth 20000 in
theorem ggX3_firstError_X1_scan : GoodIn wsX3_firstError wsX1_scan := goodIn_r _ [6, 7, 8, 9, 10, 11, 12, 13, 14, 5, 15, 16, 17, 18, 19, 20, 21, 22, 23, 24, 25, 26, 27, 28, 29, 30, 31, 32, 42, 43, 44, 45, 46, 47] (by decide +kernel) (by decide +kernel)
set_option maxRecDepth 20000 in
theorem gX3_firstError_X1_scan : GoodIn wsX3_firstError (wsV RX3 128 RX1 yX1_scan wsX1_scan) := goodIn_app (goodIn_of _ (by decide +kernel)) ggX3_firstError_X1_scan
theorem dX3_firstError_0 : decode cX3_firstError 0 = .ok (.aload_n 0, 1) := by decide +kernel
theorem dX3_firstError_1 : decode cX3_firstError 1 = .ok (.getfield 23, 3) := by decide +kernel
theorem dX3_firstError_4 : decode cX3_firstError 4 = .ok (.invokevirtual 128, 3) := by decide +kernel
theorem dX3_firstError_7 : decode cX3_firstError 7 = .ok (.ireturn, 1) := by decide +kernel
set_option maxRecDepth 20000 in
theorem ggX3_receiveAll_X1_scan : GoodIn wsX3_receiveAll wsX1_scan := goodIn_r _ [16, 17, 18, 19, 20, 21, 22, 23, 24, 15, 25, 26, 27, 28, 29, 30, 31, 32, 33, 34, 35, 36, 37, 38, 39, 40, 41, 42, 75, 76, 77, 78, 79, 80] (by decide +kernel) (by decide +kernel)
set_option maxRecDepth 20000 in
theorem gX3_receiveAll_X1_scan : GoodIn wsX3_receiveAll (wsV RX3 128 RX1 yX1_scan wsX1_scan) := goodIn_app (goodIn_of _ (by decide +kernel)) ggX3_receiveAll_X1_scan
set_option maxRecDepth 20000 in
theorem ggX3_receiveAll_X1_endsWithValue : GoodIn wsX3_receiveAll wsX1_endsWithValue := goodIn_r _ [33, 18, 75, 76, 77, 78, 79, 80] (by decide +kernel) (by decide +kernel)
set_option maxRecDepth 20000 in
theorem gX3_receiveAll_X1_endsWithValue : GoodIn wsX3_receiveAll (wsV RX3 132 RX1 yX1_endsWithValue wsX1_endsWithValue) := goodIn_app (goodIn_of _ (by decide +kernel)) ggX3_receiveAll_X1_endsWithValue
set_option maxRecDepth 20000 in
theorem ggX3_receiveAll_X3_save : GoodIn wsX3_receiveAll wsX3_save := goodIn_r _ [48, 49, 50, 51, 8, 52, 53, 54, 55, 56, 57, 58, 59, 60, 61, 62, 63, 64, 65, 66, 67, 68, 69, 70, 71, 72, 73, 74, 81, 82, 83, 84] (by decide +kernel) (by decide +kernel)
set_option maxRecDepth 20000 in
theorem gX3_receiveAll_X3_save : GoodIn wsX3_receiveAll (wsV RX3 48 RX3 yX3_save wsX3_save) := goodIn_app (goodIn_of _ (by decide +kernel)) ggX3_receiveAll_X3_save
theorem dX3_receiveAll_0 : decode cX3_receiveAll 0 = .ok (.aload_n 0, 1) := by decide +kernel
theorem dX3_receiveAll_1 : decode cX3_receiveAll 1 = .ok (.getfield 23, 3) := by decide +kernel
theorem dX3_receiveAll_4 : decode cX3_receiveAll 4 = .ok (.invokevirtual 128, 3) := by decide +kernel
theorem dX3_receiveAll_7 : decode cX3_receiveAll 7 = .ok (.aload_n 0, 1) := by decide +kernel
theorem dX3_receiveAll_8 : decode cX3_receiveAll 8 = .ok (.getfield 23, 3) := by decide +kernel
theorem dX3_receiveAll_11 : decode cX3_receiveAll 11 = .ok (.getfield 119, 3) := by decide +kernel
theorem dX3_receiveAll_14 : decode cX3_receiveAll 14 = .ok (.if_icmp .lt 13, 3) := by decide +kernel
theorem dX3_receiveAll_17 : decode cX3_receiveAll 17 = .ok (.aload_n 0, 1) := by decide +kernel
theorem dX3_receiveAll_18 : decode cX3_receiveAll 18 = .ok (.getfield 23, 3) := by decide +kernel
theorem dX3_receiveAll_21 : decode cX3_receiveAll 21 = .ok (.invokevirtual 132, 3) := by decide +kernel
theorem dX3_receiveAll_24 : decode cX3_receiveAll 24 = .ok (.ifCond .ne 13, 3) := by decide +kernel
theorem dX3_receiveAll_27 : decode cX3_receiveAll 27 = .ok (.new 41, 3) := by decide +kernel
theorem dX3_receiveAll_30 : decode cX3_receiveAll 30 = .ok (.dup, 1) := by decide +kernel
theorem dX3_receiveAll_31 : decode cX3_receiveAll 31 = .ok (.ldc 136, 2) := by decide +kernel
theorem dX3_receiveAll_33 : decode cX3_receiveAll 33 = .ok (.invokespecial 45, 3) := by decide +kernel
theorem dX3_receiveAll_36 : decode cX3_receiveAll 36 = .ok (.athrow, 1) := by decide +kernel
theorem dX3_receiveAll_37 : decode cX3_receiveAll 37 = .ok (.aload_n 0, 1) := by decide +kernel
theorem dX3_receiveAll_38 : decode cX3_receiveAll 38 = .ok (.getfield 23, 3) := by decide +kernel
theorem dX3_receiveAll_41 : decode cX3_receiveAll 41 = .ok (.getfield 138, 3) := by decide +kernel
theorem dX3_receiveAll_44 : decode cX3_receiveAll 44 = .ok (.aload_n 0, 1) := by decide +kernel
theorem dX3_receiveAll_45 : decode cX3_receiveAll 45 = .ok (.getfield 10, 3) := by decide +kernel
theorem dX3_receiveAll_48 : decode cX3_receiveAll 48 = .ok (.getfield 51, 3) := by decide +kernel
theorem dX3_receiveAll_51 : decode cX3_receiveAll 51 = .ok (.if_icmp .le 13, 3) := by decide +kernel
theorem dX3_receiveAll_54 : decode cX3_receiveAll 54 = .ok (.new 63, 3) := by decide +kernel
theorem dX3_receiveAll_57 : decode cX3_receiveAll 57 = .ok (.dup, 1) := by decide +kernel
theorem dX3_receiveAll_58 : decode cX3_receiveAll 58 = .ok (.ldc 141, 2) := by decide +kernel
theorem dX3_receiveAll_60 : decode cX3_receiveAll 60 = .ok (.invokespecial 67, 3) := by decide +kernel
theorem dX3_receiveAll_63 : decode cX3_receiveAll 63 = .ok (.athrow, 1) := by decide +kernel
theorem dX3_receiveAll_64 : decode cX3_receiveAll 64 = .ok (.aload_n 0, 1) := by decide +kernel
theorem dX3_receiveAll_65 : decode cX3_receiveAll 65 = .ok (.invokevirtual 48, 3) := by decide +kernel
theorem dX3_receiveAll_68 : decode cX3_receiveAll 68 = .ok (.iconst 0, 1) := by decide +kernel
theorem dX3_receiveAll_69 : decode cX3_receiveAll 69 = .ok (.istore_n 1, 1) := by decide +kernel
theorem dX3_receiveAll_70 : decode cX3_receiveAll 70 = .ok (.iload_n 1, 1) := by decide +kernel
theorem dX3_receiveAll_71 : decode cX3_receiveAll 71 = .ok (.aload_n 0, 1) := by decide +kernel
theorem dX3_receiveAll_72 : decode cX3_receiveAll 72 = .ok (.getfield 10, 3) := by decide +kernel
theorem dX3_receiveAll_75 : decode cX3_receiveAll 75 = .ok (.getfield 51, 3) := by decide +kernel
theorem dX3_receiveAll_78 : decode cX3_receiveAll 78 = .ok (.if_icmp .ge 42, 3) := by decide +kernel
theorem dX3_receiveAll_81 : decode cX3_receiveAll 81 = .ok (.aload_n 0, 1) := by decide +kernel
theorem dX3_receiveAll_82 : decode cX3_receiveAll 82 = .ok (.getfield 10, 3) := by decide +kernel
theorem dX3_receiveAll_85 : decode cX3_receiveAll 85 = .ok (.getfield 58, 3) := by decide +kernel
theorem dX3_receiveAll_88 : decode cX3_receiveAll 88 = .ok (.iload_n 1, 1) := by decide +kernel
theorem dX3_receiveAll_89 : decode cX3_receiveAll 89 = .ok (.iload_n 1, 1) := by decide +kernel
theorem dX3_receiveAll_90 : decode cX3_receiveAll 90 = .ok (.aload_n 0, 1) := by decide +kernel
theorem dX3_receiveAll_91 : decode cX3_receiveAll 91 = .ok (.getfield 23, 3) := by decide +kernel
theorem dX3_receiveAll_94 : decode cX3_receiveAll 94 = .ok (.getfield 138, 3) := by decide +kernel
theorem dX3_receiveAll_97 : decode cX3_receiveAll 97 = .ok (.if_icmp .ge 15, 3) := by decide +kernel
theorem dX3_receiveAll_100 : decode cX3_receiveAll 100 = .ok (.aload_n 0, 1) := by decide +kernel
theorem dX3_receiveAll_101 : decode cX3_receiveAll 101 = .ok (.getfield 23, 3) := by decide +kernel
theorem dX3_receiveAll_104 : decode cX3_receiveAll 104 = .ok (.getfield 143, 3) := by decide +kernel
theorem dX3_receiveAll_107 : decode cX3_receiveAll 107 = .ok (.iload_n 1, 1) := by decide +kernel
theorem dX3_receiveAll_108 : decode cX3_receiveAll 108 = .ok (.iaload, 1) := by decide +kernel
theorem dX3_receiveAll_109 : decode cX3_receiveAll 109 = .ok (.goto 4, 3) := by decide +kernel
theorem dX3_receiveAll_112 : decode cX3_receiveAll 112 = .ok (.iconst 0, 1) := by decide +kernel
theorem dX3_receiveAll_113 : decode cX3_receiveAll 113 = .ok (.iastore, 1) := by decide +kernel
theorem dX3_receiveAll_114 : decode cX3_receiveAll 114 = .ok (.iinc 1 1, 3) := by decide +kernel
theorem dX3_receiveAll_117 : decode cX3_receiveAll 117 = .ok (.goto (-47), 3) := by decide +kernel
theorem dX3_receiveAll_120 : decode cX3_receiveAll 120 = .ok (.aload_n 0, 1) := by decide +kernel
theorem dX3_receiveAll_121 : decode cX3_receiveAll 121 = .ok (.getfield 23, 3) := by decide +kernel
theorem dX3_receiveAll_124 : decode cX3_receiveAll 124 = .ok (.iconst 0, 1) := by decide +kernel
theorem dX3_receiveAll_125 : decode cX3_receiveAll 125 = .ok (.putfield 119, 3) := by decide +kernel
theorem dX3_receiveAll_128 : decode cX3_receiveAll 128 = .ok (.aload_n 0, 1) := by decide +kernel
theorem dX3_receiveAll_129 : decode cX3_receiveAll 129 = .ok (.getfield 23, 3) := by decide +kernel
theorem dX3_receiveAll_132 : decode cX3_receiveAll 132 = .ok (.getfield 138, 3) := by decide +kernel
theorem dX3_receiveAll_135 : decode cX3_receiveAll 135 = .ok (.ireturn, 1) := by decide +kernel
set_option maxRecDepth 20000 in
theorem ggX3_undo_X2_copyFrom : GoodIn wsX3_undo wsX2_copyFrom := goodIn_r _ [12, 13, 14, 15, 16, 17, 18, 19, 20, 30, 31, 32, 33] (by decide +kernel) (by decide +kernel)
set_option maxRecDepth 20000 in
theorem gX3_undo_X2_copyFrom : GoodIn wsX3_undo (wsV RX3 152 RX2 yX2_copyFrom wsX2_copyFrom) := goodIn_app (goodIn_of _ (by decide +kernel)) ggX3_undo_X2_copyFrom
theorem dX3_undo_0 : decode cX3_undo 0 = .ok (.aload_n 0, 1) := by decide +kernel
theorem dX3_undo_1 : decode cX3_undo 1 = .ok (.getfield 144, 3) := by decide +kernel
theorem dX3_undo_4 : decode cX3_undo 4 = .ok (.ifCond .gt 13, 3) := by decide +kernel
theorem dX3_undo_7 : decode cX3_undo 7 = .ok (.new 63, 3) := by decide +kernel
theorem dX3_undo_10 : decode cX3_undo 10 = .ok (.dup, 1) := by decide +kernel
theorem dX3_undo_11 : decode cX3_undo 11 = .ok (.ldc 147, 2) := by decide +kernel
theorem dX3_undo_13 : decode cX3_undo 13 = .ok (.invokespecial 67, 3) := by decide +kernel
theorem dX3_undo_16 : decode cX3_undo 16 = .ok (.athrow, 1) := by decide +kernel
theorem dX3_undo_17 : decode cX3_undo 17 = .ok (.aload_n 0, 1) := by decide +kernel
theorem dX3_undo_18 : decode cX3_undo 18 = .ok (.dup, 1) := by decide +kernel
theorem dX3_undo_19 : decode cX3_undo 19 = .ok (.getfield 144, 3) := by decide +kernel
theorem dX3_undo_22 : decode cX3_undo 22 = .ok (.iconst 1, 1) := by decide +kernel
theorem dX3_undo_23 : decode cX3_undo 23 = .ok (.isub, 1) := by decide +kernel
theorem dX3_undo_24 : decode cX3_undo 24 = .ok (.putfield 144, 3) := by decide +kernel
theorem dX3_undo_27 : decode cX3_undo 27 = .ok (.aload_n 0, 1) := by decide +kernel
theorem dX3_undo_28 : decode cX3_undo 28 = .ok (.getfield 10, 3) := by decide +kernel
theorem dX3_undo_31 : decode cX3_undo 31 = .ok (.aload_n 0, 1) := by decide +kernel
theorem dX3_undo_32 : decode cX3_undo 32 = .ok (.getfield 16, 3) := by decide +kernel
theorem dX3_undo_35 : decode cX3_undo 35 = .ok (.aload_n 0, 1) := by decide +kernel
theorem dX3_undo_36 : decode cX3_undo 36 = .ok (.getfield 149, 3) := by decide +kernel
theorem dX3_undo_39 : decode cX3_undo 39 = .ok (.aload_n 0, 1) := by decide +kernel
theorem dX3_undo_40 : decode cX3_undo 40 = .ok (.getfield 144, 3) := by decide +kernel
theorem dX3_undo_43 : decode cX3_undo 43 = .ok (.iadd, 1) := by decide +kernel
theorem dX3_undo_44 : decode cX3_undo 44 = .ok (.bipush 6, 2) := by decide +kernel
theorem dX3_undo_46 : decode cX3_undo 46 = .ok (.irem, 1) := by decide +kernel
theorem dX3_undo_47 : decode cX3_undo 47 = .ok (.aaload, 1) := by decide +kernel
theorem dX3_undo_48 : decode cX3_undo 48 = .ok (.invokevirtual 152, 3) := by decide +kernel
theorem dX3_undo_51 : decode cX3_undo 51 = .ok (.aload_n 0, 1) := by decide +kernel
theorem dX3_undo_52 : decode cX3_undo 52 = .ok (.iconst 0, 1) := by decide +kernel
theorem dX3_undo_53 : decode cX3_undo 53 = .ok (.putfield 156, 3) := by decide +kernel
theorem dX3_undo_56 : decode cX3_undo 56 = .ok (.aload_n 0, 1) := by decide +kernel
theorem dX3_undo_57 : decode cX3_undo 57 = .ok (.getfield 144, 3) := by decide +kernel
theorem dX3_undo_60 : decode cX3_undo 60 = .ok (.ireturn, 1) := by decide +kernel
set_option maxRecDepth 20000 in
theorem ggX3_place_X2_hasPlace : GoodIn wsX3_place wsX2_hasPlace := goodIn_r _ [11, 12, 73, 74, 75, 76] (by decide +kernel) (by decide +kernel)
set_option maxRecDepth 20000 in
theorem gX3_place_X2_hasPlace : GoodIn wsX3_place (wsV RX3 72 RX2 yX2_hasPlace wsX2_hasPlace) := goodIn_app (goodIn_of _ (by decide +kernel)) ggX3_place_X2_hasPlace
set_option maxRecDepth 20000 in
theorem ggX3_place_X2_isOpen : GoodIn wsX3_place wsX2_isOpen := goodIn_r _ [16, 17, 73, 74, 75, 76] (by decide +kernel) (by decide +kernel)
set_option maxRecDepth 20000 in
theorem gX3_place_X2_isOpen : GoodIn wsX3_place (wsV RX3 81 RX2 yX2_isOpen wsX2_isOpen) := goodIn_app (goodIn_of _ (by decide +kernel)) ggX3_place_X2_isOpen
set_option maxRecDepth 20000 in
theorem ggX3_place_X2_unsureness : GoodIn wsX3_place wsX2_unsureness := goodIn_r _ [21, 22, 23, 12, 24, 25, 73, 74, 75, 76] (by decide +kernel) (by decide +kernel)
set_option maxRecDepth 20000 in
theorem gX3_place_X2_unsureness : GoodIn wsX3_place (wsV RX3 160 RX2 yX2_unsureness wsX2_unsureness) := goodIn_app (goodIn_of _ (by decide +kernel)) ggX3_place_X2_unsureness
set_option maxRecDepth 20000 in
theorem ggX3_place_X2_sureRank : GoodIn wsX3_place wsX2_sureRank := goodIn_r _ [29, 12, 30, 19, 20, 10, 21, 22, 23, 24, 25, 73, 74, 75, 76] (by decide +kernel) (by decide +kernel)
set_option maxRecDepth 20000 in
theorem gX3_place_X2_sureRank : GoodIn wsX3_place (wsV RX3 68 RX2 yX2_sureRank wsX2_sureRank) := goodIn_app (goodIn_of _ (by decide +kernel)) ggX3_place_X2_sureRank
set_option maxRecDepth 20000 in
theorem ggX3_place_X2_openPlacesBefore : GoodIn wsX3_place wsX2_openPlacesBefore := goodIn_r _ [34, 17, 35, 36, 37, 38, 39, 40, 41, 73, 74, 75, 76] (by decide +kernel) (by decide +kernel)
set_option maxRecDepth 20000 in
theorem gX3_place_X2_openPlacesBefore : GoodIn wsX3_place (wsV RX3 163 RX2 yX2_openPlacesBefore wsX2_openPlacesBefore) := goodIn_app (goodIn_of _ (by decide +kernel)) ggX3_place_X2_openPlacesBefore
set_option maxRecDepth 20000 in
theorem ggX3_place_X2_isForCheckBit : GoodIn wsX3_place wsX2_isForCheckBit := goodIn_r _ [45, 46, 14, 15, 10, 16, 17, 47, 32, 33, 34, 35, 36, 37, 38, 39, 40, 41, 48, 49, 50, 51, 52, 53, 54, 55, 56, 57, 58, 59, 22, 60, 61, 62, 63, 73, 74, 75, 76] (by decide +kernel) (by decide +kernel)
set_option maxRecDepth 20000 in
theorem gX3_place_X2_isForCheckBit : GoodIn wsX3_place (wsV RX3 166 RX2 yX2_isForCheckBit wsX2_isForCheckBit) := goodIn_app (goodIn_of _ (by decide +kernel)) ggX3_place_X2_isForCheckBit
theorem dX3_place_0 : decode cX3_place 0 = .ok (.aload_n 0, 1) := by decide +kernel
theorem dX3_place_1 : decode cX3_place 1 = .ok (.getfield 10, 3) := by decide +kernel
theorem dX3_place_4 : decode cX3_place 4 = .ok (.iload_n 1, 1) := by decide +kernel
theorem dX3_place_5 : decode cX3_place 5 = .ok (.invokevirtual 72, 3) := by decide +kernel
theorem dX3_place_8 : decode cX3_place 8 = .ok (.ifCond .ne 13, 3) := by decide +kernel
theorem dX3_place_11 : decode cX3_place 11 = .ok (.new 76, 3) := by decide +kernel
theorem dX3_place_14 : decode cX3_place 14 = .ok (.dup, 1) := by decide +kernel
theorem dX3_place_15 : decode cX3_place 15 = .ok (.ldc 78, 2) := by decide +kernel
theorem dX3_place_17 : decode cX3_place 17 = .ok (.invokespecial 80, 3) := by decide +kernel
theorem dX3_place_20 : decode cX3_place 20 = .ok (.athrow, 1) := by decide +kernel
theorem dX3_place_21 : decode cX3_place 21 = .ok (.iload_n 2, 1) := by decide +kernel
theorem dX3_place_22 : decode cX3_place 22 = .ok (.tableswitch 127 0 5 #[38, 55, 64, 73, 86, 110], 38) := by decide +kernel
theorem dX3_place_60 : decode cX3_place 60 = .ok (.aload_n 0, 1) := by decide +kernel
theorem dX3_place_61 : decode cX3_place 61 = .ok (.getfield 10, 3) := by decide +kernel
theorem dX3_place_64 : decode cX3_place 64 = .ok (.iload_n 1, 1) := by decide +kernel
theorem dX3_place_65 : decode cX3_place 65 = .ok (.invokevirtual 81, 3) := by decide +kernel
theorem dX3_place_68 : decode cX3_place 68 = .ok (.ifCond .eq 7, 3) := by decide +kernel
theorem dX3_place_71 : decode cX3_place 71 = .ok (.iconst 1, 1) := by decide +kernel
theorem dX3_place_72 : decode cX3_place 72 = .ok (.goto 4, 3) := by decide +kernel
theorem dX3_place_75 : decode cX3_place 75 = .ok (.iconst 0, 1) := by decide +kernel
theorem dX3_place_76 : decode cX3_place 76 = .ok (.ireturn, 1) := by decide +kernel
theorem dX3_place_77 : decode cX3_place 77 = .ok (.aload_n 0, 1) := by decide +kernel
theorem dX3_place_78 : decode cX3_place 78 = .ok (.getfield 10, 3) := by decide +kernel
theorem dX3_place_81 : decode cX3_place 81 = .ok (.iload_n 1, 1) := by decide +kernel
theorem dX3_place_82 : decode cX3_place 82 = .ok (.invokevirtual 160, 3) := by decide +kernel
theorem dX3_place_85 : decode cX3_place 85 = .ok (.ireturn, 1) := by decide +kernel
theorem dX3_place_86 : decode cX3_place 86 = .ok (.aload_n 0, 1) := by decide +kernel
theorem dX3_place_87 : decode cX3_place 87 = .ok (.getfield 10, 3) := by decide +kernel
theorem dX3_place_90 : decode cX3_place 90 = .ok (.iload_n 1, 1) := by decide +kernel
theorem dX3_place_91 : decode cX3_place 91 = .ok (.invokevirtual 68, 3) := by decide +kernel
theorem dX3_place_94 : decode cX3_place 94 = .ok (.ireturn, 1) := by decide +kernel
theorem dX3_place_95 : decode cX3_place 95 = .ok (.aload_n 0, 1) := by decide +kernel
theorem dX3_place_96 : decode cX3_place 96 = .ok (.getfield 10, 3) := by decide +kernel
theorem dX3_place_99 : decode cX3_place 99 = .ok (.getfield 58, 3) := by decide +kernel
theorem dX3_place_102 : decode cX3_place 102 = .ok (.iload_n 1, 1) := by decide +kernel
theorem dX3_place_103 : decode cX3_place 103 = .ok (.iaload, 1) := by decide +kernel
theorem dX3_place_104 : decode cX3_place 104 = .ok (.bipush 100, 2) := by decide +kernel
theorem dX3_place_106 : decode cX3_place 106 = .ok (.iadd, 1) := by decide +kernel
theorem dX3_place_107 : decode cX3_place 107 = .ok (.ireturn, 1) := by decide +kernel
theorem dX3_place_108 : decode cX3_place 108 = .ok (.aload_n 0, 1) := by decide +kernel
theorem dX3_place_109 : decode cX3_place 109 = .ok (.getfield 10, 3) := by decide +kernel
theorem dX3_place_112 : decode cX3_place 112 = .ok (.iload_n 1, 1) := by decide +kernel
theorem dX3_place_113 : decode cX3_place 113 = .ok (.invokevirtual 81, 3) := by decide +kernel
theorem dX3_place_116 : decode cX3_place 116 = .ok (.ifCond .eq 14, 3) := by decide +kernel
theorem dX3_place_119 : decode cX3_place 119 = .ok (.aload_n 0, 1) := by decide +kernel
theorem dX3_place_120 : decode cX3_place 120 = .ok (.getfield 10, 3) := by decide +kernel
theorem dX3_place_123 : decode cX3_place 123 = .ok (.iload_n 1, 1) := by decide +kernel
theorem dX3_place_124 : decode cX3_place 124 = .ok (.invokevirtual 163, 3) := by decide +kernel
theorem dX3_place_127 : decode cX3_place 127 = .ok (.goto 4, 3) := by decide +kernel
theorem dX3_place_130 : decode cX3_place 130 = .ok (.iconst (-1), 1) := by decide +kernel
theorem dX3_place_131 : decode cX3_place 131 = .ok (.ireturn, 1) := by decide +kernel
theorem dX3_place_132 : decode cX3_place 132 = .ok (.aload_n 0, 1) := by decide +kernel
theorem dX3_place_133 : decode cX3_place 133 = .ok (.getfield 10, 3) := by decide +kernel
theorem dX3_place_136 : decode cX3_place 136 = .ok (.iload_n 1, 1) := by decide +kernel
theorem dX3_place_137 : decode cX3_place 137 = .ok (.invokevirtual 166, 3) := by decide +kernel
theorem dX3_place_140 : decode cX3_place 140 = .ok (.ifCond .eq 7, 3) := by decide +kernel
theorem dX3_place_143 : decode cX3_place 143 = .ok (.iconst 1, 1) := by decide +kernel
theorem dX3_place_144 : decode cX3_place 144 = .ok (.goto 4, 3) := by decide +kernel
theorem dX3_place_147 : decode cX3_place 147 = .ok (.iconst 0, 1) := by decide +kernel
theorem dX3_place_148 : decode cX3_place 148 = .ok (.ireturn, 1) := by decide +kernel
theorem dX3_place_149 : decode cX3_place 149 = .ok (.new 41, 3) := by decide +kernel
theorem dX3_place_152 : decode cX3_place 152 = .ok (.dup, 1) := by decide +kernel
theorem dX3_place_153 : decode cX3_place 153 = .ok (.ldc 169, 2) := by decide +kernel
theorem dX3_place_155 : decode cX3_place 155 = .ok (.invokespecial 45, 3) := by decide +kernel
theorem dX3_place_158 : decode cX3_place 158 = .ok (.athrow, 1) := by decide +kernel
set_option maxRecDepth 20000 in
theorem ggX3_code_X3_coded : GoodIn wsX3_code wsX3_coded := goodIn_r _ [9, 10] (by decide +kernel) (by decide +kernel)
set_option maxRecDepth 20000 in
theorem gX3_code_X3_coded : GoodIn wsX3_code (va_wsS RX3 174 yX3_coded wsX3_coded) := goodIn_app (goodIn_of _ (by decide +kernel)) ggX3_code_X3_coded
theorem dX3_code_0 : decode cX3_code 0 = .ok (.iload_n 1, 1) := by decide +kernel
theorem dX3_code_1 : decode cX3_code 1 = .ok (.ifCond .lt 9, 3) := by decide +kernel
theorem dX3_code_4 : decode cX3_code 4 = .ok (.iload_n 1, 1) := by decide +kernel
theorem dX3_code_5 : decode cX3_code 5 = .ok (.ldc 171, 2) := by decide +kernel
theorem dX3_code_7 : decode cX3_code 7 = .ok (.if_icmp .le 13, 3) := by decide +kernel
theorem dX3_code_10 : decode cX3_code 10 = .ok (.new 41, 3) := by decide +kernel
theorem dX3_code_13 : decode cX3_code 13 = .ok (.dup, 1) := by decide +kernel
theorem dX3_code_14 : decode cX3_code 14 = .ok (.ldc 172, 2) := by decide +kernel
theorem dX3_code_16 : decode cX3_code 16 = .ok (.invokespecial 45, 3) := by decide +kernel
theorem dX3_code_19 : decode cX3_code 19 = .ok (.athrow, 1) := by decide +kernel
theorem dX3_code_20 : decode cX3_code 20 = .ok (.iload_n 1, 1) := by decide +kernel
theorem dX3_code_21 : decode cX3_code 21 = .ok (.aload_n 0, 1) := by decide +kernel
theorem dX3_code_22 : decode cX3_code 22 = .ok (.getfield 10, 3) := by decide +kernel
theorem dX3_code_25 : decode cX3_code 25 = .ok (.getfield 51, 3) := by decide +kernel
theorem dX3_code_28 : decode cX3_code 28 = .ok (.invokestatic 174, 3) := by decide +kernel
theorem dX3_code_31 : decode cX3_code 31 = .ok (.ireturn, 1) := by decide +kernel
set_option maxRecDepth 20000 in
theorem ggX3_word_X2_hasRoomFor : GoodIn wsX3_word wsX2_hasRoomFor := goodIn_r _ [8, 9, 10, 11, 7, 12, 13, 14, 15, 16, 17, 18, 19, 20, 21, 22, 23, 24, 25, 26, 27, 28, 29, 30, 31, 32, 33, 62, 63, 64, 65] (by decide +kernel) (by decide +kernel)
set_option maxRecDepth 20000 in
theorem gX3_word_X2_hasRoomFor : GoodIn wsX3_word (wsV RX3 97 RX2 yX2_hasRoomFor wsX2_hasRoomFor) := goodIn_app (goodIn_of _ (by decide +kernel)) ggX3_word_X2_hasRoomFor
set_option maxRecDepth 20000 in
theorem ggX3_word_X2_withChecks : GoodIn wsX3_word wsX2_withChecks := goodIn_r _ [37, 9, 10, 11, 7, 12, 13, 14, 15, 16, 17, 18, 19, 20, 21, 22, 23, 24, 25, 26, 27, 28, 29, 30, 31, 32, 33, 38, 39, 40, 62, 63, 64, 65] (by decide +kernel) (by decide +kernel)
set_option maxRecDepth 20000 in
theorem gX3_word_X2_withChecks : GoodIn wsX3_word (wsV RX3 102 RX2 yX2_withChecks wsX2_withChecks) := goodIn_app (goodIn_of _ (by decide +kernel)) ggX3_word_X2_withChecks
set_option maxRecDepth 20000 in
theorem ggX3_word_X2_wordOf : GoodIn wsX3_word wsX2_wordOf := goodIn_r _ [44, 45, 46, 47, 48, 7, 49, 17, 50, 39, 51, 52, 62, 63, 64, 65] (by decide +kernel) (by decide +kernel)
set_option maxRecDepth 20000 in
theorem gX3_word_X2_wordOf : GoodIn wsX3_word (wsV RX3 105 RX2 yX2_wordOf wsX2_wordOf) := goodIn_app (goodIn_of _ (by decide +kernel)) ggX3_word_X2_wordOf
theorem dX3_word_0 : decode cX3_word 0 = .ok (.aload_n 0, 1) := by decide +kernel
theorem dX3_word_1 : decode cX3_word 1 = .ok (.getfield 10, 3) := by decide +kernel
theorem dX3_word_4 : decode cX3_word 4 = .ok (.iload_n 1, 1) := by decide +kernel
theorem dX3_word_5 : decode cX3_word 5 = .ok (.invokevirtual 97, 3) := by decide +kernel
theorem dX3_word_8 : decode cX3_word 8 = .ok (.ifCond .ne 13, 3) := by decide +kernel
theorem dX3_word_11 : decode cX3_word 11 = .ok (.new 41, 3) := by decide +kernel
theorem dX3_word_14 : decode cX3_word 14 = .ok (.dup, 1) := by decide +kernel
theorem dX3_word_15 : decode cX3_word 15 = .ok (.ldc 100, 2) := by decide +kernel
theorem dX3_word_17 : decode cX3_word 17 = .ok (.invokespecial 45, 3) := by decide +kernel
theorem dX3_word_20 : decode cX3_word 20 = .ok (.athrow, 1) := by decide +kernel
theorem dX3_word_21 : decode cX3_word 21 = .ok (.aload_n 0, 1) := by decide +kernel
theorem dX3_word_22 : decode cX3_word 22 = .ok (.getfield 10, 3) := by decide +kernel
theorem dX3_word_25 : decode cX3_word 25 = .ok (.aload_n 0, 1) := by decide +kernel
theorem dX3_word_26 : decode cX3_word 26 = .ok (.getfield 10, 3) := by decide +kernel
theorem dX3_word_29 : decode cX3_word 29 = .ok (.iload_n 1, 1) := by decide +kernel
theorem dX3_word_30 : decode cX3_word 30 = .ok (.invokevirtual 102, 3) := by decide +kernel
theorem dX3_word_33 : decode cX3_word 33 = .ok (.invokevirtual 105, 3) := by decide +kernel
theorem dX3_word_36 : decode cX3_word 36 = .ok (.ireturn, 1) := by decide +kernel
set_option maxRecDepth 20000 in
theorem ggX3_read_X3_currentReading : GoodIn wsX3_read wsX3_currentReading := goodIn_r _ [11, 12, 13, 5, 14, 15, 16, 17, 18, 19, 20, 21, 22, 23, 24, 25, 26, 27, 28, 29, 30, 31, 32, 33, 34, 35, 36, 37, 38, 39, 40, 41, 42, 43, 44, 45, 46, 47, 48, 49, 50, 51, 52, 53, 10, 54, 55, 56, 57, 58, 59, 60, 61, 62, 63, 64, 65, 66, 67, 68, 69, 70, 71, 72, 73, 74, 75, 76, 77, 78, 79, 80, 81, 82, 83, 84, 85, 86, 87, 88, 89, 90, 91, 92, 93, 94, 95, 96, 97, 98, 99, 100, 101, 102, 103, 104, 105, 106, 107, 108, 109, 110, 111, 112, 113, 114, 115, 142, 143, 144, 145, 146, 147, 148, 149, 150, 151, 152, 153, 154, 130, 131, 132, 133, 134, 135, 136, 137, 138, 139, 140, 141] (by decide +kernel) (by decide +kernel)
set_option maxRecDepth 20000 in
theorem gX3_read_X3_currentReading : GoodIn wsX3_read (wsV RX3 180 RX3 yX3_currentReading wsX3_currentReading) := goodIn_app (goodIn_of _ (by decide +kernel)) ggX3_read_X3_currentReading
set_option maxRecDepth 20000 in
theorem ggX3_read_X2_bodyOf : GoodIn wsX3_read wsX2_bodyOf := goodIn_r _ [119, 120, 84, 85, 32, 86, 87, 88, 89, 90, 34, 91, 92, 93, 94, 95, 96, 97, 98, 99, 100, 101, 102, 103, 104, 105, 106, 151, 152, 153, 154] (by decide +kernel) (by decide +kernel)
set_option maxRecDepth 20000 in
theorem gX3_read_X2_bodyOf : GoodIn wsX3_read (wsV RX3 190 RX2 yX2_bodyOf wsX2_bodyOf) := goodIn_app (goodIn_of _ (by decide +kernel)) ggX3_read_X2_bodyOf
set_option maxRecDepth 20000 in
theorem ggX3_read_X2_wordOf : GoodIn wsX3_read wsX2_wordOf := goodIn_r _ [124, 112, 113, 30, 31, 32, 33, 34, 53, 10, 54, 55, 151, 152, 153, 154] (by decide +kernel) (by decide +kernel)
set_option maxRecDepth 20000 in
theorem gX3_read_X2_wordOf : GoodIn wsX3_read (wsV RX3 105 RX2 yX2_wordOf wsX2_wordOf) := goodIn_app (goodIn_of _ (by decide +kernel)) ggX3_read_X2_wordOf
set_option maxRecDepth 20000 in
theorem ggX3_read_X2_differences : GoodIn wsX3_read wsX2_differences := goodIn_r _ [128, 112, 129, 151, 152, 153, 154] (by decide +kernel) (by decide +kernel)
set_option maxRecDepth 20000 in
theorem gX3_read_X2_differences : GoodIn wsX3_read (wsV RX3 196 RX2 yX2_differences wsX2_differences) := goodIn_app (goodIn_of _ (by decide +kernel)) ggX3_read_X2_differences
theorem dX3_read_0 : decode cX3_read 0 = .ok (.iload_n 1, 1) := by decide +kernel
theorem dX3_read_1 : decode cX3_read 1 = .ok (.ifCond .lt 8, 3) := by decide +kernel
theorem dX3_read_4 : decode cX3_read 4 = .ok (.iload_n 1, 1) := by decide +kernel
theorem dX3_read_5 : decode cX3_read 5 = .ok (.iconst 4, 1) := by decide +kernel
theorem dX3_read_6 : decode cX3_read 6 = .ok (.if_icmp .le 13, 3) := by decide +kernel
theorem dX3_read_9 : decode cX3_read 9 = .ok (.new 41, 3) := by decide +kernel
theorem dX3_read_12 : decode cX3_read 12 = .ok (.dup, 1) := by decide +kernel
theorem dX3_read_13 : decode cX3_read 13 = .ok (.ldc 178, 2) := by decide +kernel
theorem dX3_read_15 : decode cX3_read 15 = .ok (.invokespecial 45, 3) := by decide +kernel
theorem dX3_read_18 : decode cX3_read 18 = .ok (.athrow, 1) := by decide +kernel
theorem dX3_read_19 : decode cX3_read 19 = .ok (.aload_n 0, 1) := by decide +kernel
theorem dX3_read_20 : decode cX3_read 20 = .ok (.invokevirtual 180, 3) := by decide +kernel
theorem dX3_read_23 : decode cX3_read 23 = .ok (.astore_n 2, 1) := by decide +kernel
theorem dX3_read_24 : decode cX3_read 24 = .ok (.aload_n 2, 1) := by decide +kernel
theorem dX3_read_25 : decode cX3_read 25 = .ok (.getfield 184, 3) := by decide +kernel
theorem dX3_read_28 : decode cX3_read 28 = .ok (.istore_n 3, 1) := by decide +kernel
theorem dX3_read_29 : decode cX3_read 29 = .ok (.iload_n 3, 1) := by decide +kernel
theorem dX3_read_30 : decode cX3_read 30 = .ok (.ifCond .lt 8, 3) := by decide +kernel
theorem dX3_read_33 : decode cX3_read 33 = .ok (.iload_n 3, 1) := by decide +kernel
theorem dX3_read_34 : decode cX3_read 34 = .ok (.iconst 4, 1) := by decide +kernel
theorem dX3_read_35 : decode cX3_read 35 = .ok (.if_icmp .lt 5, 3) := by decide +kernel
theorem dX3_read_38 : decode cX3_read 38 = .ok (.iconst (-1), 1) := by decide +kernel
theorem dX3_read_39 : decode cX3_read 39 = .ok (.ireturn, 1) := by decide +kernel
theorem dX3_read_40 : decode cX3_read 40 = .ok (.aload_n 2, 1) := by decide +kernel
theorem dX3_read_41 : decode cX3_read 41 = .ok (.getfield 187, 3) := by decide +kernel
theorem dX3_read_44 : decode cX3_read 44 = .ok (.iload_n 3, 1) := by decide +kernel
theorem dX3_read_45 : decode cX3_read 45 = .ok (.iaload, 1) := by decide +kernel
theorem dX3_read_46 : decode cX3_read 46 = .ok (.istore 4, 2) := by decide +kernel
theorem dX3_read_48 : decode cX3_read 48 = .ok (.iload_n 1, 1) := by decide +kernel
theorem dX3_read_49 : decode cX3_read 49 = .ok (.tableswitch 53 0 3 #[31, 34, 44, 46], 31) := by decide +kernel
theorem dX3_read_80 : decode cX3_read 80 = .ok (.iload 4, 2) := by decide +kernel
theorem dX3_read_82 : decode cX3_read 82 = .ok (.ireturn, 1) := by decide +kernel
theorem dX3_read_83 : decode cX3_read 83 = .ok (.aload_n 0, 1) := by decide +kernel
theorem dX3_read_84 : decode cX3_read 84 = .ok (.getfield 10, 3) := by decide +kernel
theorem dX3_read_87 : decode cX3_read 87 = .ok (.iload 4, 2) := by decide +kernel
theorem dX3_read_89 : decode cX3_read 89 = .ok (.invokevirtual 190, 3) := by decide +kernel
theorem dX3_read_92 : decode cX3_read 92 = .ok (.ireturn, 1) := by decide +kernel
theorem dX3_read_93 : decode cX3_read 93 = .ok (.iload_n 3, 1) := by decide +kernel
theorem dX3_read_94 : decode cX3_read 94 = .ok (.ireturn, 1) := by decide +kernel
theorem dX3_read_95 : decode cX3_read 95 = .ok (.aload_n 2, 1) := by decide +kernel
theorem dX3_read_96 : decode cX3_read 96 = .ok (.getfield 193, 3) := by decide +kernel
theorem dX3_read_99 : decode cX3_read 99 = .ok (.iload_n 3, 1) := by decide +kernel
theorem dX3_read_100 : decode cX3_read 100 = .ok (.iaload, 1) := by decide +kernel
theorem dX3_read_101 : decode cX3_read 101 = .ok (.ireturn, 1) := by decide +kernel
theorem dX3_read_102 : decode cX3_read 102 = .ok (.aload_n 0, 1) := by decide +kernel
theorem dX3_read_103 : decode cX3_read 103 = .ok (.getfield 10, 3) := by decide +kernel
theorem dX3_read_106 : decode cX3_read 106 = .ok (.aload_n 0, 1) := by decide +kernel
theorem dX3_read_107 : decode cX3_read 107 = .ok (.getfield 10, 3) := by decide +kernel
theorem dX3_read_110 : decode cX3_read 110 = .ok (.iload 4, 2) := by decide +kernel
theorem dX3_read_112 : decode cX3_read 112 = .ok (.invokevirtual 105, 3) := by decide +kernel
theorem dX3_read_115 : decode cX3_read 115 = .ok (.invokevirtual 196, 3) := by decide +kernel
theorem dX3_read_118 : decode cX3_read 118 = .ok (.ireturn, 1) := by decide +kernel
set_option maxRecDepth 20000 in
theorem ggX3_path_X3_currentReading : GoodIn wsX3_path wsX3_currentReading := goodIn_r _ [11, 12, 13, 14, 15, 16, 17, 18, 19, 20, 21, 22, 23, 24, 25, 26, 27, 28, 29, 30, 31, 32, 33, 34, 35, 36, 37, 38, 39, 40, 41, 42, 43, 44, 45, 46, 47, 48, 49, 50, 51, 52, 53, 54, 10, 55, 56, 57, 58, 59, 60, 61, 62, 63, 64, 65, 66, 67, 68, 69, 70, 71, 72, 73, 74, 75, 76, 77, 78, 79, 80, 81, 82, 83, 84, 85, 86, 87, 88, 89, 90, 91, 92, 93, 94, 95, 96, 97, 98, 99, 100, 101, 102, 103, 104, 105, 106, 107, 108, 109, 110, 111, 112, 113, 114, 115, 116, 129, 130, 131, 132, 133, 134, 135, 136, 137, 138, 139, 140, 141, 117, 118, 119, 120, 121, 122, 123, 124, 125, 126, 127, 128] (by decide +kernel) (by decide +kernel)
set_option maxRecDepth 20000 in
theorem gX3_path_X3_currentReading : GoodIn wsX3_path (wsV RX3 180 RX3 yX3_currentReading wsX3_currentReading) := goodIn_app (goodIn_of _ (by decide +kernel)) ggX3_path_X3_currentReading
theorem dX3_path_0 : decode cX3_path 0 = .ok (.iload_n 1, 1) := by decide +kernel
theorem dX3_path_1 : decode cX3_path 1 = .ok (.ifCond .lt 12, 3) := by decide +kernel
theorem dX3_path_4 : decode cX3_path 4 = .ok (.iload_n 2, 1) := by decide +kernel
theorem dX3_path_5 : decode cX3_path 5 = .ok (.ifCond .lt 8, 3) := by decide +kernel
theorem dX3_path_8 : decode cX3_path 8 = .ok (.iload_n 2, 1) := by decide +kernel
theorem dX3_path_9 : decode cX3_path 9 = .ok (.iconst 2, 1) := by decide +kernel
theorem dX3_path_10 : decode cX3_path 10 = .ok (.if_icmp .le 13, 3) := by decide +kernel
theorem dX3_path_13 : decode cX3_path 13 = .ok (.new 41, 3) := by decide +kernel
theorem dX3_path_16 : decode cX3_path 16 = .ok (.dup, 1) := by decide +kernel
theorem dX3_path_17 : decode cX3_path 17 = .ok (.ldc 199, 2) := by decide +kernel
theorem dX3_path_19 : decode cX3_path 19 = .ok (.invokespecial 45, 3) := by decide +kernel
theorem dX3_path_22 : decode cX3_path 22 = .ok (.athrow, 1) := by decide +kernel
theorem dX3_path_23 : decode cX3_path 23 = .ok (.aload_n 0, 1) := by decide +kernel
theorem dX3_path_24 : decode cX3_path 24 = .ok (.invokevirtual 180, 3) := by decide +kernel
theorem dX3_path_27 : decode cX3_path 27 = .ok (.astore_n 3, 1) := by decide +kernel
theorem dX3_path_28 : decode cX3_path 28 = .ok (.iload_n 1, 1) := by decide +kernel
theorem dX3_path_29 : decode cX3_path 29 = .ok (.aload_n 3, 1) := by decide +kernel
theorem dX3_path_30 : decode cX3_path 30 = .ok (.getfield 201, 3) := by decide +kernel
theorem dX3_path_33 : decode cX3_path 33 = .ok (.if_icmp .ge 8, 3) := by decide +kernel
theorem dX3_path_36 : decode cX3_path 36 = .ok (.iload_n 1, 1) := by decide +kernel
theorem dX3_path_37 : decode cX3_path 37 = .ok (.iconst 4, 1) := by decide +kernel
theorem dX3_path_38 : decode cX3_path 38 = .ok (.if_icmp .lt 5, 3) := by decide +kernel
theorem dX3_path_41 : decode cX3_path 41 = .ok (.iconst (-1), 1) := by decide +kernel
theorem dX3_path_42 : decode cX3_path 42 = .ok (.ireturn, 1) := by decide +kernel
theorem dX3_path_43 : decode cX3_path 43 = .ok (.iload_n 2, 1) := by decide +kernel
theorem dX3_path_44 : decode cX3_path 44 = .ok (.lookupswitch 42 #[(0, 28), (1, 35)], 28) := by decide +kernel
theorem dX3_path_72 : decode cX3_path 72 = .ok (.aload_n 3, 1) := by decide +kernel
theorem dX3_path_73 : decode cX3_path 73 = .ok (.getfield 187, 3) := by decide +kernel
theorem dX3_path_76 : decode cX3_path 76 = .ok (.iload_n 1, 1) := by decide +kernel
theorem dX3_path_77 : decode cX3_path 77 = .ok (.iaload, 1) := by decide +kernel
theorem dX3_path_78 : decode cX3_path 78 = .ok (.ireturn, 1) := by decide +kernel
theorem dX3_path_79 : decode cX3_path 79 = .ok (.aload_n 3, 1) := by decide +kernel
theorem dX3_path_80 : decode cX3_path 80 = .ok (.getfield 193, 3) := by decide +kernel
theorem dX3_path_83 : decode cX3_path 83 = .ok (.iload_n 1, 1) := by decide +kernel
theorem dX3_path_84 : decode cX3_path 84 = .ok (.iaload, 1) := by decide +kernel
theorem dX3_path_85 : decode cX3_path 85 = .ok (.ireturn, 1) := by decide +kernel
theorem dX3_path_86 : decode cX3_path 86 = .ok (.aload_n 3, 1) := by decide +kernel
theorem dX3_path_87 : decode cX3_path 87 = .ok (.getfield 204, 3) := by decide +kernel
theorem dX3_path_90 : decode cX3_path 90 = .ok (.iload_n 1, 1) := by decide +kernel
theorem dX3_path_91 : decode cX3_path 91 = .ok (.baload, 1) := by decide +kernel
theorem dX3_path_92 : decode cX3_path 92 = .ok (.ifCond .eq 7, 3) := by decide +kernel
theorem dX3_path_95 : decode cX3_path 95 = .ok (.iconst 1, 1) := by decide +kernel
theorem dX3_path_96 : decode cX3_path 96 = .ok (.goto 4, 3) := by decide +kernel
theorem dX3_path_99 : decode cX3_path 99 = .ok (.iconst 0, 1) := by decide +kernel
theorem dX3_path_100 : decode cX3_path 100 = .ok (.ireturn, 1) := by decide +kernel
set_option maxRecDepth 20000 in
theorem ggX3_heard_X2_hasPlace : GoodIn wsX3_heard wsX2_hasPlace := goodIn_r _ [8, 9, 130, 131, 132, 133] (by decide +kernel) (by decide +kernel)
set_option maxRecDepth 20000 in
theorem gX3_heard_X2_hasPlace : GoodIn wsX3_heard (wsV RX3 72 RX2 yX2_hasPlace wsX2_hasPlace) := goodIn_app (goodIn_of _ (by decide +kernel)) ggX3_heard_X2_hasPlace
set_option maxRecDepth 20000 in
theorem ggX3_heard_X3_currentReading : GoodIn wsX3_heard wsX3_currentReading := goodIn_r _ [14, 15, 16, 3, 17, 18, 19, 20, 21, 22, 23, 24, 25, 26, 27, 28, 29, 30, 31, 32, 33, 34, 7, 35, 36, 37, 38, 39, 40, 41, 42, 43, 44, 45, 46, 47, 48, 49, 50, 51, 52, 53, 54, 55, 13, 56, 57, 58, 59, 60, 61, 62, 63, 64, 65, 66, 67, 68, 69, 70, 71, 72, 73, 74, 75, 76, 77, 78, 79, 80, 81, 82, 83, 84, 85, 86, 87, 88, 89, 90, 91, 92, 93, 94, 95, 96, 97, 98, 99, 100, 101, 102, 103, 104, 105, 106, 107, 108, 109, 110, 111, 112, 113, 9, 114, 115, 116, 121, 122, 123, 124, 125, 126, 127, 128, 129, 130, 131, 132, 133, 134, 135, 136, 137, 138, 139, 140, 141, 142, 143, 144, 145] (by decide +kernel) (by decide +kernel)
set_option maxRecDepth 20000 in
theorem gX3_heard_X3_currentReading : GoodIn wsX3_heard (wsV RX3 180 RX3 yX3_currentReading wsX3_currentReading) := goodIn_app (goodIn_of _ (by decide +kernel)) ggX3_heard_X3_currentReading
set_option maxRecDepth 20000 in
theorem ggX3_heard_X0_heardByFirst : GoodIn wsX3_heard wsX0_heardByFirst := goodIn_r _ [120, 28, 42, 43, 44, 21, 45, 25, 46, 47, 48, 49, 50, 24, 51, 52, 53, 54, 55, 13, 56, 57, 58, 59, 60, 61, 134, 135, 136, 137, 138, 139, 140, 141, 142, 143, 144, 145] (by decide +kernel) (by decide +kernel)
set_option maxRecDepth 20000 in
theorem gX3_heard_X0_heardByFirst : GoodIn wsX3_heard (wsV RX3 208 RX0 yX0_heardByFirst wsX0_heardByFirst) := goodIn_app (goodIn_of _ (by decide +kernel)) ggX3_heard_X0_heardByFirst
theorem dX3_heard_0 : decode cX3_heard 0 = .ok (.aload_n 0, 1) := by decide +kernel
theorem dX3_heard_1 : decode cX3_heard 1 = .ok (.getfield 10, 3) := by decide +kernel
theorem dX3_heard_4 : decode cX3_heard 4 = .ok (.iload_n 1, 1) := by decide +kernel
theorem dX3_heard_5 : decode cX3_heard 5 = .ok (.invokevirtual 72, 3) := by decide +kernel
theorem dX3_heard_8 : decode cX3_heard 8 = .ok (.ifCond .ne 13, 3) := by decide +kernel
theorem dX3_heard_11 : decode cX3_heard 11 = .ok (.new 76, 3) := by decide +kernel
theorem dX3_heard_14 : decode cX3_heard 14 = .ok (.dup, 1) := by decide +kernel
theorem dX3_heard_15 : decode cX3_heard 15 = .ok (.ldc 78, 2) := by decide +kernel
theorem dX3_heard_17 : decode cX3_heard 17 = .ok (.invokespecial 80, 3) := by decide +kernel
theorem dX3_heard_20 : decode cX3_heard 20 = .ok (.athrow, 1) := by decide +kernel
theorem dX3_heard_21 : decode cX3_heard 21 = .ok (.aload_n 0, 1) := by decide +kernel
theorem dX3_heard_22 : decode cX3_heard 22 = .ok (.invokevirtual 180, 3) := by decide +kernel
theorem dX3_heard_25 : decode cX3_heard 25 = .ok (.iload_n 1, 1) := by decide +kernel
theorem dX3_heard_26 : decode cX3_heard 26 = .ok (.invokevirtual 208, 3) := by decide +kernel
theorem dX3_heard_29 : decode cX3_heard 29 = .ok (.sipush 10000, 3) := by decide +kernel
theorem dX3_heard_32 : decode cX3_heard 32 = .ok (.iadd, 1) := by decide +kernel
theorem dX3_heard_33 : decode cX3_heard 33 = .ok (.ireturn, 1) := by decide +kernel
set_option maxRecDepth 20000 in
theorem ggX3_count_X2_openPlaces : GoodIn wsX3_count wsX2_openPlaces := goodIn_r _ [11, 12, 13, 14, 15, 16, 17, 18, 19, 144, 145, 146, 147] (by decide +kernel) (by decide +kernel)
set_option maxRecDepth 20000 in
theorem gX3_count_X2_openPlaces : GoodIn wsX3_count (wsV RX3 211 RX2 yX2_openPlaces wsX2_openPlaces) := goodIn_app (goodIn_of _ (by decide +kernel)) ggX3_count_X2_openPlaces
set_option maxRecDepth 20000 in
theorem ggX3_count_X2_bodyBits : GoodIn wsX3_count wsX2_bodyBits := goodIn_r _ [23, 24, 8, 9, 10, 11, 12, 13, 14, 15, 16, 17, 18, 19, 25, 26, 27, 28, 29, 30, 31, 32, 33, 144, 145, 146, 147] (by decide +kernel) (by decide +kernel)
set_option maxRecDepth 20000 in
theorem gX3_count_X2_bodyBits : GoodIn wsX3_count (wsV RX3 214 RX2 yX2_bodyBits wsX2_bodyBits) := goodIn_app (goodIn_of _ (by decide +kernel)) ggX3_count_X2_bodyBits
set_option maxRecDepth 20000 in
theorem ggX3_count_X2_checkBits : GoodIn wsX3_count wsX2_checkBits := goodIn_r _ [28, 29, 30, 31, 32, 33, 24, 8, 9, 10, 11, 12, 13, 14, 15, 16, 17, 18, 19, 144, 145, 146, 147] (by decide +kernel) (by decide +kernel)
set_option maxRecDepth 20000 in
theorem gX3_count_X2_checkBits : GoodIn wsX3_count (wsV RX3 217 RX2 yX2_checkBits wsX2_checkBits) := goodIn_app (goodIn_of _ (by decide +kernel)) ggX3_count_X2_checkBits
set_option maxRecDepth 20000 in
theorem ggX3_count_X2_zeroValues : GoodIn wsX3_count wsX2_zeroValues := goodIn_r _ [38, 39, 40, 144, 145, 146, 147] (by decide +kernel) (by decide +kernel)
set_option maxRecDepth 20000 in
theorem gX3_count_X2_zeroValues : GoodIn wsX3_count (wsV RX3 220 RX2 yX2_zeroValues wsX2_zeroValues) := goodIn_app (goodIn_of _ (by decide +kernel)) ggX3_count_X2_zeroValues
set_option maxRecDepth 20000 in
theorem ggX3_count_X2_sumOfSizes : GoodIn wsX3_count wsX2_sumOfSizes := goodIn_r _ [44, 39, 40, 45, 46, 32, 47, 144, 145, 146, 147] (by decide +kernel) (by decide +kernel)
set_option maxRecDepth 20000 in
theorem gX3_count_X2_sumOfSizes : GoodIn wsX3_count (wsV RX3 223 RX2 yX2_sumOfSizes wsX2_sumOfSizes) := goodIn_app (goodIn_of _ (by decide +kernel)) ggX3_count_X2_sumOfSizes
set_option maxRecDepth 20000 in
theorem ggX3_count_X3_currentReading : GoodIn wsX3_count wsX3_currentReading := goodIn_r _ [52, 53, 54, 3, 55, 56, 57, 58, 59, 60, 61, 62, 63, 64, 65, 66, 67, 68, 69, 70, 71, 72, 10, 73, 12, 74, 75, 76, 77, 78, 79, 80, 81, 82, 83, 84, 85, 86, 87, 88, 89, 90, 91, 92, 51, 93, 94, 95, 96, 97, 98, 99, 100, 101, 102, 103, 104, 105, 106, 107, 108, 109, 110, 111, 112, 113, 114, 115, 116, 117, 118, 119, 120, 121, 122, 21, 22, 23, 24, 8, 9, 11, 13, 14, 15, 16, 17, 18, 19, 25, 26, 27, 28, 29, 30, 31, 32, 33, 123, 124, 125, 126, 127, 39, 128, 129, 130, 135, 136, 137, 138, 139, 140, 141, 142, 143, 144, 145, 146, 147, 148, 149, 150, 151, 152, 153, 154, 155, 156, 157, 158, 159] (by decide +kernel) (by decide +kernel)
set_option maxRecDepth 20000 in
theorem gX3_count_X3_currentReading : GoodIn wsX3_count (wsV RX3 180 RX3 yX3_currentReading wsX3_currentReading) := goodIn_app (goodIn_of _ (by decide +kernel)) ggX3_count_X3_currentReading
set_option maxRecDepth 20000 in
theorem ggX3_count_X0_rightPaths : GoodIn wsX3_count wsX0_rightPaths := goodIn_r _ [134, 65, 121, 148, 149, 150, 151, 152, 153, 154, 155, 156, 157, 158, 159] (by decide +kernel) (by decide +kernel)
set_option maxRecDepth 20000 in
theorem gX3_count_X0_rightPaths : GoodIn wsX3_count (wsV RX3 226 RX0 yX0_rightPaths wsX0_rightPaths) := goodIn_app (goodIn_of _ (by decide +kernel)) ggX3_count_X0_rightPaths
theorem dX3_count_0 : decode cX3_count 0 = .ok (.iload_n 1, 1) := by decide +kernel
theorem dX3_count_1 : decode cX3_count 1 = .ok (.tableswitch 120 0 8 #[51, 59, 67, 75, 83, 91, 99, 107, 115], 51) := by decide +kernel
theorem dX3_count_52 : decode cX3_count 52 = .ok (.aload_n 0, 1) := by decide +kernel
theorem dX3_count_53 : decode cX3_count 53 = .ok (.getfield 10, 3) := by decide +kernel
theorem dX3_count_56 : decode cX3_count 56 = .ok (.getfield 51, 3) := by decide +kernel
theorem dX3_count_59 : decode cX3_count 59 = .ok (.ireturn, 1) := by decide +kernel
theorem dX3_count_60 : decode cX3_count 60 = .ok (.aload_n 0, 1) := by decide +kernel
theorem dX3_count_61 : decode cX3_count 61 = .ok (.getfield 10, 3) := by decide +kernel
theorem dX3_count_64 : decode cX3_count 64 = .ok (.invokevirtual 211, 3) := by decide +kernel
theorem dX3_count_67 : decode cX3_count 67 = .ok (.ireturn, 1) := by decide +kernel
theorem dX3_count_68 : decode cX3_count 68 = .ok (.aload_n 0, 1) := by decide +kernel
theorem dX3_count_69 : decode cX3_count 69 = .ok (.getfield 10, 3) := by decide +kernel
theorem dX3_count_72 : decode cX3_count 72 = .ok (.invokevirtual 214, 3) := by decide +kernel
theorem dX3_count_75 : decode cX3_count 75 = .ok (.ireturn, 1) := by decide +kernel
theorem dX3_count_76 : decode cX3_count 76 = .ok (.aload_n 0, 1) := by decide +kernel
theorem dX3_count_77 : decode cX3_count 77 = .ok (.getfield 10, 3) := by decide +kernel
theorem dX3_count_80 : decode cX3_count 80 = .ok (.invokevirtual 217, 3) := by decide +kernel
theorem dX3_count_83 : decode cX3_count 83 = .ok (.ireturn, 1) := by decide +kernel
theorem dX3_count_84 : decode cX3_count 84 = .ok (.aload_n 0, 1) := by decide +kernel
theorem dX3_count_85 : decode cX3_count 85 = .ok (.getfield 10, 3) := by decide +kernel
theorem dX3_count_88 : decode cX3_count 88 = .ok (.invokevirtual 220, 3) := by decide +kernel
theorem dX3_count_91 : decode cX3_count 91 = .ok (.ireturn, 1) := by decide +kernel
theorem dX3_count_92 : decode cX3_count 92 = .ok (.aload_n 0, 1) := by decide +kernel
theorem dX3_count_93 : decode cX3_count 93 = .ok (.getfield 10, 3) := by decide +kernel
theorem dX3_count_96 : decode cX3_count 96 = .ok (.invokevirtual 223, 3) := by decide +kernel
theorem dX3_count_99 : decode cX3_count 99 = .ok (.ireturn, 1) := by decide +kernel
theorem dX3_count_100 : decode cX3_count 100 = .ok (.aload_n 0, 1) := by decide +kernel
theorem dX3_count_101 : decode cX3_count 101 = .ok (.invokevirtual 180, 3) := by decide +kernel
theorem dX3_count_104 : decode cX3_count 104 = .ok (.getfield 201, 3) := by decide +kernel
theorem dX3_count_107 : decode cX3_count 107 = .ok (.ireturn, 1) := by decide +kernel
theorem dX3_count_108 : decode cX3_count 108 = .ok (.aload_n 0, 1) := by decide +kernel
theorem dX3_count_109 : decode cX3_count 109 = .ok (.invokevirtual 180, 3) := by decide +kernel
theorem dX3_count_112 : decode cX3_count 112 = .ok (.invokevirtual 226, 3) := by decide +kernel
theorem dX3_count_115 : decode cX3_count 115 = .ok (.ireturn, 1) := by decide +kernel
theorem dX3_count_116 : decode cX3_count 116 = .ok (.aload_n 0, 1) := by decide +kernel
theorem dX3_count_117 : decode cX3_count 117 = .ok (.getfield 144, 3) := by decide +kernel
theorem dX3_count_120 : decode cX3_count 120 = .ok (.ireturn, 1) := by decide +kernel
theorem dX3_count_121 : decode cX3_count 121 = .ok (.new 41, 3) := by decide +kernel
theorem dX3_count_124 : decode cX3_count 124 = .ok (.dup, 1) := by decide +kernel
theorem dX3_count_125 : decode cX3_count 125 = .ok (.ldc 229, 2) := by decide +kernel
theorem dX3_count_127 : decode cX3_count 127 = .ok (.invokespecial 45, 3) := by decide +kernel
theorem dX3_count_130 : decode cX3_count 130 = .ok (.athrow, 1) := by decide +kernel
theorem dX3_setting_0 : decode cX3_setting 0 = .ok (.iload_n 1, 1) := by decide +kernel
theorem dX3_setting_1 : decode cX3_setting 1 = .ok (.ifCond .lt 8, 3) := by decide +kernel
theorem dX3_setting_4 : decode cX3_setting 4 = .ok (.iload_n 1, 1) := by decide +kernel
theorem dX3_setting_5 : decode cX3_setting 5 = .ok (.iconst 4, 1) := by decide +kernel
theorem dX3_setting_6 : decode cX3_setting 6 = .ok (.if_icmp .lt 13, 3) := by decide +kernel
theorem dX3_setting_9 : decode cX3_setting 9 = .ok (.new 76, 3) := by decide +kernel
theorem dX3_setting_12 : decode cX3_setting 12 = .ok (.dup, 1) := by decide +kernel
theorem dX3_setting_13 : decode cX3_setting 13 = .ok (.ldc 84, 2) := by decide +kernel
theorem dX3_setting_15 : decode cX3_setting 15 = .ok (.invokespecial 80, 3) := by decide +kernel
theorem dX3_setting_18 : decode cX3_setting 18 = .ok (.athrow, 1) := by decide +kernel
theorem dX3_setting_19 : decode cX3_setting 19 = .ok (.aload_n 0, 1) := by decide +kernel
theorem dX3_setting_20 : decode cX3_setting 20 = .ok (.getfield 10, 3) := by decide +kernel
theorem dX3_setting_23 : decode cX3_setting 23 = .ok (.getfield 94, 3) := by decide +kernel
theorem dX3_setting_26 : decode cX3_setting 26 = .ok (.iload_n 1, 1) := by decide +kernel
theorem dX3_setting_27 : decode cX3_setting 27 = .ok (.iaload, 1) := by decide +kernel
theorem dX3_setting_28 : decode cX3_setting 28 = .ok (.ireturn, 1) := by decide +kernel
set_option maxRecDepth 20000 in
theorem ggX3_ifFlipped_X2_hasPlace : GoodIn wsX3_ifFlipped wsX2_hasPlace := goodIn_r _ [10, 11, 121, 122, 123, 124] (by decide +kernel) (by decide +kernel)
set_option maxRecDepth 20000 in
theorem gX3_ifFlipped_X2_hasPlace : GoodIn wsX3_ifFlipped (wsV RX3 72 RX2 yX2_hasPlace wsX2_hasPlace) := goodIn_app (goodIn_of _ (by decide +kernel)) ggX3_ifFlipped_X2_hasPlace
set_option maxRecDepth 20000 in
theorem ggX3_ifFlipped_X0_messageRead : GoodIn wsX3_ifFlipped wsX0_messageRead := goodIn_r _ [16, 17, 18, 19, 20, 21, 22, 23, 24, 25, 26, 27, 28, 9, 29, 30, 31, 32, 33, 15, 34, 35, 36, 37, 38, 39, 40, 41, 42, 43, 44, 45, 46, 47, 48, 49, 50, 51, 52, 53, 54, 55, 56, 57, 58, 59, 60, 61, 62, 63, 64, 65, 66, 67, 68, 69, 70, 71, 72, 73, 74, 75, 76, 77, 78, 79, 80, 81, 82, 83, 84, 85, 86, 87, 88, 89, 90, 91, 92, 93, 94, 95, 96, 97, 98, 99, 100, 101, 102, 103, 104, 105, 106, 107, 108, 11, 109, 110, 111, 121, 122, 123, 124, 125, 126, 127, 128, 129, 130, 131, 132, 133, 134, 135, 136] (by decide +kernel) (by decide +kernel)
set_option maxRecDepth 20000 in
theorem gX3_ifFlipped_X0_messageRead : GoodIn wsX3_ifFlipped (wsV RX3 231 RX0 yX0_messageRead wsX0_messageRead) := goodIn_app (goodIn_of _ (by decide +kernel)) ggX3_ifFlipped_X0_messageRead
theorem dX3_ifFlipped_0 : decode cX3_ifFlipped 0 = .ok (.aload_n 0, 1) := by decide +kernel
theorem dX3_ifFlipped_1 : decode cX3_ifFlipped 1 = .ok (.getfield 10, 3) := by decide +kernel
theorem dX3_ifFlipped_4 : decode cX3_ifFlipped 4 = .ok (.iload_n 1, 1) := by decide +kernel
theorem dX3_ifFlipped_5 : decode cX3_ifFlipped 5 = .ok (.invokevirtual 72, 3) := by decide +kernel
theorem dX3_ifFlipped_8 : decode cX3_ifFlipped 8 = .ok (.ifCond .ne 13, 3) := by decide +kernel
theorem dX3_ifFlipped_11 : decode cX3_ifFlipped 11 = .ok (.new 76, 3) := by decide +kernel
theorem dX3_ifFlipped_14 : decode cX3_ifFlipped 14 = .ok (.dup, 1) := by decide +kernel
theorem dX3_ifFlipped_15 : decode cX3_ifFlipped 15 = .ok (.ldc 78, 2) := by decide +kernel
theorem dX3_ifFlipped_17 : decode cX3_ifFlipped 17 = .ok (.invokespecial 80, 3) := by decide +kernel
theorem dX3_ifFlipped_20 : decode cX3_ifFlipped 20 = .ok (.athrow, 1) := by decide +kernel
theorem dX3_ifFlipped_21 : decode cX3_ifFlipped 21 = .ok (.aload_n 0, 1) := by decide +kernel
theorem dX3_ifFlipped_22 : decode cX3_ifFlipped 22 = .ok (.getfield 38, 3) := by decide +kernel
theorem dX3_ifFlipped_25 : decode cX3_ifFlipped 25 = .ok (.aload_n 0, 1) := by decide +kernel
theorem dX3_ifFlipped_26 : decode cX3_ifFlipped 26 = .ok (.getfield 10, 3) := by decide +kernel
theorem dX3_ifFlipped_29 : decode cX3_ifFlipped 29 = .ok (.iconst 1, 1) := by decide +kernel
theorem dX3_ifFlipped_30 : decode cX3_ifFlipped 30 = .ok (.iload_n 1, 1) := by decide +kernel
theorem dX3_ifFlipped_31 : decode cX3_ifFlipped 31 = .ok (.ishl, 1) := by decide +kernel
theorem dX3_ifFlipped_32 : decode cX3_ifFlipped 32 = .ok (.aload_n 0, 1) := by decide +kernel
theorem dX3_ifFlipped_33 : decode cX3_ifFlipped 33 = .ok (.getfield 10, 3) := by decide +kernel
theorem dX3_ifFlipped_36 : decode cX3_ifFlipped 36 = .ok (.getfield 94, 3) := by decide +kernel
theorem dX3_ifFlipped_39 : decode cX3_ifFlipped 39 = .ok (.iconst 1, 1) := by decide +kernel
theorem dX3_ifFlipped_40 : decode cX3_ifFlipped 40 = .ok (.iaload, 1) := by decide +kernel
theorem dX3_ifFlipped_41 : decode cX3_ifFlipped 41 = .ok (.invokevirtual 231, 3) := by decide +kernel
theorem dX3_ifFlipped_44 : decode cX3_ifFlipped 44 = .ok (.ireturn, 1) := by decide +kernel
set_option maxRecDepth 20000 in
theorem ggX3_ifPaths_X0_messageRead : GoodIn wsX3_ifPaths wsX0_messageRead := goodIn_r _ [9, 10, 11, 12, 13, 14, 15, 16, 17, 18, 19, 20, 21, 22, 23, 24, 25, 26, 27, 8, 28, 29, 30, 31, 32, 33, 34, 35, 36, 37, 38, 39, 40, 41, 42, 43, 44, 45, 46, 47, 48, 49, 50, 51, 52, 53, 54, 55, 56, 57, 58, 59, 60, 61, 62, 63, 64, 65, 66, 67, 68, 69, 70, 71, 72, 73, 74, 75, 76, 77, 78, 79, 80, 81, 82, 83, 84, 85, 86, 87, 88, 89, 90, 91, 92, 93, 94, 95, 96, 97, 98, 99, 100, 101, 102, 103, 104, 105, 106, 116, 117, 118, 119, 120, 121, 122, 123, 124, 125, 126, 127, 128, 129, 130, 131] (by decide +kernel) (by decide +kernel)
set_option maxRecDepth 20000 in
theorem gX3_ifPaths_X0_messageRead : GoodIn wsX3_ifPaths (wsV RX3 231 RX0 yX0_messageRead wsX0_messageRead) := goodIn_app (goodIn_of _ (by decide +kernel)) ggX3_ifPaths_X0_messageRead
theorem dX3_ifPaths_0 : decode cX3_ifPaths 0 = .ok (.iload_n 1, 1) := by decide +kernel
theorem dX3_ifPaths_1 : decode cX3_ifPaths 1 = .ok (.iconst 1, 1) := by decide +kernel
theorem dX3_ifPaths_2 : decode cX3_ifPaths 2 = .ok (.if_icmp .lt 8, 3) := by decide +kernel
theorem dX3_ifPaths_5 : decode cX3_ifPaths 5 = .ok (.iload_n 1, 1) := by decide +kernel
theorem dX3_ifPaths_6 : decode cX3_ifPaths 6 = .ok (.iconst 4, 1) := by decide +kernel
theorem dX3_ifPaths_7 : decode cX3_ifPaths 7 = .ok (.if_icmp .le 13, 3) := by decide +kernel
theorem dX3_ifPaths_10 : decode cX3_ifPaths 10 = .ok (.new 41, 3) := by decide +kernel
theorem dX3_ifPaths_13 : decode cX3_ifPaths 13 = .ok (.dup, 1) := by decide +kernel
theorem dX3_ifPaths_14 : decode cX3_ifPaths 14 = .ok (.ldc 235, 2) := by decide +kernel
theorem dX3_ifPaths_16 : decode cX3_ifPaths 16 = .ok (.invokespecial 45, 3) := by decide +kernel
theorem dX3_ifPaths_19 : decode cX3_ifPaths 19 = .ok (.athrow, 1) := by decide +kernel
theorem dX3_ifPaths_20 : decode cX3_ifPaths 20 = .ok (.aload_n 0, 1) := by decide +kernel
theorem dX3_ifPaths_21 : decode cX3_ifPaths 21 = .ok (.getfield 38, 3) := by decide +kernel
theorem dX3_ifPaths_24 : decode cX3_ifPaths 24 = .ok (.aload_n 0, 1) := by decide +kernel
theorem dX3_ifPaths_25 : decode cX3_ifPaths 25 = .ok (.getfield 10, 3) := by decide +kernel
theorem dX3_ifPaths_28 : decode cX3_ifPaths 28 = .ok (.iconst 0, 1) := by decide +kernel
theorem dX3_ifPaths_29 : decode cX3_ifPaths 29 = .ok (.iload_n 1, 1) := by decide +kernel
theorem dX3_ifPaths_30 : decode cX3_ifPaths 30 = .ok (.invokevirtual 231, 3) := by decide +kernel
theorem dX3_ifPaths_33 : decode cX3_ifPaths 33 = .ok (.ireturn, 1) := by decide +kernel
set_option maxRecDepth 20000 in
theorem ggX3_weakest_X0_messageRead : GoodIn wsX3_weakest wsX0_messageRead := goodIn_r _ [9, 10, 11, 12, 13, 14, 15, 16, 17, 18, 19, 20, 21, 22, 23, 24, 25, 26, 27, 8, 28, 29, 30, 31, 32, 33, 34, 35, 36, 37, 38, 39, 40, 41, 42, 43, 44, 45, 46, 47, 48, 49, 50, 51, 52, 53, 54, 55, 56, 57, 58, 59, 60, 61, 62, 63, 64, 65, 66, 67, 68, 69, 70, 71, 72, 73, 74, 75, 76, 77, 78, 79, 80, 81, 82, 83, 84, 85, 86, 87, 88, 89, 90, 91, 92, 93, 94, 95, 96, 97, 98, 99, 100, 101, 102, 103, 104, 105, 106, 116, 117, 118, 119, 120, 121, 122, 123, 124, 125, 126, 127, 128, 129, 130, 131] (by decide +kernel) (by decide +kernel)
set_option maxRecDepth 20000 in
theorem gX3_weakest_X0_messageRead : GoodIn wsX3_weakest (wsV RX3 231 RX0 yX0_messageRead wsX0_messageRead) := goodIn_app (goodIn_of _ (by decide +kernel)) ggX3_weakest_X0_messageRead
theorem dX3_weakest_0 : decode cX3_weakest 0 = .ok (.aload_n 0, 1) := by decide +kernel
theorem dX3_weakest_1 : decode cX3_weakest 1 = .ok (.getfield 10, 3) := by decide +kernel
theorem dX3_weakest_4 : decode cX3_weakest 4 = .ok (.getfield 94, 3) := by decide +kernel
theorem dX3_weakest_7 : decode cX3_weakest 7 = .ok (.iconst 1, 1) := by decide +kernel
theorem dX3_weakest_8 : decode cX3_weakest 8 = .ok (.iaload, 1) := by decide +kernel
theorem dX3_weakest_9 : decode cX3_weakest 9 = .ok (.istore_n 1, 1) := by decide +kernel
theorem dX3_weakest_10 : decode cX3_weakest 10 = .ok (.aload_n 0, 1) := by decide +kernel
theorem dX3_weakest_11 : decode cX3_weakest 11 = .ok (.getfield 38, 3) := by decide +kernel
theorem dX3_weakest_14 : decode cX3_weakest 14 = .ok (.aload_n 0, 1) := by decide +kernel
theorem dX3_weakest_15 : decode cX3_weakest 15 = .ok (.getfield 10, 3) := by decide +kernel
theorem dX3_weakest_18 : decode cX3_weakest 18 = .ok (.iconst 0, 1) := by decide +kernel
theorem dX3_weakest_19 : decode cX3_weakest 19 = .ok (.iload_n 1, 1) := by decide +kernel
theorem dX3_weakest_20 : decode cX3_weakest 20 = .ok (.invokevirtual 231, 3) := by decide +kernel
theorem dX3_weakest_23 : decode cX3_weakest 23 = .ok (.istore_n 2, 1) := by decide +kernel
theorem dX3_weakest_24 : decode cX3_weakest 24 = .ok (.iconst 0, 1) := by decide +kernel
theorem dX3_weakest_25 : decode cX3_weakest 25 = .ok (.istore_n 3, 1) := by decide +kernel
theorem dX3_weakest_26 : decode cX3_weakest 26 = .ok (.iload_n 3, 1) := by decide +kernel
theorem dX3_weakest_27 : decode cX3_weakest 27 = .ok (.aload_n 0, 1) := by decide +kernel
theorem dX3_weakest_28 : decode cX3_weakest 28 = .ok (.getfield 10, 3) := by decide +kernel
theorem dX3_weakest_31 : decode cX3_weakest 31 = .ok (.getfield 51, 3) := by decide +kernel
theorem dX3_weakest_34 : decode cX3_weakest 34 = .ok (.if_icmp .ge 30, 3) := by decide +kernel
theorem dX3_weakest_37 : decode cX3_weakest 37 = .ok (.aload_n 0, 1) := by decide +kernel
theorem dX3_weakest_38 : decode cX3_weakest 38 = .ok (.getfield 38, 3) := by decide +kernel
theorem dX3_weakest_41 : decode cX3_weakest 41 = .ok (.aload_n 0, 1) := by decide +kernel
theorem dX3_weakest_42 : decode cX3_weakest 42 = .ok (.getfield 10, 3) := by decide +kernel
theorem dX3_weakest_45 : decode cX3_weakest 45 = .ok (.iconst 1, 1) := by decide +kernel
theorem dX3_weakest_46 : decode cX3_weakest 46 = .ok (.iload_n 3, 1) := by decide +kernel
theorem dX3_weakest_47 : decode cX3_weakest 47 = .ok (.ishl, 1) := by decide +kernel
theorem dX3_weakest_48 : decode cX3_weakest 48 = .ok (.iload_n 1, 1) := by decide +kernel
theorem dX3_weakest_49 : decode cX3_weakest 49 = .ok (.invokevirtual 231, 3) := by decide +kernel
theorem dX3_weakest_52 : decode cX3_weakest 52 = .ok (.iload_n 2, 1) := by decide +kernel
theorem dX3_weakest_53 : decode cX3_weakest 53 = .ok (.if_icmp .eq 5, 3) := by decide +kernel
theorem dX3_weakest_56 : decode cX3_weakest 56 = .ok (.iload_n 3, 1) := by decide +kernel
theorem dX3_weakest_57 : decode cX3_weakest 57 = .ok (.ireturn, 1) := by decide +kernel
theorem dX3_weakest_58 : decode cX3_weakest 58 = .ok (.iinc 3 1, 3) := by decide +kernel
theorem dX3_weakest_61 : decode cX3_weakest 61 = .ok (.goto (-35), 3) := by decide +kernel
theorem dX3_weakest_64 : decode cX3_weakest 64 = .ok (.iconst (-1), 1) := by decide +kernel
theorem dX3_weakest_65 : decode cX3_weakest 65 = .ok (.ireturn, 1) := by decide +kernel
set_option maxRecDepth 20000 in
theorem ggX3_borne_X0_messageRead : GoodIn wsX3_borne wsX0_messageRead := goodIn_r _ [9, 10, 11, 12, 13, 14, 15, 16, 17, 18, 19, 20, 21, 22, 23, 24, 25, 26, 27, 8, 28, 29, 30, 31, 32, 33, 34, 35, 36, 37, 38, 39, 40, 41, 42, 43, 44, 45, 46, 47, 48, 49, 50, 51, 52, 53, 54, 55, 56, 57, 58, 59, 60, 61, 62, 63, 64, 65, 66, 67, 68, 69, 70, 71, 72, 73, 74, 75, 76, 77, 78, 79, 80, 81, 82, 83, 84, 85, 86, 87, 88, 89, 90, 91, 92, 93, 94, 95, 96, 97, 98, 99, 100, 101, 102, 103, 104, 105, 106, 116, 117, 118, 119, 120, 121, 122, 123, 124, 125, 126, 127, 128, 129, 130, 131] (by decide +kernel) (by decide +kernel)
set_option maxRecDepth 20000 in
theorem gX3_borne_X0_messageRead : GoodIn wsX3_borne (wsV RX3 231 RX0 yX0_messageRead wsX0_messageRead) := goodIn_app (goodIn_of _ (by decide +kernel)) ggX3_borne_X0_messageRead
theorem dX3_borne_0 : decode cX3_borne 0 = .ok (.aload_n 0, 1) := by decide +kernel
theorem dX3_borne_1 : decode cX3_borne 1 = .ok (.getfield 10, 3) := by decide +kernel
theorem dX3_borne_4 : decode cX3_borne 4 = .ok (.getfield 94, 3) := by decide +kernel
theorem dX3_borne_7 : decode cX3_borne 7 = .ok (.iconst 1, 1) := by decide +kernel
theorem dX3_borne_8 : decode cX3_borne 8 = .ok (.iaload, 1) := by decide +kernel
theorem dX3_borne_9 : decode cX3_borne 9 = .ok (.istore_n 1, 1) := by decide +kernel
theorem dX3_borne_10 : decode cX3_borne 10 = .ok (.aload_n 0, 1) := by decide +kernel
theorem dX3_borne_11 : decode cX3_borne 11 = .ok (.getfield 38, 3) := by decide +kernel
theorem dX3_borne_14 : decode cX3_borne 14 = .ok (.aload_n 0, 1) := by decide +kernel
theorem dX3_borne_15 : decode cX3_borne 15 = .ok (.getfield 10, 3) := by decide +kernel
theorem dX3_borne_18 : decode cX3_borne 18 = .ok (.iconst 0, 1) := by decide +kernel
theorem dX3_borne_19 : decode cX3_borne 19 = .ok (.iload_n 1, 1) := by decide +kernel
theorem dX3_borne_20 : decode cX3_borne 20 = .ok (.invokevirtual 231, 3) := by decide +kernel
theorem dX3_borne_23 : decode cX3_borne 23 = .ok (.istore_n 2, 1) := by decide +kernel
theorem dX3_borne_24 : decode cX3_borne 24 = .ok (.iconst 0, 1) := by decide +kernel
theorem dX3_borne_25 : decode cX3_borne 25 = .ok (.istore_n 3, 1) := by decide +kernel
theorem dX3_borne_26 : decode cX3_borne 26 = .ok (.iconst 0, 1) := by decide +kernel
theorem dX3_borne_27 : decode cX3_borne 27 = .ok (.istore 4, 2) := by decide +kernel
theorem dX3_borne_29 : decode cX3_borne 29 = .ok (.iload 4, 2) := by decide +kernel
theorem dX3_borne_31 : decode cX3_borne 31 = .ok (.aload_n 0, 1) := by decide +kernel
theorem dX3_borne_32 : decode cX3_borne 32 = .ok (.getfield 10, 3) := by decide +kernel
theorem dX3_borne_35 : decode cX3_borne 35 = .ok (.getfield 51, 3) := by decide +kernel
theorem dX3_borne_38 : decode cX3_borne 38 = .ok (.if_icmp .ge 36, 3) := by decide +kernel
theorem dX3_borne_41 : decode cX3_borne 41 = .ok (.iload_n 3, 1) := by decide +kernel
theorem dX3_borne_42 : decode cX3_borne 42 = .ok (.iconst 1, 1) := by decide +kernel
theorem dX3_borne_43 : decode cX3_borne 43 = .ok (.iload 4, 2) := by decide +kernel
theorem dX3_borne_45 : decode cX3_borne 45 = .ok (.ishl, 1) := by decide +kernel
theorem dX3_borne_46 : decode cX3_borne 46 = .ok (.ior, 1) := by decide +kernel
theorem dX3_borne_47 : decode cX3_borne 47 = .ok (.istore_n 3, 1) := by decide +kernel
theorem dX3_borne_48 : decode cX3_borne 48 = .ok (.aload_n 0, 1) := by decide +kernel
theorem dX3_borne_49 : decode cX3_borne 49 = .ok (.getfield 38, 3) := by decide +kernel
theorem dX3_borne_52 : decode cX3_borne 52 = .ok (.aload_n 0, 1) := by decide +kernel
theorem dX3_borne_53 : decode cX3_borne 53 = .ok (.getfield 10, 3) := by decide +kernel
theorem dX3_borne_56 : decode cX3_borne 56 = .ok (.iload_n 3, 1) := by decide +kernel
theorem dX3_borne_57 : decode cX3_borne 57 = .ok (.iload_n 1, 1) := by decide +kernel
theorem dX3_borne_58 : decode cX3_borne 58 = .ok (.invokevirtual 231, 3) := by decide +kernel
theorem dX3_borne_61 : decode cX3_borne 61 = .ok (.iload_n 2, 1) := by decide +kernel
theorem dX3_borne_62 : decode cX3_borne 62 = .ok (.if_icmp .eq 6, 3) := by decide +kernel
theorem dX3_borne_65 : decode cX3_borne 65 = .ok (.iload 4, 2) := by decide +kernel
theorem dX3_borne_67 : decode cX3_borne 67 = .ok (.ireturn, 1) := by decide +kernel
theorem dX3_borne_68 : decode cX3_borne 68 = .ok (.iinc 4 1, 3) := by decide +kernel
theorem dX3_borne_71 : decode cX3_borne 71 = .ok (.goto (-42), 3) := by decide +kernel
theorem dX3_borne_74 : decode cX3_borne 74 = .ok (.aload_n 0, 1) := by decide +kernel
theorem dX3_borne_75 : decode cX3_borne 75 = .ok (.getfield 10, 3) := by decide +kernel
theorem dX3_borne_78 : decode cX3_borne 78 = .ok (.getfield 51, 3) := by decide +kernel
theorem dX3_borne_81 : decode cX3_borne 81 = .ok (.ireturn, 1) := by decide +kernel
set_option maxRecDepth 20000 in
theorem ggX3_unsureShare_X2_openPlaces : GoodIn wsX3_unsureShare wsX2_openPlaces := goodIn_r _ [8, 9, 10, 11, 12, 13, 14, 15, 16, 39, 40, 41, 42] (by decide +kernel) (by decide +kernel)
set_option maxRecDepth 20000 in
theorem gX3_unsureShare_X2_openPlaces : GoodIn wsX3_unsureShare (wsV RX3 211 RX2 yX2_openPlaces wsX2_openPlaces) := goodIn_app (goodIn_of _ (by decide +kernel)) ggX3_unsureShare_X2_openPlaces
set_option maxRecDepth 20000 in
theorem ggX3_unsureShare_X2_isOpen : GoodIn wsX3_unsureShare wsX2_isOpen := goodIn_r _ [20, 9, 39, 40, 41, 42] (by decide +kernel) (by decide +kernel)
set_option maxRecDepth 20000 in
theorem gX3_unsureShare_X2_isOpen : GoodIn wsX3_unsureShare (wsV RX3 81 RX2 yX2_isOpen wsX2_isOpen) := goodIn_app (goodIn_of _ (by decide +kernel)) ggX3_unsureShare_X2_isOpen
set_option maxRecDepth 20000 in
theorem ggX3_unsureShare_X2_unsureness : GoodIn wsX3_unsureShare wsX2_unsureness := goodIn_r _ [24, 25, 26, 27, 28, 29, 39, 40, 41, 42] (by decide +kernel) (by decide +kernel)
set_option maxRecDepth 20000 in
theorem gX3_unsureShare_X2_unsureness : GoodIn wsX3_unsureShare (wsV RX3 160 RX2 yX2_unsureness wsX2_unsureness) := goodIn_app (goodIn_of _ (by decide +kernel)) ggX3_unsureShare_X2_unsureness
theorem dX3_unsureShare_0 : decode cX3_unsureShare 0 = .ok (.aload_n 0, 1) := by decide +kernel
theorem dX3_unsureShare_1 : decode cX3_unsureShare 1 = .ok (.getfield 10, 3) := by decide +kernel
theorem dX3_unsureShare_4 : decode cX3_unsureShare 4 = .ok (.invokevirtual 211, 3) := by decide +kernel
theorem dX3_unsureShare_7 : decode cX3_unsureShare 7 = .ok (.istore_n 1, 1) := by decide +kernel
theorem dX3_unsureShare_8 : decode cX3_unsureShare 8 = .ok (.iload_n 1, 1) := by decide +kernel
theorem dX3_unsureShare_9 : decode cX3_unsureShare 9 = .ok (.ifCond .gt 5, 3) := by decide +kernel
theorem dX3_unsureShare_12 : decode cX3_unsureShare 12 = .ok (.dconst 0, 1) := by decide +kernel
theorem dX3_unsureShare_13 : decode cX3_unsureShare 13 = .ok (.dreturn, 1) := by decide +kernel
theorem dX3_unsureShare_14 : decode cX3_unsureShare 14 = .ok (.lconst 0, 1) := by decide +kernel
theorem dX3_unsureShare_15 : decode cX3_unsureShare 15 = .ok (.lstore_n 2, 1) := by decide +kernel
theorem dX3_unsureShare_16 : decode cX3_unsureShare 16 = .ok (.iconst 0, 1) := by decide +kernel
theorem dX3_unsureShare_17 : decode cX3_unsureShare 17 = .ok (.istore 4, 2) := by decide +kernel
theorem dX3_unsureShare_19 : decode cX3_unsureShare 19 = .ok (.iload 4, 2) := by decide +kernel
theorem dX3_unsureShare_21 : decode cX3_unsureShare 21 = .ok (.aload_n 0, 1) := by decide +kernel
theorem dX3_unsureShare_22 : decode cX3_unsureShare 22 = .ok (.getfield 10, 3) := by decide +kernel
theorem dX3_unsureShare_25 : decode cX3_unsureShare 25 = .ok (.getfield 51, 3) := by decide +kernel
theorem dX3_unsureShare_28 : decode cX3_unsureShare 28 = .ok (.if_icmp .ge 34, 3) := by decide +kernel
theorem dX3_unsureShare_31 : decode cX3_unsureShare 31 = .ok (.aload_n 0, 1) := by decide +kernel
theorem dX3_unsureShare_32 : decode cX3_unsureShare 32 = .ok (.getfield 10, 3) := by decide +kernel
theorem dX3_unsureShare_35 : decode cX3_unsureShare 35 = .ok (.iload 4, 2) := by decide +kernel
theorem dX3_unsureShare_37 : decode cX3_unsureShare 37 = .ok (.invokevirtual 81, 3) := by decide +kernel
theorem dX3_unsureShare_40 : decode cX3_unsureShare 40 = .ok (.ifCond .eq 16, 3) := by decide +kernel
theorem dX3_unsureShare_43 : decode cX3_unsureShare 43 = .ok (.lload_n 2, 1) := by decide +kernel
theorem dX3_unsureShare_44 : decode cX3_unsureShare 44 = .ok (.aload_n 0, 1) := by decide +kernel
theorem dX3_unsureShare_45 : decode cX3_unsureShare 45 = .ok (.getfield 10, 3) := by decide +kernel
theorem dX3_unsureShare_48 : decode cX3_unsureShare 48 = .ok (.iload 4, 2) := by decide +kernel
theorem dX3_unsureShare_50 : decode cX3_unsureShare 50 = .ok (.invokevirtual 160, 3) := by decide +kernel
theorem dX3_unsureShare_53 : decode cX3_unsureShare 53 = .ok (.i2l, 1) := by decide +kernel
theorem dX3_unsureShare_54 : decode cX3_unsureShare 54 = .ok (.ladd, 1) := by decide +kernel
theorem dX3_unsureShare_55 : decode cX3_unsureShare 55 = .ok (.lstore_n 2, 1) := by decide +kernel
theorem dX3_unsureShare_56 : decode cX3_unsureShare 56 = .ok (.iinc 4 1, 3) := by decide +kernel
theorem dX3_unsureShare_59 : decode cX3_unsureShare 59 = .ok (.goto (-40), 3) := by decide +kernel
theorem dX3_unsureShare_62 : decode cX3_unsureShare 62 = .ok (.lload_n 2, 1) := by decide +kernel
theorem dX3_unsureShare_63 : decode cX3_unsureShare 63 = .ok (.l2d, 1) := by decide +kernel
theorem dX3_unsureShare_64 : decode cX3_unsureShare 64 = .ok (.ldc2_w 237, 3) := by decide +kernel
theorem dX3_unsureShare_67 : decode cX3_unsureShare 67 = .ok (.iload_n 1, 1) := by decide +kernel
theorem dX3_unsureShare_68 : decode cX3_unsureShare 68 = .ok (.i2d, 1) := by decide +kernel
theorem dX3_unsureShare_69 : decode cX3_unsureShare 69 = .ok (.dmul, 1) := by decide +kernel
theorem dX3_unsureShare_70 : decode cX3_unsureShare 70 = .ok (.ddiv, 1) := by decide +kernel
theorem dX3_unsureShare_71 : decode cX3_unsureShare 71 = .ok (.dreturn, 1) := by decide +kernel
set_option maxRecDepth 20000 in
theorem ggX3_digest_X3_count : GoodIn wsX3_digest wsX3_count := goodIn_ca (goodIn_r _ [13, 14, 15, 3, 4, 16, 17, 18, 19, 20, 21, 22, 23, 24, 25, 26, 27, 28, 29, 30, 31, 32, 33, 34, 35, 36, 37, 38, 39, 40, 41, 42, 43, 44, 45, 46, 47, 48, 49, 50, 51, 52, 53, 54, 55, 56, 57, 58, 59, 60, 61, 12, 62, 63, 64, 65, 66, 67, 68, 69, 70, 71, 72, 73, 74, 75, 76, 77, 78, 79, 80, 81, 82, 83, 84, 85, 86, 87, 88, 89, 90, 91, 92, 93, 94, 95, 96, 97, 98, 99, 100, 101, 102, 103, 104, 105, 106, 107, 108, 109, 110, 111, 112, 113, 114, 115, 116, 117, 118, 119, 120, 121, 122, 123, 124, 125, 126, 127, 128, 129, 130, 131, 132, 133, 134, 135, 136, 137, 138, 139, 140, 141, 142, 143, 144, 261, 262, 263, 264, 265, 266, 267, 268, 269, 270, 271, 272, 273, 280, 281, 282, 283, 284, 285, 286, 287, 288, 289, 290, 291] (by decide +kernel) (by decide +kernel)) (goodIn_sub (fun _ h => List.mem_cons_of_mem _ (List.mem_append_left _ (List.mem_append_right _ h))) (by decide +kernel))
set_option maxRecDepth 20000 in
theorem gX3_digest_X3_count : GoodIn wsX3_digest (wsV RX3 243 RX3 yX3_count wsX3_count) := goodIn_app (goodIn_of _ (by decide +kernel)) ggX3_digest_X3_count
set_option maxRecDepth 20000 in
theorem ggX3_digest_X3_setting : GoodIn wsX3_digest wsX3_setting := goodIn_ca (goodIn_r _ [148, 149, 150, 3, 65, 261, 262, 263, 264, 265, 266, 267, 268, 269, 270, 271, 272, 273] (by decide +kernel) (by decide +kernel)) (goodIn_sub (fun _ h => List.mem_cons_of_mem _ (List.mem_append_right _ h)) (by decide +kernel))
set_option maxRecDepth 20000 in
theorem gX3_digest_X3_setting : GoodIn wsX3_digest (wsV RX3 246 RX3 yX3_setting wsX3_setting) := goodIn_app (goodIn_of _ (by decide +kernel)) ggX3_digest_X3_setting
set_option maxRecDepth 20000 in
theorem ggX3_digest_X3_place : GoodIn wsX3_digest wsX3_place := goodIn_ca (goodIn_ca (goodIn_r _ [154, 149, 150, 14, 15, 3, 155, 156, 157, 158, 21, 159, 50, 160, 81, 82, 83, 23, 161, 162, 163, 164, 40, 165, 166, 167, 168, 169, 170, 171, 172, 173, 174, 175, 176, 24, 25, 26, 27, 28, 29, 30, 177, 178, 179, 180, 138, 181, 182, 32, 33, 34, 35, 19, 20, 22, 36, 37, 38, 39, 41, 42, 43, 44, 261, 262, 263, 264, 265, 266, 267, 268, 269, 270, 271, 272, 273] (by decide +kernel) (by decide +kernel)) (goodIn_sub (fun _ h => List.mem_cons_of_mem _ (List.mem_append_right _ h)) (by decide +kernel))) (goodIn_sub (fun _ h => List.mem_cons_of_mem _ (List.mem_append_left _ (List.mem_append_right _ h))) (by decide +kernel))
set_option maxRecDepth 20000 in
theorem gX3_digest_X3_place : GoodIn wsX3_digest (wsV RX3 249 RX3 yX3_place wsX3_place) := goodIn_app (goodIn_of _ (by decide +kernel)) ggX3_digest_X3_place
set_option maxRecDepth 20000 in
theorem ggX3_digest_X3_heard : GoodIn wsX3_digest wsX3_heard := goodIn_ca (goodIn_r _ [186, 149, 150, 3, 156, 157, 158, 21, 159, 50, 59, 60, 61, 12, 62, 63, 64, 65, 66, 67, 68, 69, 70, 71, 72, 73, 74, 75, 76, 77, 78, 79, 80, 81, 82, 83, 23, 84, 85, 86, 87, 88, 89, 90, 91, 92, 93, 94, 95, 96, 97, 98, 99, 100, 101, 102, 103, 104, 105, 106, 107, 108, 109, 110, 111, 112, 113, 114, 115, 116, 117, 118, 119, 120, 121, 122, 123, 124, 125, 126, 127, 128, 129, 130, 131, 132, 32, 33, 34, 35, 19, 20, 22, 24, 25, 26, 27, 28, 29, 30, 36, 37, 38, 39, 40, 41, 42, 43, 44, 133, 134, 135, 136, 137, 138, 139, 140, 187, 188, 189, 190, 261, 262, 263, 264, 265, 266, 267, 268, 269, 270, 271, 272, 273, 280, 281, 282, 283, 284, 285, 286, 287, 288, 289, 290, 291] (by decide +kernel) (by decide +kernel)) (goodIn_sub (fun _ h => List.mem_cons_of_mem _ (List.mem_append_right _ h)) (by decide +kernel))
set_option maxRecDepth 20000 in
theorem gX3_digest_X3_heard : GoodIn wsX3_digest (wsV RX3 252 RX3 yX3_heard wsX3_heard) := goodIn_app (goodIn_of _ (by decide +kernel)) ggX3_digest_X3_heard
set_option maxRecDepth 20000 in
theorem ggX3_digest_X3_ifFlipped : GoodIn wsX3_digest wsX3_ifFlipped := goodIn_ca (goodIn_r _ [194, 149, 150, 3, 195, 65, 156, 157, 158, 21, 159, 50, 66, 67, 68, 69, 70, 71, 72, 73, 74, 75, 76, 77, 78, 79, 80, 81, 82, 83, 23, 84, 85, 86, 87, 88, 89, 90, 91, 92, 93, 94, 95, 96, 97, 98, 99, 100, 101, 102, 12, 103, 104, 105, 106, 107, 108, 109, 110, 111, 112, 113, 114, 115, 116, 117, 118, 119, 120, 121, 122, 123, 124, 125, 126, 127, 128, 129, 130, 131, 132, 32, 33, 34, 35, 19, 20, 22, 24, 25, 26, 27, 28, 29, 30, 36, 37, 38, 39, 40, 41, 42, 43, 44, 133, 134, 135, 136, 137, 138, 139, 140, 261, 262, 263, 264, 265, 266, 267, 268, 269, 270, 271, 272, 273, 280, 281, 282, 283, 284, 285, 286, 287, 288, 289, 290, 291] (by decide +kernel) (by decide +kernel)) (goodIn_sub (fun _ h => List.mem_cons_of_mem _ (List.mem_append_right _ h)) (by decide +kernel))
set_option maxRecDepth 20000 in
theorem gX3_digest_X3_ifFlipped : GoodIn wsX3_digest (wsV RX3 255 RX3 yX3_ifFlipped wsX3_ifFlipped) := goodIn_app (goodIn_of _ (by decide +kernel)) ggX3_digest_X3_ifFlipped
set_option maxRecDepth 20000 in
theorem ggX3_digest_X3_read : GoodIn wsX3_digest wsX3_read := goodIn_ca (goodIn_r _ [199, 14, 15, 200, 201, 3, 202, 59, 60, 61, 12, 62, 63, 64, 65, 66, 67, 68, 69, 70, 71, 72, 73, 74, 75, 76, 77, 78, 79, 80, 81, 82, 21, 83, 23, 84, 85, 86, 87, 88, 89, 90, 91, 92, 93, 94, 95, 96, 97, 98, 99, 100, 101, 102, 103, 104, 105, 106, 107, 108, 109, 110, 111, 112, 113, 114, 115, 116, 117, 118, 119, 120, 121, 122, 123, 124, 125, 126, 127, 128, 129, 130, 131, 132, 32, 33, 34, 35, 19, 20, 22, 24, 25, 26, 27, 28, 29, 30, 36, 37, 38, 39, 40, 41, 42, 43, 44, 133, 134, 135, 136, 137, 50, 138, 139, 140, 203, 204, 205, 206, 182, 207, 208, 209, 210, 211, 212, 213, 214, 51, 280, 281, 282, 283, 284, 285, 286, 287, 288, 289, 290, 291, 261, 262, 263, 264, 265, 266, 267, 268, 269, 270, 271, 272, 273] (by decide +kernel) (by decide +kernel)) (goodIn_sub (fun _ h => List.mem_cons_of_mem _ (List.mem_append_left _ (List.mem_append_right _ h))) (by decide +kernel))
set_option maxRecDepth 20000 in
theorem gX3_digest_X3_read : GoodIn wsX3_digest (wsV RX3 258 RX3 yX3_read wsX3_read) := goodIn_app (goodIn_of _ (by decide +kernel)) ggX3_digest_X3_read
set_option maxRecDepth 20000 in
theorem ggX3_digest_X3_path : GoodIn wsX3_digest wsX3_path := goodIn_ca (goodIn_r _ [218, 14, 15, 16, 201, 202, 219, 59, 60, 61, 12, 62, 63, 64, 3, 65, 66, 67, 68, 69, 70, 71, 72, 73, 74, 75, 76, 77, 78, 79, 80, 81, 82, 21, 83, 23, 84, 85, 86, 87, 88, 89, 90, 91, 92, 93, 94, 95, 96, 97, 98, 99, 100, 101, 102, 103, 104, 105, 106, 107, 108, 109, 110, 111, 112, 113, 114, 115, 116, 117, 118, 119, 120, 121, 122, 123, 124, 125, 126, 127, 128, 129, 130, 131, 132, 32, 33, 34, 35, 19, 20, 22, 24, 25, 26, 27, 28, 29, 30, 36, 37, 38, 39, 40, 41, 42, 43, 44, 133, 134, 135, 136, 137, 50, 138, 139, 140, 280, 281, 282, 283, 284, 285, 286, 287, 288, 289, 290, 291, 261, 262, 263, 264, 265, 266, 267, 268, 269, 270, 271, 272, 273] (by decide +kernel) (by decide +kernel)) (goodIn_sub (fun _ h => List.mem_cons_of_mem _ (List.mem_append_left _ (List.mem_append_right _ h))) (by decide +kernel))
set_option maxRecDepth 20000 in
theorem gX3_digest_X3_path : GoodIn wsX3_digest (wsV RX3 261 RX3 yX3_path wsX3_path) := goodIn_app (goodIn_of _ (by decide +kernel)) ggX3_digest_X3_path
set_option maxRecDepth 20000 in
theorem ggX3_digest_X3_code : GoodIn wsX3_digest wsX3_code := goodIn_ca (goodIn_r _ [223, 14, 15, 224, 3, 4, 225, 102, 12, 103, 104, 261, 262, 263, 264, 265, 266, 267, 268, 269, 270, 271, 272, 273] (by decide +kernel) (by decide +kernel)) (goodIn_sub (fun _ h => List.mem_cons_of_mem _ (List.mem_append_left _ (List.mem_append_right _ h))) (by decide +kernel))
set_option maxRecDepth 20000 in
theorem gX3_digest_X3_code : GoodIn wsX3_digest (wsV RX3 264 RX3 yX3_code wsX3_code) := goodIn_app (goodIn_of _ (by decide +kernel)) ggX3_digest_X3_code
set_option maxRecDepth 20000 in
theorem ggX3_digest_X3_word : GoodIn wsX3_digest wsX3_word := goodIn_ca (goodIn_r _ [229, 14, 15, 3, 230, 231, 232, 21, 233, 182, 32, 33, 34, 35, 19, 20, 22, 23, 24, 25, 26, 27, 28, 29, 30, 36, 37, 38, 39, 40, 41, 42, 43, 44, 234, 235, 236, 237, 139, 12, 140, 207, 208, 209, 210, 50, 138, 81, 82, 83, 102, 103, 104, 261, 262, 263, 264, 265, 266, 267, 268, 269, 270, 271, 272, 273] (by decide +kernel) (by decide +kernel)) (goodIn_sub (fun _ h => List.mem_cons_of_mem _ (List.mem_append_left _ (List.mem_append_right _ h))) (by decide +kernel))
set_option maxRecDepth 20000 in
theorem gX3_digest_X3_word : GoodIn wsX3_digest (wsV RX3 268 RX3 yX3_word wsX3_word) := goodIn_app (goodIn_of _ (by decide +kernel)) ggX3_digest_X3_word
set_option maxRecDepth 20000 in
theorem ggX3_digest_X3_ifPaths : GoodIn wsX3_digest wsX3_ifPaths := goodIn_ca (goodIn_r _ [241, 14, 15, 195, 3, 66, 67, 68, 69, 70, 71, 72, 73, 74, 75, 76, 77, 78, 79, 80, 81, 82, 21, 83, 23, 84, 85, 86, 87, 88, 89, 90, 91, 92, 93, 94, 95, 96, 97, 98, 99, 100, 101, 102, 12, 103, 104, 105, 106, 107, 108, 109, 110, 111, 112, 113, 114, 115, 116, 117, 118, 119, 120, 121, 122, 123, 124, 125, 126, 127, 128, 129, 130, 131, 132, 32, 33, 34, 35, 19, 20, 22, 24, 25, 26, 27, 28, 29, 30, 36, 37, 38, 39, 40, 41, 42, 43, 44, 133, 134, 135, 136, 137, 50, 138, 139, 140, 261, 262, 263, 264, 265, 266, 267, 268, 269, 270, 271, 272, 273, 280, 281, 282, 283, 284, 285, 286, 287, 288, 289, 290, 291] (by decide +kernel) (by decide +kernel)) (goodIn_sub (fun _ h => List.mem_cons_of_mem _ (List.mem_append_left _ (List.mem_append_right _ h))) (by decide +kernel))
set_option maxRecDepth 20000 in
theorem gX3_digest_X3_ifPaths : GoodIn wsX3_digest (wsV RX3 271 RX3 yX3_ifPaths wsX3_ifPaths) := goodIn_app (goodIn_of _ (by decide +kernel)) ggX3_digest_X3_ifPaths
set_option maxRecDepth 20000 in
theorem ggX3_digest_X3_weakest : GoodIn wsX3_digest wsX3_weakest := goodIn_r _ [245, 3, 65, 195, 4, 66, 67, 68, 69, 70, 71, 72, 73, 74, 75, 76, 77, 78, 79, 80, 81, 82, 21, 83, 23, 84, 85, 86, 87, 88, 89, 90, 91, 92, 93, 94, 95, 96, 97, 98, 99, 100, 101, 102, 12, 103, 104, 105, 106, 107, 108, 109, 110, 111, 112, 113, 114, 115, 116, 117, 118, 119, 120, 121, 122, 123, 124, 125, 126, 127, 128, 129, 130, 131, 132, 32, 33, 34, 35, 19, 20, 22, 24, 25, 26, 27, 28, 29, 30, 36, 37, 38, 39, 40, 41, 42, 43, 44, 133, 134, 135, 136, 137, 50, 138, 139, 140, 261, 262, 263, 264, 265, 266, 267, 268, 269, 270, 271, 272, 273, 280, 281, 282, 283, 284, 285, 286, 287, 288, 289, 290, 291] (by decide +kernel) (by decide +kernel)
set_option maxRecDepth 20000 in
theorem gX3_digest_X3_weakest : GoodIn wsX3_digest (wsV RX3 274 RX3 yX3_weakest wsX3_weakest) := goodIn_app (goodIn_of _ (by decide +kernel)) ggX3_digest_X3_weakest
set_option maxRecDepth 20000 in
theorem ggX3_digest_X3_borne : GoodIn wsX3_digest wsX3_borne := goodIn_r _ [249, 3, 65, 195, 4, 66, 67, 68, 69, 70, 71, 72, 73, 74, 75, 76, 77, 78, 79, 80, 81, 82, 21, 83, 23, 84, 85, 86, 87, 88, 89, 90, 91, 92, 93, 94, 95, 96, 97, 98, 99, 100, 101, 102, 12, 103, 104, 105, 106, 107, 108, 109, 110, 111, 112, 113, 114, 115, 116, 117, 118, 119, 120, 121, 122, 123, 124, 125, 126, 127, 128, 129, 130, 131, 132, 32, 33, 34, 35, 19, 20, 22, 24, 25, 26, 27, 28, 29, 30, 36, 37, 38, 39, 40, 41, 42, 43, 44, 133, 134, 135, 136, 137, 50, 138, 139, 140, 261, 262, 263, 264, 265, 266, 267, 268, 269, 270, 271, 272, 273, 280, 281, 282, 283, 284, 285, 286, 287, 288, 289, 290, 291] (by decide +kernel) (by decide +kernel)
set_option maxRecDepth 20000 in
theorem gX3_digest_X3_borne : GoodIn wsX3_digest (wsV RX3 277 RX3 yX3_borne wsX3_borne) := goodIn_app (goodIn_of _ (by decide +kernel)) ggX3_digest_X3_borne
set_option maxRecDepth 20000 in
theorem ggX3_digest_X3_unsureShare : GoodIn wsX3_digest wsX3_unsureShare := goodIn_r _ [253, 3, 4, 254, 18, 19, 20, 21, 22, 23, 24, 25, 26, 27, 28, 29, 30, 160, 81, 82, 83, 161, 162, 163, 164, 40, 165, 50, 166, 167, 261, 262, 263, 264, 265, 266, 267, 268, 269, 270, 271, 272, 273] (by decide +kernel) (by decide +kernel)
set_option maxRecDepth 20000 in
theorem gX3_digest_X3_unsureShare : GoodIn wsX3_digest (wsV RX3 280 RX3 yX3_unsureShare wsX3_unsureShare) := goodIn_app (goodIn_of _ (by decide +kernel)) ggX3_digest_X3_unsureShare
set_option maxRecDepth 20000 in
theorem ggX3_digest_X3_bitsOfShare : GoodIn wsX3_digest wsX3_bitsOfShare := goodIn_r _ [257, 258, 259, 260] (by decide +kernel) (by decide +kernel)
set_option maxRecDepth 20000 in
theorem gX3_digest_X3_bitsOfShare : GoodIn wsX3_digest (va_wsS RX3 284 yX3_bitsOfShare wsX3_bitsOfShare) := goodIn_app (goodIn_of _ (by decide +kernel)) ggX3_digest_X3_bitsOfShare
theorem dX3_digest_0 : decode cX3_digest 0 = .ok (.ldc2_w 239, 3) := by decide +kernel
theorem dX3_digest_3 : decode cX3_digest 3 = .ok (.lstore_n 1, 1) := by decide +kernel
theorem dX3_digest_4 : decode cX3_digest 4 = .ok (.iconst 0, 1) := by decide +kernel
theorem dX3_digest_5 : decode cX3_digest 5 = .ok (.istore_n 3, 1) := by decide +kernel
theorem dX3_digest_6 : decode cX3_digest 6 = .ok (.iload_n 3, 1) := by decide +kernel
theorem dX3_digest_7 : decode cX3_digest 7 = .ok (.bipush 8, 2) := by decide +kernel
theorem dX3_digest_9 : decode cX3_digest 9 = .ok (.if_icmp .gt 22, 3) := by decide +kernel
theorem dX3_digest_12 : decode cX3_digest 12 = .ok (.ldc2_w 241, 3) := by decide +kernel
theorem dX3_digest_15 : decode cX3_digest 15 = .ok (.lload_n 1, 1) := by decide +kernel
theorem dX3_digest_16 : decode cX3_digest 16 = .ok (.lmul, 1) := by decide +kernel
theorem dX3_digest_17 : decode cX3_digest 17 = .ok (.aload_n 0, 1) := by decide +kernel
theorem dX3_digest_18 : decode cX3_digest 18 = .ok (.iload_n 3, 1) := by decide +kernel
theorem dX3_digest_19 : decode cX3_digest 19 = .ok (.invokevirtual 243, 3) := by decide +kernel
theorem dX3_digest_22 : decode cX3_digest 22 = .ok (.i2l, 1) := by decide +kernel
theorem dX3_digest_23 : decode cX3_digest 23 = .ok (.ladd, 1) := by decide +kernel
theorem dX3_digest_24 : decode cX3_digest 24 = .ok (.lstore_n 1, 1) := by decide +kernel
theorem dX3_digest_25 : decode cX3_digest 25 = .ok (.iinc 3 1, 3) := by decide +kernel
theorem dX3_digest_28 : decode cX3_digest 28 = .ok (.goto (-22), 3) := by decide +kernel
theorem dX3_digest_31 : decode cX3_digest 31 = .ok (.iconst 0, 1) := by decide +kernel
theorem dX3_digest_32 : decode cX3_digest 32 = .ok (.istore_n 3, 1) := by decide +kernel
theorem dX3_digest_33 : decode cX3_digest 33 = .ok (.iload_n 3, 1) := by decide +kernel
theorem dX3_digest_34 : decode cX3_digest 34 = .ok (.iconst 4, 1) := by decide +kernel
theorem dX3_digest_35 : decode cX3_digest 35 = .ok (.if_icmp .ge 22, 3) := by decide +kernel
theorem dX3_digest_38 : decode cX3_digest 38 = .ok (.ldc2_w 241, 3) := by decide +kernel
theorem dX3_digest_41 : decode cX3_digest 41 = .ok (.lload_n 1, 1) := by decide +kernel
theorem dX3_digest_42 : decode cX3_digest 42 = .ok (.lmul, 1) := by decide +kernel
theorem dX3_digest_43 : decode cX3_digest 43 = .ok (.aload_n 0, 1) := by decide +kernel
theorem dX3_digest_44 : decode cX3_digest 44 = .ok (.iload_n 3, 1) := by decide +kernel
theorem dX3_digest_45 : decode cX3_digest 45 = .ok (.invokevirtual 246, 3) := by decide +kernel
theorem dX3_digest_48 : decode cX3_digest 48 = .ok (.i2l, 1) := by decide +kernel
theorem dX3_digest_49 : decode cX3_digest 49 = .ok (.ladd, 1) := by decide +kernel
theorem dX3_digest_50 : decode cX3_digest 50 = .ok (.lstore_n 1, 1) := by decide +kernel
theorem dX3_digest_51 : decode cX3_digest 51 = .ok (.iinc 3 1, 3) := by decide +kernel
theorem dX3_digest_54 : decode cX3_digest 54 = .ok (.goto (-21), 3) := by decide +kernel
theorem dX3_digest_57 : decode cX3_digest 57 = .ok (.iconst 0, 1) := by decide +kernel
theorem dX3_digest_58 : decode cX3_digest 58 = .ok (.istore_n 3, 1) := by decide +kernel
theorem dX3_digest_59 : decode cX3_digest 59 = .ok (.iload_n 3, 1) := by decide +kernel
theorem dX3_digest_60 : decode cX3_digest 60 = .ok (.aload_n 0, 1) := by decide +kernel
theorem dX3_digest_61 : decode cX3_digest 61 = .ok (.getfield 10, 3) := by decide +kernel
theorem dX3_digest_64 : decode cX3_digest 64 = .ok (.getfield 51, 3) := by decide +kernel
theorem dX3_digest_67 : decode cX3_digest 67 = .ok (.if_icmp .ge 65, 3) := by decide +kernel
theorem dX3_digest_70 : decode cX3_digest 70 = .ok (.iconst 0, 1) := by decide +kernel
theorem dX3_digest_71 : decode cX3_digest 71 = .ok (.istore 4, 2) := by decide +kernel
theorem dX3_digest_73 : decode cX3_digest 73 = .ok (.iload 4, 2) := by decide +kernel
theorem dX3_digest_75 : decode cX3_digest 75 = .ok (.iconst 5, 1) := by decide +kernel
theorem dX3_digest_76 : decode cX3_digest 76 = .ok (.if_icmp .gt 24, 3) := by decide +kernel
theorem dX3_digest_79 : decode cX3_digest 79 = .ok (.ldc2_w 241, 3) := by decide +kernel
theorem dX3_digest_82 : decode cX3_digest 82 = .ok (.lload_n 1, 1) := by decide +kernel
theorem dX3_digest_83 : decode cX3_digest 83 = .ok (.lmul, 1) := by decide +kernel
theorem dX3_digest_84 : decode cX3_digest 84 = .ok (.aload_n 0, 1) := by decide +kernel
theorem dX3_digest_85 : decode cX3_digest 85 = .ok (.iload_n 3, 1) := by decide +kernel
theorem dX3_digest_86 : decode cX3_digest 86 = .ok (.iload 4, 2) := by decide +kernel
theorem dX3_digest_88 : decode cX3_digest 88 = .ok (.invokevirtual 249, 3) := by decide +kernel
theorem dX3_digest_91 : decode cX3_digest 91 = .ok (.i2l, 1) := by decide +kernel
theorem dX3_digest_92 : decode cX3_digest 92 = .ok (.ladd, 1) := by decide +kernel
theorem dX3_digest_93 : decode cX3_digest 93 = .ok (.lstore_n 1, 1) := by decide +kernel
