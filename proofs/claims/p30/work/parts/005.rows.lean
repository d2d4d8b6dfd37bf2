theorem dX2_sureRank_14 : decode cX2_sureRank 14 = .ok (.getfield 18, 3) := by decide +kernel
theorem dX2_sureRank_17 : decode cX2_sureRank 17 = .ok (.if_icmp .ge 38, 3) := by decide +kernel
theorem dX2_sureRank_20 : decode cX2_sureRank 20 = .ok (.aload_n 0, 1) := by decide +kernel
theorem dX2_sureRank_21 : decode cX2_sureRank 21 = .ok (.iload 4, 2) := by decide +kernel
theorem dX2_sureRank_23 : decode cX2_sureRank 23 = .ok (.invokevirtual 66, 3) := by decide +kernel
theorem dX2_sureRank_26 : decode cX2_sureRank 26 = .ok (.istore 5, 2) := by decide +kernel
theorem dX2_sureRank_28 : decode cX2_sureRank 28 = .ok (.iload 5, 2) := by decide +kernel
theorem dX2_sureRank_30 : decode cX2_sureRank 30 = .ok (.iload_n 2, 1) := by decide +kernel
theorem dX2_sureRank_31 : decode cX2_sureRank 31 = .ok (.if_icmp .lt 15, 3) := by decide +kernel
theorem dX2_sureRank_34 : decode cX2_sureRank 34 = .ok (.iload 5, 2) := by decide +kernel
theorem dX2_sureRank_36 : decode cX2_sureRank 36 = .ok (.iload_n 2, 1) := by decide +kernel
theorem dX2_sureRank_37 : decode cX2_sureRank 37 = .ok (.if_icmp .ne 12, 3) := by decide +kernel
theorem dX2_sureRank_40 : decode cX2_sureRank 40 = .ok (.iload 4, 2) := by decide +kernel
theorem dX2_sureRank_42 : decode cX2_sureRank 42 = .ok (.iload_n 1, 1) := by decide +kernel
theorem dX2_sureRank_43 : decode cX2_sureRank 43 = .ok (.if_icmp .le 6, 3) := by decide +kernel
theorem dX2_sureRank_46 : decode cX2_sureRank 46 = .ok (.iinc 3 1, 3) := by decide +kernel
theorem dX2_sureRank_49 : decode cX2_sureRank 49 = .ok (.iinc 4 1, 3) := by decide +kernel
theorem dX2_sureRank_52 : decode cX2_sureRank 52 = .ok (.goto (-41), 3) := by decide +kernel
theorem dX2_sureRank_55 : decode cX2_sureRank 55 = .ok (.iload_n 3, 1) := by decide +kernel
theorem dX2_sureRank_56 : decode cX2_sureRank 56 = .ok (.ireturn, 1) := by decide +kernel
set_option maxRecDepth 20000 in
theorem ggX2_hasRoomFor_X2_bodyBits : GoodIn wsX2_hasRoomFor wsX2_bodyBits := goodIn_r _ [5, 6, 7, 8, 4, 9, 10, 11, 12, 13, 14, 15, 16, 17, 18, 19, 20, 21, 22, 23, 24, 25, 26, 27, 28, 29, 30] (by decide +kernel) (by decide +kernel)
set_option maxRecDepth 20000 in
theorem gX2_hasRoomFor_X2_bodyBits : GoodIn wsX2_hasRoomFor (wsV RX2 57 RX2 yX2_bodyBits wsX2_bodyBits) := goodIn_app (goodIn_of _ (by decide +kernel)) ggX2_hasRoomFor_X2_bodyBits
theorem dX2_hasRoomFor_0 : decode cX2_hasRoomFor 0 = .ok (.iload_n 1, 1) := by decide +kernel
theorem dX2_hasRoomFor_1 : decode cX2_hasRoomFor 1 = .ok (.ifCond .lt 16, 3) := by decide +kernel
theorem dX2_hasRoomFor_4 : decode cX2_hasRoomFor 4 = .ok (.iload_n 1, 1) := by decide +kernel
theorem dX2_hasRoomFor_5 : decode cX2_hasRoomFor 5 = .ok (.aload_n 0, 1) := by decide +kernel
theorem dX2_hasRoomFor_6 : decode cX2_hasRoomFor 6 = .ok (.invokevirtual 57, 3) := by decide +kernel
theorem dX2_hasRoomFor_9 : decode cX2_hasRoomFor 9 = .ok (.ishr, 1) := by decide +kernel
theorem dX2_hasRoomFor_10 : decode cX2_hasRoomFor 10 = .ok (.ifCond .ne 7, 3) := by decide +kernel
theorem dX2_hasRoomFor_13 : decode cX2_hasRoomFor 13 = .ok (.iconst 1, 1) := by decide +kernel
theorem dX2_hasRoomFor_14 : decode cX2_hasRoomFor 14 = .ok (.goto 4, 3) := by decide +kernel
theorem dX2_hasRoomFor_17 : decode cX2_hasRoomFor 17 = .ok (.iconst 0, 1) := by decide +kernel
theorem dX2_hasRoomFor_18 : decode cX2_hasRoomFor 18 = .ok (.ireturn, 1) := by decide +kernel
set_option maxRecDepth 20000 in
theorem ggX2_bodyOf_X2_bodyBits : GoodIn wsX2_bodyOf wsX2_bodyBits := goodIn_r _ [5, 6, 7, 8, 4, 9, 10, 11, 12, 13, 14, 15, 16, 17, 18, 19, 20, 21, 22, 23, 24, 25, 26, 27, 28, 29, 30] (by decide +kernel) (by decide +kernel)
set_option maxRecDepth 20000 in
theorem gX2_bodyOf_X2_bodyBits : GoodIn wsX2_bodyOf (wsV RX2 57 RX2 yX2_bodyBits wsX2_bodyBits) := goodIn_app (goodIn_of _ (by decide +kernel)) ggX2_bodyOf_X2_bodyBits
theorem dX2_bodyOf_0 : decode cX2_bodyOf 0 = .ok (.iload_n 1, 1) := by decide +kernel
theorem dX2_bodyOf_1 : decode cX2_bodyOf 1 = .ok (.iconst 1, 1) := by decide +kernel
theorem dX2_bodyOf_2 : decode cX2_bodyOf 2 = .ok (.aload_n 0, 1) := by decide +kernel
theorem dX2_bodyOf_3 : decode cX2_bodyOf 3 = .ok (.invokevirtual 57, 3) := by decide +kernel
theorem dX2_bodyOf_6 : decode cX2_bodyOf 6 = .ok (.ishl, 1) := by decide +kernel
theorem dX2_bodyOf_7 : decode cX2_bodyOf 7 = .ok (.iconst 1, 1) := by decide +kernel
theorem dX2_bodyOf_8 : decode cX2_bodyOf 8 = .ok (.isub, 1) := by decide +kernel
theorem dX2_bodyOf_9 : decode cX2_bodyOf 9 = .ok (.iand, 1) := by decide +kernel
theorem dX2_bodyOf_10 : decode cX2_bodyOf 10 = .ok (.ireturn, 1) := by decide +kernel
set_option maxRecDepth 20000 in
theorem ggX2_withChecks_X2_bodyBits : GoodIn wsX2_withChecks wsX2_bodyBits := goodIn_r _ [5, 6, 7, 8, 4, 9, 10, 11, 12, 13, 14, 15, 16, 17, 18, 19, 20, 21, 22, 23, 24, 25, 26, 30, 31, 32, 33] (by decide +kernel) (by decide +kernel)
set_option maxRecDepth 20000 in
theorem gX2_withChecks_X2_bodyBits : GoodIn wsX2_withChecks (wsV RX2 57 RX2 yX2_bodyBits wsX2_bodyBits) := goodIn_app (goodIn_of _ (by decide +kernel)) ggX2_withChecks_X2_bodyBits
set_option maxRecDepth 20000 in
theorem ggX2_withChecks_X2_checkBits : GoodIn wsX2_withChecks wsX2_checkBits := goodIn_r _ [21, 22, 23, 24, 25, 26, 6, 7, 8, 4, 9, 10, 11, 12, 13, 14, 15, 16, 17, 30, 31, 32, 33] (by decide +kernel) (by decide +kernel)
set_option maxRecDepth 20000 in
theorem gX2_withChecks_X2_checkBits : GoodIn wsX2_withChecks (wsV RX2 47 RX2 yX2_checkBits wsX2_checkBits) := goodIn_app (goodIn_of _ (by decide +kernel)) ggX2_withChecks_X2_checkBits
set_option maxRecDepth 20000 in
theorem ggX2_withChecks_X3_checkNumber : GoodIn wsX2_withChecks wsX3_checkNumber := goodIn_r _ [29] (by decide +kernel) (by decide +kernel)
set_option maxRecDepth 20000 in
theorem gX2_withChecks_X3_checkNumber_n69 : GoodIn wsX2_withChecks (wsX3_checkNumber) := ggX2_withChecks_X3_checkNumber
theorem dX2_withChecks_0 : decode cX2_withChecks 0 = .ok (.aload_n 0, 1) := by decide +kernel
theorem dX2_withChecks_1 : decode cX2_withChecks 1 = .ok (.invokevirtual 57, 3) := by decide +kernel
theorem dX2_withChecks_4 : decode cX2_withChecks 4 = .ok (.istore_n 2, 1) := by decide +kernel
theorem dX2_withChecks_5 : decode cX2_withChecks 5 = .ok (.iload_n 1, 1) := by decide +kernel
theorem dX2_withChecks_6 : decode cX2_withChecks 6 = .ok (.iload_n 1, 1) := by decide +kernel
theorem dX2_withChecks_7 : decode cX2_withChecks 7 = .ok (.iload_n 2, 1) := by decide +kernel
theorem dX2_withChecks_8 : decode cX2_withChecks 8 = .ok (.aload_n 0, 1) := by decide +kernel
theorem dX2_withChecks_9 : decode cX2_withChecks 9 = .ok (.invokevirtual 47, 3) := by decide +kernel
theorem dX2_withChecks_12 : decode cX2_withChecks 12 = .ok (.invokestatic 69, 3) := by decide +kernel
theorem dX2_withChecks_15 : decode cX2_withChecks 15 = .ok (.iload_n 2, 1) := by decide +kernel
theorem dX2_withChecks_16 : decode cX2_withChecks 16 = .ok (.ishl, 1) := by decide +kernel
theorem dX2_withChecks_17 : decode cX2_withChecks 17 = .ok (.ior, 1) := by decide +kernel
theorem dX2_withChecks_18 : decode cX2_withChecks 18 = .ok (.ireturn, 1) := by decide +kernel
set_option maxRecDepth 20000 in
theorem ggX2_wordOf_X2_isOpen : GoodIn wsX2_wordOf wsX2_isOpen := goodIn_r _ [6, 7, 12, 13, 14, 15] (by decide +kernel) (by decide +kernel)
set_option maxRecDepth 20000 in
theorem gX2_wordOf_X2_isOpen : GoodIn wsX2_wordOf (wsV RX2 50 RX2 yX2_isOpen wsX2_isOpen) := goodIn_app (goodIn_of _ (by decide +kernel)) ggX2_wordOf_X2_isOpen
set_option maxRecDepth 20000 in
theorem ggX2_wordOf_X3_coded : GoodIn wsX2_wordOf wsX3_coded := goodIn_r _ [10, 11] (by decide +kernel) (by decide +kernel)
set_option maxRecDepth 20000 in
theorem gX2_wordOf_X3_coded_n73 : GoodIn wsX2_wordOf (wsX3_coded) := ggX2_wordOf_X3_coded
theorem dX2_wordOf_0 : decode cX2_wordOf 0 = .ok (.iconst 0, 1) := by decide +kernel
theorem dX2_wordOf_1 : decode cX2_wordOf 1 = .ok (.istore_n 2, 1) := by decide +kernel
theorem dX2_wordOf_2 : decode cX2_wordOf 2 = .ok (.iload_n 1, 1) := by decide +kernel
theorem dX2_wordOf_3 : decode cX2_wordOf 3 = .ok (.istore_n 3, 1) := by decide +kernel
theorem dX2_wordOf_4 : decode cX2_wordOf 4 = .ok (.iconst 0, 1) := by decide +kernel
theorem dX2_wordOf_5 : decode cX2_wordOf 5 = .ok (.istore 4, 2) := by decide +kernel
theorem dX2_wordOf_7 : decode cX2_wordOf 7 = .ok (.iload 4, 2) := by decide +kernel
theorem dX2_wordOf_9 : decode cX2_wordOf 9 = .ok (.aload_n 0, 1) := by decide +kernel
theorem dX2_wordOf_10 : decode cX2_wordOf 10 = .ok (.getfield 18, 3) := by decide +kernel
theorem dX2_wordOf_13 : decode cX2_wordOf 13 = .ok (.if_icmp .ge 31, 3) := by decide +kernel
theorem dX2_wordOf_16 : decode cX2_wordOf 16 = .ok (.aload_n 0, 1) := by decide +kernel
theorem dX2_wordOf_17 : decode cX2_wordOf 17 = .ok (.iload 4, 2) := by decide +kernel
theorem dX2_wordOf_19 : decode cX2_wordOf 19 = .ok (.invokevirtual 50, 3) := by decide +kernel
theorem dX2_wordOf_22 : decode cX2_wordOf 22 = .ok (.ifCond .eq 16, 3) := by decide +kernel
theorem dX2_wordOf_25 : decode cX2_wordOf 25 = .ok (.iload_n 2, 1) := by decide +kernel
theorem dX2_wordOf_26 : decode cX2_wordOf 26 = .ok (.iload_n 3, 1) := by decide +kernel
theorem dX2_wordOf_27 : decode cX2_wordOf 27 = .ok (.iconst 1, 1) := by decide +kernel
theorem dX2_wordOf_28 : decode cX2_wordOf 28 = .ok (.iand, 1) := by decide +kernel
theorem dX2_wordOf_29 : decode cX2_wordOf 29 = .ok (.iload 4, 2) := by decide +kernel
theorem dX2_wordOf_31 : decode cX2_wordOf 31 = .ok (.ishl, 1) := by decide +kernel
theorem dX2_wordOf_32 : decode cX2_wordOf 32 = .ok (.ior, 1) := by decide +kernel
theorem dX2_wordOf_33 : decode cX2_wordOf 33 = .ok (.istore_n 2, 1) := by decide +kernel
theorem dX2_wordOf_34 : decode cX2_wordOf 34 = .ok (.iload_n 3, 1) := by decide +kernel
theorem dX2_wordOf_35 : decode cX2_wordOf 35 = .ok (.iconst 1, 1) := by decide +kernel
theorem dX2_wordOf_36 : decode cX2_wordOf 36 = .ok (.ishr, 1) := by decide +kernel
theorem dX2_wordOf_37 : decode cX2_wordOf 37 = .ok (.istore_n 3, 1) := by decide +kernel
theorem dX2_wordOf_38 : decode cX2_wordOf 38 = .ok (.iinc 4 1, 3) := by decide +kernel
theorem dX2_wordOf_41 : decode cX2_wordOf 41 = .ok (.goto (-34), 3) := by decide +kernel
theorem dX2_wordOf_44 : decode cX2_wordOf 44 = .ok (.iload_n 2, 1) := by decide +kernel
theorem dX2_wordOf_45 : decode cX2_wordOf 45 = .ok (.aload_n 0, 1) := by decide +kernel
theorem dX2_wordOf_46 : decode cX2_wordOf 46 = .ok (.getfield 18, 3) := by decide +kernel
theorem dX2_wordOf_49 : decode cX2_wordOf 49 = .ok (.invokestatic 73, 3) := by decide +kernel
theorem dX2_wordOf_52 : decode cX2_wordOf 52 = .ok (.ireturn, 1) := by decide +kernel
set_option maxRecDepth 20000 in
theorem ggX2_messageOf_X2_isOpen : GoodIn wsX2_messageOf wsX2_isOpen := goodIn_r _ [6, 7, 8, 9, 10, 11] (by decide +kernel) (by decide +kernel)
set_option maxRecDepth 20000 in
theorem gX2_messageOf_X2_isOpen : GoodIn wsX2_messageOf (wsV RX2 50 RX2 yX2_isOpen wsX2_isOpen) := goodIn_app (goodIn_of _ (by decide +kernel)) ggX2_messageOf_X2_isOpen
theorem dX2_messageOf_0 : decode cX2_messageOf 0 = .ok (.iconst 0, 1) := by decide +kernel
theorem dX2_messageOf_1 : decode cX2_messageOf 1 = .ok (.istore_n 2, 1) := by decide +kernel
theorem dX2_messageOf_2 : decode cX2_messageOf 2 = .ok (.iconst 0, 1) := by decide +kernel
theorem dX2_messageOf_3 : decode cX2_messageOf 3 = .ok (.istore_n 3, 1) := by decide +kernel
theorem dX2_messageOf_4 : decode cX2_messageOf 4 = .ok (.iconst 0, 1) := by decide +kernel
theorem dX2_messageOf_5 : decode cX2_messageOf 5 = .ok (.istore 4, 2) := by decide +kernel
theorem dX2_messageOf_7 : decode cX2_messageOf 7 = .ok (.iload 4, 2) := by decide +kernel
theorem dX2_messageOf_9 : decode cX2_messageOf 9 = .ok (.aload_n 0, 1) := by decide +kernel
theorem dX2_messageOf_10 : decode cX2_messageOf 10 = .ok (.getfield 18, 3) := by decide +kernel
theorem dX2_messageOf_13 : decode cX2_messageOf 13 = .ok (.if_icmp .ge 32, 3) := by decide +kernel
theorem dX2_messageOf_16 : decode cX2_messageOf 16 = .ok (.aload_n 0, 1) := by decide +kernel
theorem dX2_messageOf_17 : decode cX2_messageOf 17 = .ok (.iload 4, 2) := by decide +kernel
theorem dX2_messageOf_19 : decode cX2_messageOf 19 = .ok (.invokevirtual 50, 3) := by decide +kernel
theorem dX2_messageOf_22 : decode cX2_messageOf 22 = .ok (.ifCond .eq 17, 3) := by decide +kernel
theorem dX2_messageOf_25 : decode cX2_messageOf 25 = .ok (.iload_n 2, 1) := by decide +kernel
theorem dX2_messageOf_26 : decode cX2_messageOf 26 = .ok (.iload_n 1, 1) := by decide +kernel
theorem dX2_messageOf_27 : decode cX2_messageOf 27 = .ok (.iload 4, 2) := by decide +kernel
theorem dX2_messageOf_29 : decode cX2_messageOf 29 = .ok (.ishr, 1) := by decide +kernel
theorem dX2_messageOf_30 : decode cX2_messageOf 30 = .ok (.iconst 1, 1) := by decide +kernel
theorem dX2_messageOf_31 : decode cX2_messageOf 31 = .ok (.iand, 1) := by decide +kernel
theorem dX2_messageOf_32 : decode cX2_messageOf 32 = .ok (.iload_n 3, 1) := by decide +kernel
theorem dX2_messageOf_33 : decode cX2_messageOf 33 = .ok (.ishl, 1) := by decide +kernel
theorem dX2_messageOf_34 : decode cX2_messageOf 34 = .ok (.ior, 1) := by decide +kernel
theorem dX2_messageOf_35 : decode cX2_messageOf 35 = .ok (.istore_n 2, 1) := by decide +kernel
theorem dX2_messageOf_36 : decode cX2_messageOf 36 = .ok (.iinc 3 1, 3) := by decide +kernel
theorem dX2_messageOf_39 : decode cX2_messageOf 39 = .ok (.iinc 4 1, 3) := by decide +kernel
theorem dX2_messageOf_42 : decode cX2_messageOf 42 = .ok (.goto (-35), 3) := by decide +kernel
theorem dX2_messageOf_45 : decode cX2_messageOf 45 = .ok (.iload_n 2, 1) := by decide +kernel
theorem dX2_messageOf_46 : decode cX2_messageOf 46 = .ok (.ireturn, 1) := by decide +kernel
theorem dX2_differences_0 : decode cX2_differences 0 = .ok (.iconst 0, 1) := by decide +kernel
theorem dX2_differences_1 : decode cX2_differences 1 = .ok (.istore_n 2, 1) := by decide +kernel
theorem dX2_differences_2 : decode cX2_differences 2 = .ok (.iconst 0, 1) := by decide +kernel
theorem dX2_differences_3 : decode cX2_differences 3 = .ok (.istore_n 3, 1) := by decide +kernel
theorem dX2_differences_4 : decode cX2_differences 4 = .ok (.iload_n 3, 1) := by decide +kernel
theorem dX2_differences_5 : decode cX2_differences 5 = .ok (.aload_n 0, 1) := by decide +kernel
theorem dX2_differences_6 : decode cX2_differences 6 = .ok (.getfield 18, 3) := by decide +kernel
theorem dX2_differences_9 : decode cX2_differences 9 = .ok (.if_icmp .ge 54, 3) := by decide +kernel
theorem dX2_differences_12 : decode cX2_differences 12 = .ok (.iload_n 1, 1) := by decide +kernel
theorem dX2_differences_13 : decode cX2_differences 13 = .ok (.iload_n 3, 1) := by decide +kernel
theorem dX2_differences_14 : decode cX2_differences 14 = .ok (.ishr, 1) := by decide +kernel
theorem dX2_differences_15 : decode cX2_differences 15 = .ok (.iconst 1, 1) := by decide +kernel
theorem dX2_differences_16 : decode cX2_differences 16 = .ok (.iand, 1) := by decide +kernel
theorem dX2_differences_17 : decode cX2_differences 17 = .ok (.iconst 1, 1) := by decide +kernel
theorem dX2_differences_18 : decode cX2_differences 18 = .ok (.if_icmp .ne 7, 3) := by decide +kernel
theorem dX2_differences_21 : decode cX2_differences 21 = .ok (.iconst 1, 1) := by decide +kernel
theorem dX2_differences_22 : decode cX2_differences 22 = .ok (.goto 4, 3) := by decide +kernel
theorem dX2_differences_25 : decode cX2_differences 25 = .ok (.iconst 0, 1) := by decide +kernel
theorem dX2_differences_26 : decode cX2_differences 26 = .ok (.istore 4, 2) := by decide +kernel
theorem dX2_differences_28 : decode cX2_differences 28 = .ok (.iload 4, 2) := by decide +kernel
theorem dX2_differences_30 : decode cX2_differences 30 = .ok (.ifCond .eq 15, 3) := by decide +kernel
theorem dX2_differences_33 : decode cX2_differences 33 = .ok (.aload_n 0, 1) := by decide +kernel
theorem dX2_differences_34 : decode cX2_differences 34 = .ok (.getfield 9, 3) := by decide +kernel
theorem dX2_differences_37 : decode cX2_differences 37 = .ok (.iload_n 3, 1) := by decide +kernel
theorem dX2_differences_38 : decode cX2_differences 38 = .ok (.iaload, 1) := by decide +kernel
theorem dX2_differences_39 : decode cX2_differences 39 = .ok (.ifCond .le 18, 3) := by decide +kernel
theorem dX2_differences_42 : decode cX2_differences 42 = .ok (.goto 12, 3) := by decide +kernel
theorem dX2_differences_45 : decode cX2_differences 45 = .ok (.aload_n 0, 1) := by decide +kernel
theorem dX2_differences_46 : decode cX2_differences 46 = .ok (.getfield 9, 3) := by decide +kernel
theorem dX2_differences_49 : decode cX2_differences 49 = .ok (.iload_n 3, 1) := by decide +kernel
theorem dX2_differences_50 : decode cX2_differences 50 = .ok (.iaload, 1) := by decide +kernel
theorem dX2_differences_51 : decode cX2_differences 51 = .ok (.ifCond .ge 6, 3) := by decide +kernel
theorem dX2_differences_54 : decode cX2_differences 54 = .ok (.iinc 2 1, 3) := by decide +kernel
theorem dX2_differences_57 : decode cX2_differences 57 = .ok (.iinc 3 1, 3) := by decide +kernel
theorem dX2_differences_60 : decode cX2_differences 60 = .ok (.goto (-56), 3) := by decide +kernel
theorem dX2_differences_63 : decode cX2_differences 63 = .ok (.iload_n 2, 1) := by decide +kernel
theorem dX2_differences_64 : decode cX2_differences 64 = .ok (.ireturn, 1) := by decide +kernel
theorem dX2_zeroValues_0 : decode cX2_zeroValues 0 = .ok (.iconst 0, 1) := by decide +kernel
theorem dX2_zeroValues_1 : decode cX2_zeroValues 1 = .ok (.istore_n 1, 1) := by decide +kernel
theorem dX2_zeroValues_2 : decode cX2_zeroValues 2 = .ok (.iconst 0, 1) := by decide +kernel
theorem dX2_zeroValues_3 : decode cX2_zeroValues 3 = .ok (.istore_n 2, 1) := by decide +kernel
theorem dX2_zeroValues_4 : decode cX2_zeroValues 4 = .ok (.iload_n 2, 1) := by decide +kernel
theorem dX2_zeroValues_5 : decode cX2_zeroValues 5 = .ok (.aload_n 0, 1) := by decide +kernel
theorem dX2_zeroValues_6 : decode cX2_zeroValues 6 = .ok (.getfield 18, 3) := by decide +kernel
theorem dX2_zeroValues_9 : decode cX2_zeroValues 9 = .ok (.if_icmp .ge 26, 3) := by decide +kernel
theorem dX2_zeroValues_12 : decode cX2_zeroValues 12 = .ok (.iload_n 1, 1) := by decide +kernel
theorem dX2_zeroValues_13 : decode cX2_zeroValues 13 = .ok (.aload_n 0, 1) := by decide +kernel
theorem dX2_zeroValues_14 : decode cX2_zeroValues 14 = .ok (.getfield 9, 3) := by decide +kernel
theorem dX2_zeroValues_17 : decode cX2_zeroValues 17 = .ok (.iload_n 2, 1) := by decide +kernel
theorem dX2_zeroValues_18 : decode cX2_zeroValues 18 = .ok (.iaload, 1) := by decide +kernel
theorem dX2_zeroValues_19 : decode cX2_zeroValues 19 = .ok (.ifCond .ne 7, 3) := by decide +kernel
theorem dX2_zeroValues_22 : decode cX2_zeroValues 22 = .ok (.iconst 1, 1) := by decide +kernel
theorem dX2_zeroValues_23 : decode cX2_zeroValues 23 = .ok (.goto 4, 3) := by decide +kernel
theorem dX2_zeroValues_26 : decode cX2_zeroValues 26 = .ok (.iconst 0, 1) := by decide +kernel
theorem dX2_zeroValues_27 : decode cX2_zeroValues 27 = .ok (.iadd, 1) := by decide +kernel
theorem dX2_zeroValues_28 : decode cX2_zeroValues 28 = .ok (.istore_n 1, 1) := by decide +kernel
theorem dX2_zeroValues_29 : decode cX2_zeroValues 29 = .ok (.iinc 2 1, 3) := by decide +kernel
theorem dX2_zeroValues_32 : decode cX2_zeroValues 32 = .ok (.goto (-28), 3) := by decide +kernel
theorem dX2_zeroValues_35 : decode cX2_zeroValues 35 = .ok (.iload_n 1, 1) := by decide +kernel
theorem dX2_zeroValues_36 : decode cX2_zeroValues 36 = .ok (.ireturn, 1) := by decide +kernel
theorem dX2_sumOfSizes_0 : decode cX2_sumOfSizes 0 = .ok (.iconst 0, 1) := by decide +kernel
theorem dX2_sumOfSizes_1 : decode cX2_sumOfSizes 1 = .ok (.istore_n 1, 1) := by decide +kernel
theorem dX2_sumOfSizes_2 : decode cX2_sumOfSizes 2 = .ok (.iconst 0, 1) := by decide +kernel
theorem dX2_sumOfSizes_3 : decode cX2_sumOfSizes 3 = .ok (.istore_n 2, 1) := by decide +kernel
theorem dX2_sumOfSizes_4 : decode cX2_sumOfSizes 4 = .ok (.iload_n 2, 1) := by decide +kernel
theorem dX2_sumOfSizes_5 : decode cX2_sumOfSizes 5 = .ok (.aload_n 0, 1) := by decide +kernel
theorem dX2_sumOfSizes_6 : decode cX2_sumOfSizes 6 = .ok (.getfield 18, 3) := by decide +kernel
theorem dX2_sumOfSizes_9 : decode cX2_sumOfSizes 9 = .ok (.if_icmp .ge 21, 3) := by decide +kernel
theorem dX2_sumOfSizes_12 : decode cX2_sumOfSizes 12 = .ok (.iload_n 1, 1) := by decide +kernel
theorem dX2_sumOfSizes_13 : decode cX2_sumOfSizes 13 = .ok (.aload_n 0, 1) := by decide +kernel
theorem dX2_sumOfSizes_14 : decode cX2_sumOfSizes 14 = .ok (.getfield 9, 3) := by decide +kernel
theorem dX2_sumOfSizes_17 : decode cX2_sumOfSizes 17 = .ok (.iload_n 2, 1) := by decide +kernel
theorem dX2_sumOfSizes_18 : decode cX2_sumOfSizes 18 = .ok (.iaload, 1) := by decide +kernel
theorem dX2_sumOfSizes_19 : decode cX2_sumOfSizes 19 = .ok (.invokestatic 76, 3) := by decide +kernel
theorem dX2_sumOfSizes_22 : decode cX2_sumOfSizes 22 = .ok (.iadd, 1) := by decide +kernel
theorem dX2_sumOfSizes_23 : decode cX2_sumOfSizes 23 = .ok (.istore_n 1, 1) := by decide +kernel
theorem dX2_sumOfSizes_24 : decode cX2_sumOfSizes 24 = .ok (.iinc 2 1, 3) := by decide +kernel
theorem dX2_sumOfSizes_27 : decode cX2_sumOfSizes 27 = .ok (.goto (-23), 3) := by decide +kernel
theorem dX2_sumOfSizes_30 : decode cX2_sumOfSizes 30 = .ok (.iload_n 1, 1) := by decide +kernel
theorem dX2_sumOfSizes_31 : decode cX2_sumOfSizes 31 = .ok (.ireturn, 1) := by decide +kernel
set_option maxRecDepth 20000 in
theorem ggX3_init_X2_init : GoodIn wsX3_init wsX2_init := goodIn_r _ [22, 23, 2, 3, 13, 24, 25, 26, 45, 46, 47, 48] (by decide +kernel) (by decide +kernel)
set_option maxRecDepth 20000 in
theorem gX3_init_X2_init : GoodIn wsX3_init (wsX2_init) := ggX3_init_X2_init
set_option maxRecDepth 20000 in
theorem ggX3_init_X1_init : GoodIn wsX3_init wsX1_init := goodIn_r _ [28, 29, 2, 3, 30, 31, 13, 32, 58, 59, 60, 61, 62, 63] (by decide +kernel) (by decide +kernel)
set_option maxRecDepth 20000 in
theorem gX3_init_X1_init_n22 : GoodIn wsX3_init (wsX1_init) := ggX3_init_X1_init
set_option maxRecDepth 20000 in
theorem ggX3_init_X0_init : GoodIn wsX3_init wsX0_init := goodIn_r _ [34, 35, 2, 3, 13, 36, 37, 38, 39, 40, 41, 42, 43, 44, 64, 65, 66, 67, 68, 69, 70, 71, 72, 73, 74, 75] (by decide +kernel) (by decide +kernel)
set_option maxRecDepth 20000 in
theorem gX3_init_X0_init_n33 : GoodIn wsX3_init (wsX0_init) := ggX3_init_X0_init
theorem dX3_init_0 : decode cX3_init 0 = .ok (.aload_n 0, 1) := by decide +kernel
theorem dX3_init_1 : decode cX3_init 1 = .ok (.invokespecial 1, 3) := by decide +kernel
theorem dX3_init_4 : decode cX3_init 4 = .ok (.aload_n 0, 1) := by decide +kernel
theorem dX3_init_5 : decode cX3_init 5 = .ok (.new 7, 3) := by decide +kernel
theorem dX3_init_8 : decode cX3_init 8 = .ok (.dup, 1) := by decide +kernel
theorem dX3_init_9 : decode cX3_init 9 = .ok (.invokespecial 9, 3) := by decide +kernel
theorem dX3_init_12 : decode cX3_init 12 = .ok (.putfield 10, 3) := by decide +kernel
theorem dX3_init_15 : decode cX3_init 15 = .ok (.aload_n 0, 1) := by decide +kernel
theorem dX3_init_16 : decode cX3_init 16 = .ok (.bipush 6, 2) := by decide +kernel
theorem dX3_init_18 : decode cX3_init 18 = .ok (.anewarray 7, 3) := by decide +kernel
theorem dX3_init_21 : decode cX3_init 21 = .ok (.putfield 16, 3) := by decide +kernel
theorem dX3_init_24 : decode cX3_init 24 = .ok (.aload_n 0, 1) := by decide +kernel
theorem dX3_init_25 : decode cX3_init 25 = .ok (.new 20, 3) := by decide +kernel
theorem dX3_init_28 : decode cX3_init 28 = .ok (.dup, 1) := by decide +kernel
theorem dX3_init_29 : decode cX3_init 29 = .ok (.invokespecial 22, 3) := by decide +kernel
theorem dX3_init_32 : decode cX3_init 32 = .ok (.putfield 23, 3) := by decide +kernel
theorem dX3_init_35 : decode cX3_init 35 = .ok (.aload_n 0, 1) := by decide +kernel
theorem dX3_init_36 : decode cX3_init 36 = .ok (.bipush 16, 2) := by decide +kernel
theorem dX3_init_38 : decode cX3_init 38 = .ok (.newarray .int, 2) := by decide +kernel
theorem dX3_init_40 : decode cX3_init 40 = .ok (.putfield 27, 3) := by decide +kernel
theorem dX3_init_43 : decode cX3_init 43 = .ok (.aload_n 0, 1) := by decide +kernel
theorem dX3_init_44 : decode cX3_init 44 = .ok (.new 31, 3) := by decide +kernel
theorem dX3_init_47 : decode cX3_init 47 = .ok (.dup, 1) := by decide +kernel
theorem dX3_init_48 : decode cX3_init 48 = .ok (.invokespecial 33, 3) := by decide +kernel
theorem dX3_init_51 : decode cX3_init 51 = .ok (.putfield 34, 3) := by decide +kernel
theorem dX3_init_54 : decode cX3_init 54 = .ok (.aload_n 0, 1) := by decide +kernel
theorem dX3_init_55 : decode cX3_init 55 = .ok (.new 31, 3) := by decide +kernel
theorem dX3_init_58 : decode cX3_init 58 = .ok (.dup, 1) := by decide +kernel
theorem dX3_init_59 : decode cX3_init 59 = .ok (.invokespecial 33, 3) := by decide +kernel
theorem dX3_init_62 : decode cX3_init 62 = .ok (.putfield 38, 3) := by decide +kernel
theorem dX3_init_65 : decode cX3_init 65 = .ok (.iconst 0, 1) := by decide +kernel
theorem dX3_init_66 : decode cX3_init 66 = .ok (.istore_n 1, 1) := by decide +kernel
theorem dX3_init_67 : decode cX3_init 67 = .ok (.iload_n 1, 1) := by decide +kernel
theorem dX3_init_68 : decode cX3_init 68 = .ok (.bipush 6, 2) := by decide +kernel
theorem dX3_init_70 : decode cX3_init 70 = .ok (.if_icmp .ge 22, 3) := by decide +kernel
theorem dX3_init_73 : decode cX3_init 73 = .ok (.aload_n 0, 1) := by decide +kernel
theorem dX3_init_74 : decode cX3_init 74 = .ok (.getfield 16, 3) := by decide +kernel
theorem dX3_init_77 : decode cX3_init 77 = .ok (.iload_n 1, 1) := by decide +kernel
theorem dX3_init_78 : decode cX3_init 78 = .ok (.new 7, 3) := by decide +kernel
theorem dX3_init_81 : decode cX3_init 81 = .ok (.dup, 1) := by decide +kernel
theorem dX3_init_82 : decode cX3_init 82 = .ok (.invokespecial 9, 3) := by decide +kernel
theorem dX3_init_85 : decode cX3_init 85 = .ok (.aastore, 1) := by decide +kernel
theorem dX3_init_86 : decode cX3_init 86 = .ok (.iinc 1 1, 3) := by decide +kernel
theorem dX3_init_89 : decode cX3_init 89 = .ok (.goto (-22), 3) := by decide +kernel
theorem dX3_init_92 : decode cX3_init 92 = .ok (.return_, 1) := by decide +kernel
set_option maxRecDepth 20000 in
theorem ggX3_begin_X3_save : GoodIn wsX3_begin wsX3_save := goodIn_r _ [11, 12, 13, 14, 3, 15, 16, 17, 18, 19, 20, 21, 22, 23, 24, 25, 26, 27, 28, 29, 30, 31, 32, 33, 34, 35, 36, 37, 38, 39, 40, 41] (by decide +kernel) (by decide +kernel)
set_option maxRecDepth 20000 in
theorem gX3_begin_X3_save : GoodIn wsX3_begin (wsV RX3 48 RX3 yX3_save wsX3_save) := goodIn_app (goodIn_of _ (by decide +kernel)) ggX3_begin_X3_save
theorem dX3_begin_0 : decode cX3_begin 0 = .ok (.iload_n 1, 1) := by decide +kernel
theorem dX3_begin_1 : decode cX3_begin 1 = .ok (.iconst 1, 1) := by decide +kernel
theorem dX3_begin_2 : decode cX3_begin 2 = .ok (.if_icmp .lt 8, 3) := by decide +kernel
theorem dX3_begin_5 : decode cX3_begin 5 = .ok (.iload_n 1, 1) := by decide +kernel
theorem dX3_begin_6 : decode cX3_begin 6 = .ok (.iconst 4, 1) := by decide +kernel
theorem dX3_begin_7 : decode cX3_begin 7 = .ok (.if_icmp .le 13, 3) := by decide +kernel
theorem dX3_begin_10 : decode cX3_begin 10 = .ok (.new 41, 3) := by decide +kernel
theorem dX3_begin_13 : decode cX3_begin 13 = .ok (.dup, 1) := by decide +kernel
theorem dX3_begin_14 : decode cX3_begin 14 = .ok (.ldc 43, 2) := by decide +kernel
theorem dX3_begin_16 : decode cX3_begin 16 = .ok (.invokespecial 45, 3) := by decide +kernel
theorem dX3_begin_19 : decode cX3_begin 19 = .ok (.athrow, 1) := by decide +kernel
theorem dX3_begin_20 : decode cX3_begin 20 = .ok (.aload_n 0, 1) := by decide +kernel
theorem dX3_begin_21 : decode cX3_begin 21 = .ok (.invokevirtual 48, 3) := by decide +kernel
theorem dX3_begin_24 : decode cX3_begin 24 = .ok (.aload_n 0, 1) := by decide +kernel
theorem dX3_begin_25 : decode cX3_begin 25 = .ok (.getfield 10, 3) := by decide +kernel
theorem dX3_begin_28 : decode cX3_begin 28 = .ok (.iconst 1, 1) := by decide +kernel
theorem dX3_begin_29 : decode cX3_begin 29 = .ok (.iload_n 1, 1) := by decide +kernel
theorem dX3_begin_30 : decode cX3_begin 30 = .ok (.ishl, 1) := by decide +kernel
theorem dX3_begin_31 : decode cX3_begin 31 = .ok (.putfield 51, 3) := by decide +kernel
theorem dX3_begin_34 : decode cX3_begin 34 = .ok (.aload_n 0, 1) := by decide +kernel
theorem dX3_begin_35 : decode cX3_begin 35 = .ok (.getfield 10, 3) := by decide +kernel
theorem dX3_begin_38 : decode cX3_begin 38 = .ok (.iconst 0, 1) := by decide +kernel
theorem dX3_begin_39 : decode cX3_begin 39 = .ok (.putfield 55, 3) := by decide +kernel
theorem dX3_begin_42 : decode cX3_begin 42 = .ok (.iconst 0, 1) := by decide +kernel
theorem dX3_begin_43 : decode cX3_begin 43 = .ok (.istore_n 2, 1) := by decide +kernel
theorem dX3_begin_44 : decode cX3_begin 44 = .ok (.iload_n 2, 1) := by decide +kernel
theorem dX3_begin_45 : decode cX3_begin 45 = .ok (.bipush 16, 2) := by decide +kernel
theorem dX3_begin_47 : decode cX3_begin 47 = .ok (.if_icmp .ge 19, 3) := by decide +kernel
theorem dX3_begin_50 : decode cX3_begin 50 = .ok (.aload_n 0, 1) := by decide +kernel
theorem dX3_begin_51 : decode cX3_begin 51 = .ok (.getfield 10, 3) := by decide +kernel
theorem dX3_begin_54 : decode cX3_begin 54 = .ok (.getfield 58, 3) := by decide +kernel
theorem dX3_begin_57 : decode cX3_begin 57 = .ok (.iload_n 2, 1) := by decide +kernel
theorem dX3_begin_58 : decode cX3_begin 58 = .ok (.iconst 0, 1) := by decide +kernel
theorem dX3_begin_59 : decode cX3_begin 59 = .ok (.iastore, 1) := by decide +kernel
theorem dX3_begin_60 : decode cX3_begin 60 = .ok (.iinc 2 1, 3) := by decide +kernel
theorem dX3_begin_63 : decode cX3_begin 63 = .ok (.goto (-19), 3) := by decide +kernel
theorem dX3_begin_66 : decode cX3_begin 66 = .ok (.aload_n 0, 1) := by decide +kernel
theorem dX3_begin_67 : decode cX3_begin 67 = .ok (.getfield 10, 3) := by decide +kernel
theorem dX3_begin_70 : decode cX3_begin 70 = .ok (.getfield 51, 3) := by decide +kernel
theorem dX3_begin_73 : decode cX3_begin 73 = .ok (.ireturn, 1) := by decide +kernel
set_option maxRecDepth 20000 in
theorem ggX3_open_X3_save : GoodIn wsX3_open wsX3_save := goodIn_r _ [12, 13, 14, 15, 5, 16, 17, 18, 19, 20, 21, 22, 23, 24, 25, 26, 27, 28, 29, 41, 42, 43, 44, 45, 46, 47, 48, 49, 50, 51, 52, 53] (by decide +kernel) (by decide +kernel)
set_option maxRecDepth 20000 in
theorem gX3_open_X3_save : GoodIn wsX3_open (wsV RX3 48 RX3 yX3_save wsX3_save) := goodIn_app (goodIn_of _ (by decide +kernel)) ggX3_open_X3_save
set_option maxRecDepth 20000 in
theorem ggX3_open_X2_sureRank : GoodIn wsX3_open wsX2_sureRank := goodIn_r _ [33, 28, 34, 35, 36, 20, 37, 27, 38, 39, 40, 50, 51, 52, 53] (by decide +kernel) (by decide +kernel)
set_option maxRecDepth 20000 in
theorem gX3_open_X2_sureRank : GoodIn wsX3_open (wsV RX3 68 RX2 yX2_sureRank wsX2_sureRank) := goodIn_app (goodIn_of _ (by decide +kernel)) ggX3_open_X2_sureRank
theorem dX3_open_0 : decode cX3_open 0 = .ok (.iload_n 1, 1) := by decide +kernel
theorem dX3_open_1 : decode cX3_open 1 = .ok (.ifCond .lt 9, 3) := by decide +kernel
theorem dX3_open_4 : decode cX3_open 4 = .ok (.iload_n 1, 1) := by decide +kernel
theorem dX3_open_5 : decode cX3_open 5 = .ok (.bipush 16, 2) := by decide +kernel
theorem dX3_open_7 : decode cX3_open 7 = .ok (.if_icmp .le 13, 3) := by decide +kernel
theorem dX3_open_10 : decode cX3_open 10 = .ok (.new 41, 3) := by decide +kernel
theorem dX3_open_13 : decode cX3_open 13 = .ok (.dup, 1) := by decide +kernel
theorem dX3_open_14 : decode cX3_open 14 = .ok (.ldc 61, 2) := by decide +kernel
theorem dX3_open_16 : decode cX3_open 16 = .ok (.invokespecial 45, 3) := by decide +kernel
theorem dX3_open_19 : decode cX3_open 19 = .ok (.athrow, 1) := by decide +kernel
theorem dX3_open_20 : decode cX3_open 20 = .ok (.iload_n 1, 1) := by decide +kernel
theorem dX3_open_21 : decode cX3_open 21 = .ok (.aload_n 0, 1) := by decide +kernel
theorem dX3_open_22 : decode cX3_open 22 = .ok (.getfield 10, 3) := by decide +kernel
theorem dX3_open_25 : decode cX3_open 25 = .ok (.getfield 51, 3) := by decide +kernel
theorem dX3_open_28 : decode cX3_open 28 = .ok (.if_icmp .le 13, 3) := by decide +kernel
theorem dX3_open_31 : decode cX3_open 31 = .ok (.new 63, 3) := by decide +kernel
theorem dX3_open_34 : decode cX3_open 34 = .ok (.dup, 1) := by decide +kernel
theorem dX3_open_35 : decode cX3_open 35 = .ok (.ldc 65, 2) := by decide +kernel
theorem dX3_open_37 : decode cX3_open 37 = .ok (.invokespecial 67, 3) := by decide +kernel
theorem dX3_open_40 : decode cX3_open 40 = .ok (.athrow, 1) := by decide +kernel
theorem dX3_open_41 : decode cX3_open 41 = .ok (.aload_n 0, 1) := by decide +kernel
theorem dX3_open_42 : decode cX3_open 42 = .ok (.invokevirtual 48, 3) := by decide +kernel
theorem dX3_open_45 : decode cX3_open 45 = .ok (.iconst 0, 1) := by decide +kernel
theorem dX3_open_46 : decode cX3_open 46 = .ok (.istore_n 2, 1) := by decide +kernel
theorem dX3_open_47 : decode cX3_open 47 = .ok (.iconst 0, 1) := by decide +kernel
theorem dX3_open_48 : decode cX3_open 48 = .ok (.istore_n 3, 1) := by decide +kernel
theorem dX3_open_49 : decode cX3_open 49 = .ok (.iload_n 3, 1) := by decide +kernel
theorem dX3_open_50 : decode cX3_open 50 = .ok (.aload_n 0, 1) := by decide +kernel
theorem dX3_open_51 : decode cX3_open 51 = .ok (.getfield 10, 3) := by decide +kernel
theorem dX3_open_54 : decode cX3_open 54 = .ok (.getfield 51, 3) := by decide +kernel
theorem dX3_open_57 : decode cX3_open 57 = .ok (.if_icmp .ge 27, 3) := by decide +kernel
theorem dX3_open_60 : decode cX3_open 60 = .ok (.aload_n 0, 1) := by decide +kernel
theorem dX3_open_61 : decode cX3_open 61 = .ok (.getfield 10, 3) := by decide +kernel
theorem dX3_open_64 : decode cX3_open 64 = .ok (.iload_n 3, 1) := by decide +kernel
theorem dX3_open_65 : decode cX3_open 65 = .ok (.invokevirtual 68, 3) := by decide +kernel
theorem dX3_open_68 : decode cX3_open 68 = .ok (.iload_n 1, 1) := by decide +kernel
theorem dX3_open_69 : decode cX3_open 69 = .ok (.if_icmp .ge 9, 3) := by decide +kernel
theorem dX3_open_72 : decode cX3_open 72 = .ok (.iload_n 2, 1) := by decide +kernel
theorem dX3_open_73 : decode cX3_open 73 = .ok (.iconst 1, 1) := by decide +kernel
theorem dX3_open_74 : decode cX3_open 74 = .ok (.iload_n 3, 1) := by decide +kernel
theorem dX3_open_75 : decode cX3_open 75 = .ok (.ishl, 1) := by decide +kernel
theorem dX3_open_76 : decode cX3_open 76 = .ok (.ior, 1) := by decide +kernel
theorem dX3_open_77 : decode cX3_open 77 = .ok (.istore_n 2, 1) := by decide +kernel
theorem dX3_open_78 : decode cX3_open 78 = .ok (.iinc 3 1, 3) := by decide +kernel
theorem dX3_open_81 : decode cX3_open 81 = .ok (.goto (-32), 3) := by decide +kernel
theorem dX3_open_84 : decode cX3_open 84 = .ok (.aload_n 0, 1) := by decide +kernel
theorem dX3_open_85 : decode cX3_open 85 = .ok (.getfield 10, 3) := by decide +kernel
theorem dX3_open_88 : decode cX3_open 88 = .ok (.iload_n 2, 1) := by decide +kernel
theorem dX3_open_89 : decode cX3_open 89 = .ok (.putfield 55, 3) := by decide +kernel
theorem dX3_open_92 : decode cX3_open 92 = .ok (.iload_n 2, 1) := by decide +kernel
theorem dX3_open_93 : decode cX3_open 93 = .ok (.ireturn, 1) := by decide +kernel
set_option maxRecDepth 20000 in
theorem ggX3_toggle_X2_hasPlace : GoodIn wsX3_toggle wsX2_hasPlace := goodIn_r _ [9, 10, 44, 45, 46, 47] (by decide +kernel) (by decide +kernel)
set_option maxRecDepth 20000 in
theorem gX3_toggle_X2_hasPlace : GoodIn wsX3_toggle (wsV RX3 72 RX2 yX2_hasPlace wsX2_hasPlace) := goodIn_app (goodIn_of _ (by decide +kernel)) ggX3_toggle_X2_hasPlace
set_option maxRecDepth 20000 in
theorem ggX3_toggle_X3_save : GoodIn wsX3_toggle wsX3_save := goodIn_r _ [15, 16, 17, 18, 3, 19, 20, 21, 22, 8, 23, 24, 25, 26, 27, 28, 29, 10, 30, 35, 36, 37, 38, 39, 40, 41, 42, 43, 44, 45, 46, 47] (by decide +kernel) (by decide +kernel)
set_option maxRecDepth 20000 in
theorem gX3_toggle_X3_save : GoodIn wsX3_toggle (wsV RX3 48 RX3 yX3_save wsX3_save) := goodIn_app (goodIn_of _ (by decide +kernel)) ggX3_toggle_X3_save
set_option maxRecDepth 20000 in
theorem ggX3_toggle_X2_isOpen : GoodIn wsX3_toggle wsX2_isOpen := goodIn_r _ [34, 30, 44, 45, 46, 47] (by decide +kernel) (by decide +kernel)
set_option maxRecDepth 20000 in
theorem gX3_toggle_X2_isOpen : GoodIn wsX3_toggle (wsV RX3 81 RX2 yX2_isOpen wsX2_isOpen) := goodIn_app (goodIn_of _ (by decide +kernel)) ggX3_toggle_X2_isOpen
theorem dX3_toggle_0 : decode cX3_toggle 0 = .ok (.aload_n 0, 1) := by decide +kernel
theorem dX3_toggle_1 : decode cX3_toggle 1 = .ok (.getfield 10, 3) := by decide +kernel
theorem dX3_toggle_4 : decode cX3_toggle 4 = .ok (.iload_n 1, 1) := by decide +kernel
theorem dX3_toggle_5 : decode cX3_toggle 5 = .ok (.invokevirtual 72, 3) := by decide +kernel
theorem dX3_toggle_8 : decode cX3_toggle 8 = .ok (.ifCond .ne 13, 3) := by decide +kernel
theorem dX3_toggle_11 : decode cX3_toggle 11 = .ok (.new 76, 3) := by decide +kernel
theorem dX3_toggle_14 : decode cX3_toggle 14 = .ok (.dup, 1) := by decide +kernel
theorem dX3_toggle_15 : decode cX3_toggle 15 = .ok (.ldc 78, 2) := by decide +kernel
theorem dX3_toggle_17 : decode cX3_toggle 17 = .ok (.invokespecial 80, 3) := by decide +kernel
theorem dX3_toggle_20 : decode cX3_toggle 20 = .ok (.athrow, 1) := by decide +kernel
theorem dX3_toggle_21 : decode cX3_toggle 21 = .ok (.aload_n 0, 1) := by decide +kernel
theorem dX3_toggle_22 : decode cX3_toggle 22 = .ok (.invokevirtual 48, 3) := by decide +kernel
theorem dX3_toggle_25 : decode cX3_toggle 25 = .ok (.aload_n 0, 1) := by decide +kernel
theorem dX3_toggle_26 : decode cX3_toggle 26 = .ok (.getfield 10, 3) := by decide +kernel
theorem dX3_toggle_29 : decode cX3_toggle 29 = .ok (.dup, 1) := by decide +kernel
theorem dX3_toggle_30 : decode cX3_toggle 30 = .ok (.getfield 55, 3) := by decide +kernel
theorem dX3_toggle_33 : decode cX3_toggle 33 = .ok (.iconst 1, 1) := by decide +kernel
theorem dX3_toggle_34 : decode cX3_toggle 34 = .ok (.iload_n 1, 1) := by decide +kernel
theorem dX3_toggle_35 : decode cX3_toggle 35 = .ok (.ishl, 1) := by decide +kernel
theorem dX3_toggle_36 : decode cX3_toggle 36 = .ok (.ixor, 1) := by decide +kernel
theorem dX3_toggle_37 : decode cX3_toggle 37 = .ok (.putfield 55, 3) := by decide +kernel
theorem dX3_toggle_40 : decode cX3_toggle 40 = .ok (.aload_n 0, 1) := by decide +kernel
theorem dX3_toggle_41 : decode cX3_toggle 41 = .ok (.getfield 10, 3) := by decide +kernel
theorem dX3_toggle_44 : decode cX3_toggle 44 = .ok (.iload_n 1, 1) := by decide +kernel
theorem dX3_toggle_45 : decode cX3_toggle 45 = .ok (.invokevirtual 81, 3) := by decide +kernel
theorem dX3_toggle_48 : decode cX3_toggle 48 = .ok (.ifCond .eq 7, 3) := by decide +kernel
theorem dX3_toggle_51 : decode cX3_toggle 51 = .ok (.iconst 1, 1) := by decide +kernel
theorem dX3_toggle_52 : decode cX3_toggle 52 = .ok (.goto 4, 3) := by decide +kernel
theorem dX3_toggle_55 : decode cX3_toggle 55 = .ok (.iconst 0, 1) := by decide +kernel
theorem dX3_toggle_56 : decode cX3_toggle 56 = .ok (.ireturn, 1) := by decide +kernel
set_option maxRecDepth 20000 in
theorem ggX3_set_X3_save : GoodIn wsX3_set wsX3_save := goodIn_r _ [13, 14, 15, 16, 7, 17, 18, 19, 20, 21, 22, 23, 24, 25, 26, 27, 28, 29, 30, 31, 32, 33, 34, 35, 36, 37, 38, 39, 40, 41, 42, 43] (by decide +kernel) (by decide +kernel)
set_option maxRecDepth 20000 in
theorem gX3_set_X3_save : GoodIn wsX3_set (wsV RX3 48 RX3 yX3_save wsX3_save) := goodIn_app (goodIn_of _ (by decide +kernel)) ggX3_set_X3_save
theorem dX3_set_0 : decode cX3_set 0 = .ok (.iload_n 1, 1) := by decide +kernel
theorem dX3_set_1 : decode cX3_set 1 = .ok (.ifCond .lt 8, 3) := by decide +kernel
theorem dX3_set_4 : decode cX3_set 4 = .ok (.iload_n 1, 1) := by decide +kernel
theorem dX3_set_5 : decode cX3_set 5 = .ok (.iconst 4, 1) := by decide +kernel
theorem dX3_set_6 : decode cX3_set 6 = .ok (.if_icmp .lt 13, 3) := by decide +kernel
theorem dX3_set_9 : decode cX3_set 9 = .ok (.new 76, 3) := by decide +kernel
theorem dX3_set_12 : decode cX3_set 12 = .ok (.dup, 1) := by decide +kernel
theorem dX3_set_13 : decode cX3_set 13 = .ok (.ldc 84, 2) := by decide +kernel
theorem dX3_set_15 : decode cX3_set 15 = .ok (.invokespecial 80, 3) := by decide +kernel
theorem dX3_set_18 : decode cX3_set 18 = .ok (.athrow, 1) := by decide +kernel
theorem dX3_set_19 : decode cX3_set 19 = .ok (.iload_n 2, 1) := by decide +kernel
theorem dX3_set_20 : decode cX3_set 20 = .ok (.getstatic 86, 3) := by decide +kernel
theorem dX3_set_23 : decode cX3_set 23 = .ok (.iload_n 1, 1) := by decide +kernel
theorem dX3_set_24 : decode cX3_set 24 = .ok (.iaload, 1) := by decide +kernel
theorem dX3_set_25 : decode cX3_set 25 = .ok (.if_icmp .lt 12, 3) := by decide +kernel
theorem dX3_set_28 : decode cX3_set 28 = .ok (.iload_n 2, 1) := by decide +kernel
theorem dX3_set_29 : decode cX3_set 29 = .ok (.getstatic 89, 3) := by decide +kernel
theorem dX3_set_32 : decode cX3_set 32 = .ok (.iload_n 1, 1) := by decide +kernel
theorem dX3_set_33 : decode cX3_set 33 = .ok (.iaload, 1) := by decide +kernel
theorem dX3_set_34 : decode cX3_set 34 = .ok (.if_icmp .le 13, 3) := by decide +kernel
theorem dX3_set_37 : decode cX3_set 37 = .ok (.new 41, 3) := by decide +kernel
theorem dX3_set_40 : decode cX3_set 40 = .ok (.dup, 1) := by decide +kernel
theorem dX3_set_41 : decode cX3_set 41 = .ok (.ldc 92, 2) := by decide +kernel
theorem dX3_set_43 : decode cX3_set 43 = .ok (.invokespecial 45, 3) := by decide +kernel
theorem dX3_set_46 : decode cX3_set 46 = .ok (.athrow, 1) := by decide +kernel
theorem dX3_set_47 : decode cX3_set 47 = .ok (.aload_n 0, 1) := by decide +kernel
theorem dX3_set_48 : decode cX3_set 48 = .ok (.invokevirtual 48, 3) := by decide +kernel
theorem dX3_set_51 : decode cX3_set 51 = .ok (.aload_n 0, 1) := by decide +kernel
theorem dX3_set_52 : decode cX3_set 52 = .ok (.getfield 10, 3) := by decide +kernel
theorem dX3_set_55 : decode cX3_set 55 = .ok (.getfield 94, 3) := by decide +kernel
theorem dX3_set_58 : decode cX3_set 58 = .ok (.iload_n 1, 1) := by decide +kernel
theorem dX3_set_59 : decode cX3_set 59 = .ok (.iaload, 1) := by decide +kernel
theorem dX3_set_60 : decode cX3_set 60 = .ok (.istore_n 3, 1) := by decide +kernel
theorem dX3_set_61 : decode cX3_set 61 = .ok (.aload_n 0, 1) := by decide +kernel
theorem dX3_set_62 : decode cX3_set 62 = .ok (.getfield 10, 3) := by decide +kernel
theorem dX3_set_65 : decode cX3_set 65 = .ok (.getfield 94, 3) := by decide +kernel
theorem dX3_set_68 : decode cX3_set 68 = .ok (.iload_n 1, 1) := by decide +kernel
theorem dX3_set_69 : decode cX3_set 69 = .ok (.iload_n 2, 1) := by decide +kernel
theorem dX3_set_70 : decode cX3_set 70 = .ok (.iastore, 1) := by decide +kernel
theorem dX3_set_71 : decode cX3_set 71 = .ok (.iload_n 3, 1) := by decide +kernel
theorem dX3_set_72 : decode cX3_set 72 = .ok (.ireturn, 1) := by decide +kernel
set_option maxRecDepth 20000 in
theorem ggX3_send_X2_hasRoomFor : GoodIn wsX3_send wsX2_hasRoomFor := goodIn_r _ [11, 12, 13, 14, 10, 15, 16, 17, 18, 19, 20, 21, 22, 23, 24, 25, 26, 27, 28, 29, 30, 31, 32, 33, 34, 35, 36, 82, 83, 84, 85] (by decide +kernel) (by decide +kernel)
set_option maxRecDepth 20000 in
theorem gX3_send_X2_hasRoomFor : GoodIn wsX3_send (wsV RX3 97 RX2 yX2_hasRoomFor wsX2_hasRoomFor) := goodIn_app (goodIn_of _ (by decide +kernel)) ggX3_send_X2_hasRoomFor
set_option maxRecDepth 20000 in
theorem ggX3_send_X3_save : GoodIn wsX3_send wsX3_save := goodIn_r _ [41, 42, 43, 44, 3, 45, 46, 47, 48, 10, 49, 50, 51, 52, 53, 54, 32, 55, 20, 73, 74, 75, 76, 77, 78, 79, 80, 81, 82, 83, 84, 85] (by decide +kernel) (by decide +kernel)
set_option maxRecDepth 20000 in
theorem gX3_send_X3_save : GoodIn wsX3_send (wsV RX3 48 RX3 yX3_save wsX3_save) := goodIn_app (goodIn_of _ (by decide +kernel)) ggX3_send_X3_save
set_option maxRecDepth 20000 in
theorem ggX3_send_X2_withChecks : GoodIn wsX3_send wsX2_withChecks := goodIn_r _ [59, 12, 13, 14, 10, 15, 16, 17, 18, 19, 20, 21, 22, 23, 24, 25, 26, 27, 28, 29, 30, 31, 32, 33, 34, 35, 36, 60, 40, 61, 82, 83, 84, 85] (by decide +kernel) (by decide +kernel)
set_option maxRecDepth 20000 in
theorem gX3_send_X2_withChecks : GoodIn wsX3_send (wsV RX3 102 RX2 yX2_withChecks wsX2_withChecks) := goodIn_app (goodIn_of _ (by decide +kernel)) ggX3_send_X2_withChecks
set_option maxRecDepth 20000 in
theorem ggX3_send_X2_wordOf : GoodIn wsX3_send wsX2_wordOf := goodIn_r _ [65, 55, 66, 67, 68, 10, 69, 20, 70, 40, 71, 72, 82, 83, 84, 85] (by decide +kernel) (by decide +kernel)
set_option maxRecDepth 20000 in
theorem gX3_send_X2_wordOf : GoodIn wsX3_send (wsV RX3 105 RX2 yX2_wordOf wsX2_wordOf) := goodIn_app (goodIn_of _ (by decide +kernel)) ggX3_send_X2_wordOf
theorem dX3_send_0 : decode cX3_send 0 = .ok (.aload_n 0, 1) := by decide +kernel
theorem dX3_send_1 : decode cX3_send 1 = .ok (.getfield 10, 3) := by decide +kernel
theorem dX3_send_4 : decode cX3_send 4 = .ok (.iload_n 1, 1) := by decide +kernel
theorem dX3_send_5 : decode cX3_send 5 = .ok (.invokevirtual 97, 3) := by decide +kernel
theorem dX3_send_8 : decode cX3_send 8 = .ok (.ifCond .ne 13, 3) := by decide +kernel
theorem dX3_send_11 : decode cX3_send 11 = .ok (.new 41, 3) := by decide +kernel
theorem dX3_send_14 : decode cX3_send 14 = .ok (.dup, 1) := by decide +kernel
theorem dX3_send_15 : decode cX3_send 15 = .ok (.ldc 100, 2) := by decide +kernel
theorem dX3_send_17 : decode cX3_send 17 = .ok (.invokespecial 45, 3) := by decide +kernel
theorem dX3_send_20 : decode cX3_send 20 = .ok (.athrow, 1) := by decide +kernel
theorem dX3_send_21 : decode cX3_send 21 = .ok (.aload_n 0, 1) := by decide +kernel
theorem dX3_send_22 : decode cX3_send 22 = .ok (.invokevirtual 48, 3) := by decide +kernel
theorem dX3_send_25 : decode cX3_send 25 = .ok (.aload_n 0, 1) := by decide +kernel
theorem dX3_send_26 : decode cX3_send 26 = .ok (.getfield 10, 3) := by decide +kernel
theorem dX3_send_29 : decode cX3_send 29 = .ok (.aload_n 0, 1) := by decide +kernel
theorem dX3_send_30 : decode cX3_send 30 = .ok (.getfield 10, 3) := by decide +kernel
theorem dX3_send_33 : decode cX3_send 33 = .ok (.iload_n 1, 1) := by decide +kernel
theorem dX3_send_34 : decode cX3_send 34 = .ok (.invokevirtual 102, 3) := by decide +kernel
theorem dX3_send_37 : decode cX3_send 37 = .ok (.invokevirtual 105, 3) := by decide +kernel
theorem dX3_send_40 : decode cX3_send 40 = .ok (.istore_n 2, 1) := by decide +kernel
theorem dX3_send_41 : decode cX3_send 41 = .ok (.aload_n 0, 1) := by decide +kernel
theorem dX3_send_42 : decode cX3_send 42 = .ok (.getfield 10, 3) := by decide +kernel
theorem dX3_send_45 : decode cX3_send 45 = .ok (.getfield 94, 3) := by decide +kernel
theorem dX3_send_48 : decode cX3_send 48 = .ok (.iconst 3, 1) := by decide +kernel
theorem dX3_send_49 : decode cX3_send 49 = .ok (.iaload, 1) := by decide +kernel
theorem dX3_send_50 : decode cX3_send 50 = .ok (.istore_n 3, 1) := by decide +kernel
theorem dX3_send_51 : decode cX3_send 51 = .ok (.iconst 0, 1) := by decide +kernel
theorem dX3_send_52 : decode cX3_send 52 = .ok (.istore 4, 2) := by decide +kernel
theorem dX3_send_54 : decode cX3_send 54 = .ok (.iload 4, 2) := by decide +kernel
theorem dX3_send_56 : decode cX3_send 56 = .ok (.aload_n 0, 1) := by decide +kernel
theorem dX3_send_57 : decode cX3_send 57 = .ok (.getfield 10, 3) := by decide +kernel
theorem dX3_send_60 : decode cX3_send 60 = .ok (.getfield 51, 3) := by decide +kernel
theorem dX3_send_63 : decode cX3_send 63 = .ok (.if_icmp .ge 35, 3) := by decide +kernel
theorem dX3_send_66 : decode cX3_send 66 = .ok (.aload_n 0, 1) := by decide +kernel
theorem dX3_send_67 : decode cX3_send 67 = .ok (.getfield 10, 3) := by decide +kernel
theorem dX3_send_70 : decode cX3_send 70 = .ok (.getfield 58, 3) := by decide +kernel
theorem dX3_send_73 : decode cX3_send 73 = .ok (.iload 4, 2) := by decide +kernel
theorem dX3_send_75 : decode cX3_send 75 = .ok (.iload_n 2, 1) := by decide +kernel
theorem dX3_send_76 : decode cX3_send 76 = .ok (.iload 4, 2) := by decide +kernel
theorem dX3_send_78 : decode cX3_send 78 = .ok (.ishr, 1) := by decide +kernel
theorem dX3_send_79 : decode cX3_send 79 = .ok (.iconst 1, 1) := by decide +kernel
theorem dX3_send_80 : decode cX3_send 80 = .ok (.iand, 1) := by decide +kernel
theorem dX3_send_81 : decode cX3_send 81 = .ok (.iconst 1, 1) := by decide +kernel
theorem dX3_send_82 : decode cX3_send 82 = .ok (.if_icmp .ne 8, 3) := by decide +kernel
theorem dX3_send_85 : decode cX3_send 85 = .ok (.iload_n 3, 1) := by decide +kernel
theorem dX3_send_86 : decode cX3_send 86 = .ok (.ineg, 1) := by decide +kernel
theorem dX3_send_87 : decode cX3_send 87 = .ok (.goto 4, 3) := by decide +kernel
theorem dX3_send_90 : decode cX3_send 90 = .ok (.iload_n 3, 1) := by decide +kernel
theorem dX3_send_91 : decode cX3_send 91 = .ok (.iastore, 1) := by decide +kernel
theorem dX3_send_92 : decode cX3_send 92 = .ok (.iinc 4 1, 3) := by decide +kernel
theorem dX3_send_95 : decode cX3_send 95 = .ok (.goto (-41), 3) := by decide +kernel
theorem dX3_send_98 : decode cX3_send 98 = .ok (.iload_n 2, 1) := by decide +kernel
theorem dX3_send_99 : decode cX3_send 99 = .ok (.ireturn, 1) := by decide +kernel
set_option maxRecDepth 20000 in
theorem ggX3_receive_X2_hasPlace : GoodIn wsX3_receive wsX2_hasPlace := goodIn_r _ [11, 12, 42, 43, 44, 45] (by decide +kernel) (by decide +kernel)
set_option maxRecDepth 20000 in
theorem gX3_receive_X2_hasPlace : GoodIn wsX3_receive (wsV RX3 72 RX2 yX2_hasPlace wsX2_hasPlace) := goodIn_app (goodIn_of _ (by decide +kernel)) ggX3_receive_X2_hasPlace
set_option maxRecDepth 20000 in
theorem ggX3_receive_X3_save : GoodIn wsX3_receive wsX3_save := goodIn_r _ [17, 18, 19, 20, 5, 21, 22, 23, 24, 10, 25, 26, 27, 28, 29, 30, 31, 12, 32, 33, 34, 35, 36, 37, 38, 39, 40, 41, 42, 43, 44, 45] (by decide +kernel) (by decide +kernel)
set_option maxRecDepth 20000 in
theorem gX3_receive_X3_save : GoodIn wsX3_receive (wsV RX3 48 RX3 yX3_save wsX3_save) := goodIn_app (goodIn_of _ (by decide +kernel)) ggX3_receive_X3_save
theorem dX3_receive_0 : decode cX3_receive 0 = .ok (.aload_n 0, 1) := by decide +kernel
theorem dX3_receive_1 : decode cX3_receive 1 = .ok (.getfield 10, 3) := by decide +kernel
theorem dX3_receive_4 : decode cX3_receive 4 = .ok (.iload_n 1, 1) := by decide +kernel
theorem dX3_receive_5 : decode cX3_receive 5 = .ok (.invokevirtual 72, 3) := by decide +kernel
theorem dX3_receive_8 : decode cX3_receive 8 = .ok (.ifCond .ne 13, 3) := by decide +kernel
theorem dX3_receive_11 : decode cX3_receive 11 = .ok (.new 76, 3) := by decide +kernel
theorem dX3_receive_14 : decode cX3_receive 14 = .ok (.dup, 1) := by decide +kernel
theorem dX3_receive_15 : decode cX3_receive 15 = .ok (.ldc 78, 2) := by decide +kernel
theorem dX3_receive_17 : decode cX3_receive 17 = .ok (.invokespecial 80, 3) := by decide +kernel
theorem dX3_receive_20 : decode cX3_receive 20 = .ok (.athrow, 1) := by decide +kernel
theorem dX3_receive_21 : decode cX3_receive 21 = .ok (.iload_n 2, 1) := by decide +kernel
theorem dX3_receive_22 : decode cX3_receive 22 = .ok (.bipush (-99), 2) := by decide +kernel
theorem dX3_receive_24 : decode cX3_receive 24 = .ok (.if_icmp .lt 9, 3) := by decide +kernel
theorem dX3_receive_27 : decode cX3_receive 27 = .ok (.iload_n 2, 1) := by decide +kernel
theorem dX3_receive_28 : decode cX3_receive 28 = .ok (.bipush 99, 2) := by decide +kernel
theorem dX3_receive_30 : decode cX3_receive 30 = .ok (.if_icmp .le 13, 3) := by decide +kernel
theorem dX3_receive_33 : decode cX3_receive 33 = .ok (.new 41, 3) := by decide +kernel
theorem dX3_receive_36 : decode cX3_receive 36 = .ok (.dup, 1) := by decide +kernel
theorem dX3_receive_37 : decode cX3_receive 37 = .ok (.ldc 108, 2) := by decide +kernel
theorem dX3_receive_39 : decode cX3_receive 39 = .ok (.invokespecial 45, 3) := by decide +kernel
theorem dX3_receive_42 : decode cX3_receive 42 = .ok (.athrow, 1) := by decide +kernel
theorem dX3_receive_43 : decode cX3_receive 43 = .ok (.aload_n 0, 1) := by decide +kernel
theorem dX3_receive_44 : decode cX3_receive 44 = .ok (.invokevirtual 48, 3) := by decide +kernel
theorem dX3_receive_47 : decode cX3_receive 47 = .ok (.aload_n 0, 1) := by decide +kernel
theorem dX3_receive_48 : decode cX3_receive 48 = .ok (.getfield 10, 3) := by decide +kernel
theorem dX3_receive_51 : decode cX3_receive 51 = .ok (.getfield 58, 3) := by decide +kernel
theorem dX3_receive_54 : decode cX3_receive 54 = .ok (.iload_n 1, 1) := by decide +kernel
theorem dX3_receive_55 : decode cX3_receive 55 = .ok (.iaload, 1) := by decide +kernel
theorem dX3_receive_56 : decode cX3_receive 56 = .ok (.istore_n 3, 1) := by decide +kernel
theorem dX3_receive_57 : decode cX3_receive 57 = .ok (.aload_n 0, 1) := by decide +kernel
theorem dX3_receive_58 : decode cX3_receive 58 = .ok (.getfield 10, 3) := by decide +kernel
theorem dX3_receive_61 : decode cX3_receive 61 = .ok (.getfield 58, 3) := by decide +kernel
theorem dX3_receive_64 : decode cX3_receive 64 = .ok (.iload_n 1, 1) := by decide +kernel
theorem dX3_receive_65 : decode cX3_receive 65 = .ok (.iload_n 2, 1) := by decide +kernel
theorem dX3_receive_66 : decode cX3_receive 66 = .ok (.iastore, 1) := by decide +kernel
theorem dX3_receive_67 : decode cX3_receive 67 = .ok (.iload_n 3, 1) := by decide +kernel
theorem dX3_receive_68 : decode cX3_receive 68 = .ok (.ifCond .le 7, 3) := by decide +kernel
theorem dX3_receive_71 : decode cX3_receive 71 = .ok (.iconst 1, 1) := by decide +kernel
theorem dX3_receive_72 : decode cX3_receive 72 = .ok (.goto 4, 3) := by decide +kernel
theorem dX3_receive_75 : decode cX3_receive 75 = .ok (.iconst 0, 1) := by decide +kernel
theorem dX3_receive_76 : decode cX3_receive 76 = .ok (.iload_n 2, 1) := by decide +kernel
theorem dX3_receive_77 : decode cX3_receive 77 = .ok (.ifCond .le 7, 3) := by decide +kernel
theorem dX3_receive_80 : decode cX3_receive 80 = .ok (.iconst 1, 1) := by decide +kernel
theorem dX3_receive_81 : decode cX3_receive 81 = .ok (.goto 4, 3) := by decide +kernel
theorem dX3_receive_84 : decode cX3_receive 84 = .ok (.iconst 0, 1) := by decide +kernel
theorem dX3_receive_85 : decode cX3_receive 85 = .ok (.if_icmp .ne 28, 3) := by decide +kernel
theorem dX3_receive_88 : decode cX3_receive 88 = .ok (.iload_n 3, 1) := by decide +kernel
theorem dX3_receive_89 : decode cX3_receive 89 = .ok (.ifCond .ge 7, 3) := by decide +kernel
theorem dX3_receive_92 : decode cX3_receive 92 = .ok (.iconst 1, 1) := by decide +kernel
theorem dX3_receive_93 : decode cX3_receive 93 = .ok (.goto 4, 3) := by decide +kernel
theorem dX3_receive_96 : decode cX3_receive 96 = .ok (.iconst 0, 1) := by decide +kernel
theorem dX3_receive_97 : decode cX3_receive 97 = .ok (.iload_n 2, 1) := by decide +kernel
theorem dX3_receive_98 : decode cX3_receive 98 = .ok (.ifCond .ge 7, 3) := by decide +kernel
theorem dX3_receive_101 : decode cX3_receive 101 = .ok (.iconst 1, 1) := by decide +kernel
theorem dX3_receive_102 : decode cX3_receive 102 = .ok (.goto 4, 3) := by decide +kernel
theorem dX3_receive_105 : decode cX3_receive 105 = .ok (.iconst 0, 1) := by decide +kernel
theorem dX3_receive_106 : decode cX3_receive 106 = .ok (.if_icmp .ne 7, 3) := by decide +kernel
theorem dX3_receive_109 : decode cX3_receive 109 = .ok (.iconst 1, 1) := by decide +kernel
theorem dX3_receive_110 : decode cX3_receive 110 = .ok (.goto 4, 3) := by decide +kernel
theorem dX3_receive_113 : decode cX3_receive 113 = .ok (.iconst 0, 1) := by decide +kernel
theorem dX3_receive_114 : decode cX3_receive 114 = .ok (.istore 4, 2) := by decide +kernel
theorem dX3_receive_116 : decode cX3_receive 116 = .ok (.iload 4, 2) := by decide +kernel
theorem dX3_receive_118 : decode cX3_receive 118 = .ok (.ifCond .eq 7, 3) := by decide +kernel
theorem dX3_receive_121 : decode cX3_receive 121 = .ok (.iconst 0, 1) := by decide +kernel
theorem dX3_receive_122 : decode cX3_receive 122 = .ok (.goto 4, 3) := by decide +kernel
theorem dX3_receive_125 : decode cX3_receive 125 = .ok (.iconst 1, 1) := by decide +kernel
theorem dX3_receive_126 : decode cX3_receive 126 = .ok (.ireturn, 1) := by decide +kernel
set_option maxRecDepth 20000 in
theorem ggX3_flip_X2_hasPlace : GoodIn wsX3_flip wsX2_hasPlace := goodIn_r _ [13, 14, 44, 45, 46, 47] (by decide +kernel) (by decide +kernel)
set_option maxRecDepth 20000 in
theorem gX3_flip_X2_hasPlace : GoodIn wsX3_flip (wsV RX3 72 RX2 yX2_hasPlace wsX2_hasPlace) := goodIn_app (goodIn_of _ (by decide +kernel)) ggX3_flip_X2_hasPlace
set_option maxRecDepth 20000 in
theorem ggX3_flip_X3_save : GoodIn wsX3_flip wsX3_save := goodIn_r _ [19, 20, 21, 22, 3, 23, 24, 25, 26, 12, 27, 28, 29, 30, 31, 32, 33, 14, 34, 35, 36, 37, 38, 39, 40, 41, 42, 43, 44, 45, 46, 47] (by decide +kernel) (by decide +kernel)
set_option maxRecDepth 20000 in
theorem gX3_flip_X3_save : GoodIn wsX3_flip (wsV RX3 48 RX3 yX3_save wsX3_save) := goodIn_app (goodIn_of _ (by decide +kernel)) ggX3_flip_X3_save
theorem dX3_flip_0 : decode cX3_flip 0 = .ok (.aload_n 0, 1) := by decide +kernel
theorem dX3_flip_1 : decode cX3_flip 1 = .ok (.getfield 10, 3) := by decide +kernel
theorem dX3_flip_4 : decode cX3_flip 4 = .ok (.iload_n 1, 1) := by decide +kernel
theorem dX3_flip_5 : decode cX3_flip 5 = .ok (.invokevirtual 72, 3) := by decide +kernel
theorem dX3_flip_8 : decode cX3_flip 8 = .ok (.ifCond .ne 13, 3) := by decide +kernel
theorem dX3_flip_11 : decode cX3_flip 11 = .ok (.new 76, 3) := by decide +kernel
theorem dX3_flip_14 : decode cX3_flip 14 = .ok (.dup, 1) := by decide +kernel
theorem dX3_flip_15 : decode cX3_flip 15 = .ok (.ldc 78, 2) := by decide +kernel
theorem dX3_flip_17 : decode cX3_flip 17 = .ok (.invokespecial 80, 3) := by decide +kernel
theorem dX3_flip_20 : decode cX3_flip 20 = .ok (.athrow, 1) := by decide +kernel
theorem dX3_flip_21 : decode cX3_flip 21 = .ok (.aload_n 0, 1) := by decide +kernel
theorem dX3_flip_22 : decode cX3_flip 22 = .ok (.invokevirtual 48, 3) := by decide +kernel
theorem dX3_flip_25 : decode cX3_flip 25 = .ok (.aload_n 0, 1) := by decide +kernel
theorem dX3_flip_26 : decode cX3_flip 26 = .ok (.getfield 10, 3) := by decide +kernel
theorem dX3_flip_29 : decode cX3_flip 29 = .ok (.getfield 58, 3) := by decide +kernel
theorem dX3_flip_32 : decode cX3_flip 32 = .ok (.iload_n 1, 1) := by decide +kernel
theorem dX3_flip_33 : decode cX3_flip 33 = .ok (.aload_n 0, 1) := by decide +kernel
theorem dX3_flip_34 : decode cX3_flip 34 = .ok (.getfield 10, 3) := by decide +kernel
theorem dX3_flip_37 : decode cX3_flip 37 = .ok (.getfield 58, 3) := by decide +kernel
theorem dX3_flip_40 : decode cX3_flip 40 = .ok (.iload_n 1, 1) := by decide +kernel
theorem dX3_flip_41 : decode cX3_flip 41 = .ok (.iaload, 1) := by decide +kernel
theorem dX3_flip_42 : decode cX3_flip 42 = .ok (.ineg, 1) := by decide +kernel
theorem dX3_flip_43 : decode cX3_flip 43 = .ok (.iastore, 1) := by decide +kernel
theorem dX3_flip_44 : decode cX3_flip 44 = .ok (.aload_n 0, 1) := by decide +kernel
theorem dX3_flip_45 : decode cX3_flip 45 = .ok (.getfield 10, 3) := by decide +kernel
theorem dX3_flip_48 : decode cX3_flip 48 = .ok (.getfield 58, 3) := by decide +kernel
theorem dX3_flip_51 : decode cX3_flip 51 = .ok (.iload_n 1, 1) := by decide +kernel
theorem dX3_flip_52 : decode cX3_flip 52 = .ok (.iaload, 1) := by decide +kernel
theorem dX3_flip_53 : decode cX3_flip 53 = .ok (.invokestatic 110, 3) := by decide +kernel
theorem dX3_flip_56 : decode cX3_flip 56 = .ok (.ireturn, 1) := by decide +kernel
set_option maxRecDepth 20000 in
theorem ggX3_roll_X3_save : GoodIn wsX3_roll wsX3_save := goodIn_r _ [11, 12, 13, 14, 3, 15, 16, 17, 18, 19, 20, 21, 22, 23, 24, 25, 26, 27, 28, 29, 30, 31, 32, 33, 34, 35, 36, 37, 38, 39, 40, 41] (by decide +kernel) (by decide +kernel)
set_option maxRecDepth 20000 in
theorem gX3_roll_X3_save : GoodIn wsX3_roll (wsV RX3 48 RX3 yX3_save wsX3_save) := goodIn_app (goodIn_of _ (by decide +kernel)) ggX3_roll_X3_save
theorem dX3_roll_0 : decode cX3_roll 0 = .ok (.iload_n 1, 1) := by decide +kernel
theorem dX3_roll_1 : decode cX3_roll 1 = .ok (.ifCond .lt 14, 3) := by decide +kernel
theorem dX3_roll_4 : decode cX3_roll 4 = .ok (.iload_n 1, 1) := by decide +kernel
theorem dX3_roll_5 : decode cX3_roll 5 = .ok (.aload_n 0, 1) := by decide +kernel
theorem dX3_roll_6 : decode cX3_roll 6 = .ok (.getfield 10, 3) := by decide +kernel
theorem dX3_roll_9 : decode cX3_roll 9 = .ok (.getfield 51, 3) := by decide +kernel
theorem dX3_roll_12 : decode cX3_roll 12 = .ok (.if_icmp .lt 13, 3) := by decide +kernel
theorem dX3_roll_15 : decode cX3_roll 15 = .ok (.new 41, 3) := by decide +kernel
theorem dX3_roll_18 : decode cX3_roll 18 = .ok (.dup, 1) := by decide +kernel
theorem dX3_roll_19 : decode cX3_roll 19 = .ok (.ldc 115, 2) := by decide +kernel
theorem dX3_roll_21 : decode cX3_roll 21 = .ok (.invokespecial 45, 3) := by decide +kernel
theorem dX3_roll_24 : decode cX3_roll 24 = .ok (.athrow, 1) := by decide +kernel
theorem dX3_roll_25 : decode cX3_roll 25 = .ok (.aload_n 0, 1) := by decide +kernel
theorem dX3_roll_26 : decode cX3_roll 26 = .ok (.invokevirtual 48, 3) := by decide +kernel
theorem dX3_roll_29 : decode cX3_roll 29 = .ok (.iconst 0, 1) := by decide +kernel
theorem dX3_roll_30 : decode cX3_roll 30 = .ok (.istore_n 2, 1) := by decide +kernel
theorem dX3_roll_31 : decode cX3_roll 31 = .ok (.iload_n 2, 1) := by decide +kernel
theorem dX3_roll_32 : decode cX3_roll 32 = .ok (.aload_n 0, 1) := by decide +kernel
theorem dX3_roll_33 : decode cX3_roll 33 = .ok (.getfield 10, 3) := by decide +kernel
theorem dX3_roll_36 : decode cX3_roll 36 = .ok (.getfield 51, 3) := by decide +kernel
theorem dX3_roll_39 : decode cX3_roll 39 = .ok (.if_icmp .ge 55, 3) := by decide +kernel
theorem dX3_roll_42 : decode cX3_roll 42 = .ok (.iload_n 2, 1) := by decide +kernel
theorem dX3_roll_43 : decode cX3_roll 43 = .ok (.iload_n 1, 1) := by decide +kernel
theorem dX3_roll_44 : decode cX3_roll 44 = .ok (.iadd, 1) := by decide +kernel
theorem dX3_roll_45 : decode cX3_roll 45 = .ok (.aload_n 0, 1) := by decide +kernel
theorem dX3_roll_46 : decode cX3_roll 46 = .ok (.getfield 10, 3) := by decide +kernel
theorem dX3_roll_49 : decode cX3_roll 49 = .ok (.getfield 51, 3) := by decide +kernel
theorem dX3_roll_52 : decode cX3_roll 52 = .ok (.if_icmp .ge 9, 3) := by decide +kernel
theorem dX3_roll_55 : decode cX3_roll 55 = .ok (.iload_n 2, 1) := by decide +kernel
theorem dX3_roll_56 : decode cX3_roll 56 = .ok (.iload_n 1, 1) := by decide +kernel
theorem dX3_roll_57 : decode cX3_roll 57 = .ok (.iadd, 1) := by decide +kernel
theorem dX3_roll_58 : decode cX3_roll 58 = .ok (.goto 14, 3) := by decide +kernel
theorem dX3_roll_61 : decode cX3_roll 61 = .ok (.iload_n 2, 1) := by decide +kernel
theorem dX3_roll_62 : decode cX3_roll 62 = .ok (.iload_n 1, 1) := by decide +kernel
theorem dX3_roll_63 : decode cX3_roll 63 = .ok (.iadd, 1) := by decide +kernel
theorem dX3_roll_64 : decode cX3_roll 64 = .ok (.aload_n 0, 1) := by decide +kernel
theorem dX3_roll_65 : decode cX3_roll 65 = .ok (.getfield 10, 3) := by decide +kernel
theorem dX3_roll_68 : decode cX3_roll 68 = .ok (.getfield 51, 3) := by decide +kernel
theorem dX3_roll_71 : decode cX3_roll 71 = .ok (.isub, 1) := by decide +kernel
theorem dX3_roll_72 : decode cX3_roll 72 = .ok (.istore_n 3, 1) := by decide +kernel
theorem dX3_roll_73 : decode cX3_roll 73 = .ok (.aload_n 0, 1) := by decide +kernel
theorem dX3_roll_74 : decode cX3_roll 74 = .ok (.getfield 27, 3) := by decide +kernel
theorem dX3_roll_77 : decode cX3_roll 77 = .ok (.iload_n 3, 1) := by decide +kernel
theorem dX3_roll_78 : decode cX3_roll 78 = .ok (.aload_n 0, 1) := by decide +kernel
theorem dX3_roll_79 : decode cX3_roll 79 = .ok (.getfield 10, 3) := by decide +kernel
theorem dX3_roll_82 : decode cX3_roll 82 = .ok (.getfield 58, 3) := by decide +kernel
theorem dX3_roll_85 : decode cX3_roll 85 = .ok (.iload_n 2, 1) := by decide +kernel
theorem dX3_roll_86 : decode cX3_roll 86 = .ok (.iaload, 1) := by decide +kernel
theorem dX3_roll_87 : decode cX3_roll 87 = .ok (.iastore, 1) := by decide +kernel
theorem dX3_roll_88 : decode cX3_roll 88 = .ok (.iinc 2 1, 3) := by decide +kernel
theorem dX3_roll_91 : decode cX3_roll 91 = .ok (.goto (-60), 3) := by decide +kernel
theorem dX3_roll_94 : decode cX3_roll 94 = .ok (.iconst 0, 1) := by decide +kernel
theorem dX3_roll_95 : decode cX3_roll 95 = .ok (.istore_n 2, 1) := by decide +kernel
theorem dX3_roll_96 : decode cX3_roll 96 = .ok (.iconst 0, 1) := by decide +kernel
theorem dX3_roll_97 : decode cX3_roll 97 = .ok (.istore_n 3, 1) := by decide +kernel
theorem dX3_roll_98 : decode cX3_roll 98 = .ok (.iload_n 3, 1) := by decide +kernel
theorem dX3_roll_99 : decode cX3_roll 99 = .ok (.aload_n 0, 1) := by decide +kernel
theorem dX3_roll_100 : decode cX3_roll 100 = .ok (.getfield 10, 3) := by decide +kernel
theorem dX3_roll_103 : decode cX3_roll 103 = .ok (.getfield 51, 3) := by decide +kernel
theorem dX3_roll_106 : decode cX3_roll 106 = .ok (.if_icmp .ge 50, 3) := by decide +kernel
theorem dX3_roll_109 : decode cX3_roll 109 = .ok (.iload_n 2, 1) := by decide +kernel
theorem dX3_roll_110 : decode cX3_roll 110 = .ok (.aload_n 0, 1) := by decide +kernel
theorem dX3_roll_111 : decode cX3_roll 111 = .ok (.getfield 27, 3) := by decide +kernel
theorem dX3_roll_114 : decode cX3_roll 114 = .ok (.iload_n 3, 1) := by decide +kernel
theorem dX3_roll_115 : decode cX3_roll 115 = .ok (.iaload, 1) := by decide +kernel
theorem dX3_roll_116 : decode cX3_roll 116 = .ok (.aload_n 0, 1) := by decide +kernel
theorem dX3_roll_117 : decode cX3_roll 117 = .ok (.getfield 10, 3) := by decide +kernel
theorem dX3_roll_120 : decode cX3_roll 120 = .ok (.getfield 58, 3) := by decide +kernel
theorem dX3_roll_123 : decode cX3_roll 123 = .ok (.iload_n 3, 1) := by decide +kernel
theorem dX3_roll_124 : decode cX3_roll 124 = .ok (.iaload, 1) := by decide +kernel
theorem dX3_roll_125 : decode cX3_roll 125 = .ok (.if_icmp .ne 7, 3) := by decide +kernel
theorem dX3_roll_128 : decode cX3_roll 128 = .ok (.iconst 0, 1) := by decide +kernel
theorem dX3_roll_129 : decode cX3_roll 129 = .ok (.goto 4, 3) := by decide +kernel
theorem dX3_roll_132 : decode cX3_roll 132 = .ok (.iconst 1, 1) := by decide +kernel
theorem dX3_roll_133 : decode cX3_roll 133 = .ok (.iadd, 1) := by decide +kernel
theorem dX3_roll_134 : decode cX3_roll 134 = .ok (.istore_n 2, 1) := by decide +kernel
theorem dX3_roll_135 : decode cX3_roll 135 = .ok (.aload_n 0, 1) := by decide +kernel
theorem dX3_roll_136 : decode cX3_roll 136 = .ok (.getfield 10, 3) := by decide +kernel
theorem dX3_roll_139 : decode cX3_roll 139 = .ok (.getfield 58, 3) := by decide +kernel
theorem dX3_roll_142 : decode cX3_roll 142 = .ok (.iload_n 3, 1) := by decide +kernel
theorem dX3_roll_143 : decode cX3_roll 143 = .ok (.aload_n 0, 1) := by decide +kernel
theorem dX3_roll_144 : decode cX3_roll 144 = .ok (.getfield 27, 3) := by decide +kernel
theorem dX3_roll_147 : decode cX3_roll 147 = .ok (.iload_n 3, 1) := by decide +kernel
theorem dX3_roll_148 : decode cX3_roll 148 = .ok (.iaload, 1) := by decide +kernel
theorem dX3_roll_149 : decode cX3_roll 149 = .ok (.iastore, 1) := by decide +kernel
theorem dX3_roll_150 : decode cX3_roll 150 = .ok (.iinc 3 1, 3) := by decide +kernel
theorem dX3_roll_153 : decode cX3_roll 153 = .ok (.goto (-55), 3) := by decide +kernel
theorem dX3_roll_156 : decode cX3_roll 156 = .ok (.iload_n 2, 1) := by decide +kernel
theorem dX3_roll_157 : decode cX3_roll 157 = .ok (.ireturn, 1) := by decide +kernel
set_option maxRecDepth 20000 in
theorem ggX3_undo_X2_copyFrom : GoodIn wsX3_undo wsX2_copyFrom := goodIn_r _ [12, 13, 14, 15, 16, 17, 18, 19, 20, 30, 31, 32, 33] (by decide +kernel) (by decide +kernel)
set_option maxRecDepth 20000 in
theorem gX3_undo_X2_copyFrom : GoodIn wsX3_undo (wsV RX3 152 RX2 yX2_copyFrom wsX2_copyFrom) := goodIn_app (goodIn_of _ (by decide +kernel)) ggX3_undo_X2_copyFrom
theorem dX3_undo_0 : decode cX3_undo 0 = .ok (.aload_n 0, 1) := by decide +kernel
theorem dX3_undo_1 : decode cX3_undo 1 = .ok (.getfield 144, 3) := by decide +kernel
theorem dX3_undo_4 : decode cX3_undo 4 = .ok (.ifCond .gt 13, 3) := by decide +kernel
theorem dX3_undo_7 : decode cX3_undo 7 = .ok (.new 63, 3) := by decide +kernel
theorem dX3_undo_10 : decode cX3_undo 10 = .ok (.dup, 1) := by decide +kernel
theorem dX3_undo_11 : decode cX3_undo 11 = .ok (.ldc 147, 2) := by decide +kernel
theorem dX3_undo_13 : decode cX3_undo 13 = .ok (.invokespecial 67, 3) := by decide +kernel
theorem dX3_undo_16 : decode cX3_undo 16 = .ok (.athrow, 1) := by decide +kernel
theorem dX3_undo_17 : decode cX3_undo 17 = .ok (.aload_n 0, 1) := by decide +kernel
theorem dX3_undo_18 : decode cX3_undo 18 = .ok (.dup, 1) := by decide +kernel
theorem dX3_undo_19 : decode cX3_undo 19 = .ok (.getfield 144, 3) := by decide +kernel
theorem dX3_undo_22 : decode cX3_undo 22 = .ok (.iconst 1, 1) := by decide +kernel
theorem dX3_undo_23 : decode cX3_undo 23 = .ok (.isub, 1) := by decide +kernel
theorem dX3_undo_24 : decode cX3_undo 24 = .ok (.putfield 144, 3) := by decide +kernel
theorem dX3_undo_27 : decode cX3_undo 27 = .ok (.aload_n 0, 1) := by decide +kernel
theorem dX3_undo_28 : decode cX3_undo 28 = .ok (.getfield 10, 3) := by decide +kernel
theorem dX3_undo_31 : decode cX3_undo 31 = .ok (.aload_n 0, 1) := by decide +kernel
theorem dX3_undo_32 : decode cX3_undo 32 = .ok (.getfield 16, 3) := by decide +kernel
theorem dX3_undo_35 : decode cX3_undo 35 = .ok (.aload_n 0, 1) := by decide +kernel
theorem dX3_undo_36 : decode cX3_undo 36 = .ok (.getfield 149, 3) := by decide +kernel
theorem dX3_undo_39 : decode cX3_undo 39 = .ok (.aload_n 0, 1) := by decide +kernel
theorem dX3_undo_40 : decode cX3_undo 40 = .ok (.getfield 144, 3) := by decide +kernel
theorem dX3_undo_43 : decode cX3_undo 43 = .ok (.iadd, 1) := by decide +kernel
theorem dX3_undo_44 : decode cX3_undo 44 = .ok (.bipush 6, 2) := by decide +kernel
theorem dX3_undo_46 : decode cX3_undo 46 = .ok (.irem, 1) := by decide +kernel
theorem dX3_undo_47 : decode cX3_undo 47 = .ok (.aaload, 1) := by decide +kernel
theorem dX3_undo_48 : decode cX3_undo 48 = .ok (.invokevirtual 152, 3) := by decide +kernel
theorem dX3_undo_51 : decode cX3_undo 51 = .ok (.aload_n 0, 1) := by decide +kernel
theorem dX3_undo_52 : decode cX3_undo 52 = .ok (.iconst 0, 1) := by decide +kernel
theorem dX3_undo_53 : decode cX3_undo 53 = .ok (.putfield 156, 3) := by decide +kernel
theorem dX3_undo_56 : decode cX3_undo 56 = .ok (.aload_n 0, 1) := by decide +kernel
theorem dX3_undo_57 : decode cX3_undo 57 = .ok (.getfield 144, 3) := by decide +kernel
theorem dX3_undo_60 : decode cX3_undo 60 = .ok (.ireturn, 1) := by decide +kernel
set_option maxRecDepth 20000 in
theorem ggX3_place_X2_hasPlace : GoodIn wsX3_place wsX2_hasPlace := goodIn_r _ [11, 12, 73, 74, 75, 76] (by decide +kernel) (by decide +kernel)
set_option maxRecDepth 20000 in
theorem gX3_place_X2_hasPlace : GoodIn wsX3_place (wsV RX3 72 RX2 yX2_hasPlace wsX2_hasPlace) := goodIn_app (goodIn_of _ (by decide +kernel)) ggX3_place_X2_hasPlace
set_option maxRecDepth 20000 in
theorem ggX3_place_X2_isOpen : GoodIn wsX3_place wsX2_isOpen := goodIn_r _ [16, 17, 73, 74, 75, 76] (by decide +kernel) (by decide +kernel)
set_option maxRecDepth 20000 in
theorem gX3_place_X2_isOpen : GoodIn wsX3_place (wsV RX3 81 RX2 yX2_isOpen wsX2_isOpen) := goodIn_app (goodIn_of _ (by decide +kernel)) ggX3_place_X2_isOpen
set_option maxRecDepth 20000 in
theorem ggX3_place_X2_unsureness : GoodIn wsX3_place wsX2_unsureness := goodIn_r _ [21, 22, 23, 12, 24, 25, 73, 74, 75, 76] (by decide +kernel) (by decide +kernel)
set_option maxRecDepth 20000 in
theorem gX3_place_X2_unsureness : GoodIn wsX3_place (wsV RX3 160 RX2 yX2_unsureness wsX2_unsureness) := goodIn_app (goodIn_of _ (by decide +kernel)) ggX3_place_X2_unsureness
set_option maxRecDepth 20000 in
theorem ggX3_place_X2_sureRank : GoodIn wsX3_place wsX2_sureRank := goodIn_r _ [29, 12, 30, 19, 20, 10, 21, 22, 23, 24, 25, 73, 74, 75, 76] (by decide +kernel) (by decide +kernel)
set_option maxRecDepth 20000 in
theorem gX3_place_X2_sureRank : GoodIn wsX3_place (wsV RX3 68 RX2 yX2_sureRank wsX2_sureRank) := goodIn_app (goodIn_of _ (by decide +kernel)) ggX3_place_X2_sureRank
set_option maxRecDepth 20000 in
theorem ggX3_place_X2_openPlacesBefore : GoodIn wsX3_place wsX2_openPlacesBefore := goodIn_r _ [34, 17, 35, 36, 37, 38, 39, 40, 41, 73, 74, 75, 76] (by decide +kernel) (by decide +kernel)
set_option maxRecDepth 20000 in
theorem gX3_place_X2_openPlacesBefore : GoodIn wsX3_place (wsV RX3 163 RX2 yX2_openPlacesBefore wsX2_openPlacesBefore) := goodIn_app (goodIn_of _ (by decide +kernel)) ggX3_place_X2_openPlacesBefore
set_option maxRecDepth 20000 in
theorem ggX3_place_X2_isForCheckBit : GoodIn wsX3_place wsX2_isForCheckBit := goodIn_r _ [45, 46, 14, 15, 10, 16, 17, 47, 32, 33, 34, 35, 36, 37, 38, 39, 40, 41, 48, 49, 50, 51, 52, 53, 54, 55, 56, 57, 58, 59, 22, 60, 61, 62, 63, 73, 74, 75, 76] (by decide +kernel) (by decide +kernel)
set_option maxRecDepth 20000 in
theorem gX3_place_X2_isForCheckBit : GoodIn wsX3_place (wsV RX3 166 RX2 yX2_isForCheckBit wsX2_isForCheckBit) := goodIn_app (goodIn_of _ (by decide +kernel)) ggX3_place_X2_isForCheckBit
theorem dX3_place_0 : decode cX3_place 0 = .ok (.aload_n 0, 1) := by decide +kernel
theorem dX3_place_1 : decode cX3_place 1 = .ok (.getfield 10, 3) := by decide +kernel
theorem dX3_place_4 : decode cX3_place 4 = .ok (.iload_n 1, 1) := by decide +kernel
theorem dX3_place_5 : decode cX3_place 5 = .ok (.invokevirtual 72, 3) := by decide +kernel
theorem dX3_place_8 : decode cX3_place 8 = .ok (.ifCond .ne 13, 3) := by decide +kernel
theorem dX3_place_11 : decode cX3_place 11 = .ok (.new 76, 3) := by decide +kernel
theorem dX3_place_14 : decode cX3_place 14 = .ok (.dup, 1) := by decide +kernel
theorem dX3_place_15 : decode cX3_place 15 = .ok (.ldc 78, 2) := by decide +kernel
theorem dX3_place_17 : decode cX3_place 17 = .ok (.invokespecial 80, 3) := by decide +kernel
theorem dX3_place_20 : decode cX3_place 20 = .ok (.athrow, 1) := by decide +kernel
theorem dX3_place_21 : decode cX3_place 21 = .ok (.iload_n 2, 1) := by decide +kernel
theorem dX3_place_22 : decode cX3_place 22 = .ok (.tableswitch 127 0 5 #[38, 55, 64, 73, 86, 110], 38) := by decide +kernel
theorem dX3_place_60 : decode cX3_place 60 = .ok (.aload_n 0, 1) := by decide +kernel
theorem dX3_place_61 : decode cX3_place 61 = .ok (.getfield 10, 3) := by decide +kernel
theorem dX3_place_64 : decode cX3_place 64 = .ok (.iload_n 1, 1) := by decide +kernel
theorem dX3_place_65 : decode cX3_place 65 = .ok (.invokevirtual 81, 3) := by decide +kernel
theorem dX3_place_68 : decode cX3_place 68 = .ok (.ifCond .eq 7, 3) := by decide +kernel
theorem dX3_place_71 : decode cX3_place 71 = .ok (.iconst 1, 1) := by decide +kernel
theorem dX3_place_72 : decode cX3_place 72 = .ok (.goto 4, 3) := by decide +kernel
theorem dX3_place_75 : decode cX3_place 75 = .ok (.iconst 0, 1) := by decide +kernel
theorem dX3_place_76 : decode cX3_place 76 = .ok (.ireturn, 1) := by decide +kernel
theorem dX3_place_77 : decode cX3_place 77 = .ok (.aload_n 0, 1) := by decide +kernel
theorem dX3_place_78 : decode cX3_place 78 = .ok (.getfield 10, 3) := by decide +kernel
theorem dX3_place_81 : decode cX3_place 81 = .ok (.iload_n 1, 1) := by decide +kernel
theorem dX3_place_82 : decode cX3_place 82 = .ok (.invokevirtual 160, 3) := by decide +kernel
theorem dX3_place_85 : decode cX3_place 85 = .ok (.ireturn, 1) := by decide +kernel
theorem dX3_place_86 : decode cX3_place 86 = .ok (.aload_n 0, 1) := by decide +kernel
theorem dX3_place_87 : decode cX3_place 87 = .ok (.getfield 10, 3) := by decide +kernel
theorem dX3_place_90 : decode cX3_place 90 = .ok (.iload_n 1, 1) := by decide +kernel
theorem dX3_place_91 : decode cX3_place 91 = .ok (.invokevirtual 68, 3) := by decide +kernel
theorem dX3_place_94 : decode cX3_place 94 = .ok (.ireturn, 1) := by decide +kernel
theorem dX3_place_95 : decode cX3_place 95 = .ok (.aload_n 0, 1) := by decide +kernel
theorem dX3_place_96 : decode cX3_place 96 = .ok (.getfield 10, 3) := by decide +kernel
theorem dX3_place_99 : decode cX3_place 99 = .ok (.getfield 58, 3) := by decide +kernel
theorem dX3_place_102 : decode cX3_place 102 = .ok (.iload_n 1, 1) := by decide +kernel
theorem dX3_place_103 : decode cX3_place 103 = .ok (.iaload, 1) := by decide +kernel
theorem dX3_place_104 : decode cX3_place 104 = .ok (.bipush 100, 2) := by decide +kernel
theorem dX3_place_106 : decode cX3_place 106 = .ok (.iadd, 1) := by decide +kernel
theorem dX3_place_107 : decode cX3_place 107 = .ok (.ireturn, 1) := by decide +kernel
theorem dX3_place_108 : decode cX3_place 108 = .ok (.aload_n 0, 1) := by decide +kernel
theorem dX3_place_109 : decode cX3_place 109 = .ok (.getfield 10, 3) := by decide +kernel
theorem dX3_place_112 : decode cX3_place 112 = .ok (.iload_n 1, 1) := by decide +kernel
theorem dX3_place_113 : decode cX3_place 113 = .ok (.invokevirtual 81, 3) := by decide +kernel
theorem dX3_place_116 : decode cX3_place 116 = .ok (.ifCond .eq 14, 3) := by decide +kernel
theorem dX3_place_119 : decode cX3_place 119 = .ok (.aload_n 0, 1) := by decide +kernel
theorem dX3_place_120 : decode cX3_place 120 = .ok (.getfield 10, 3) := by decide +kernel
theorem dX3_place_123 : decode cX3_place 123 = .ok (.iload_n 1, 1) := by decide +kernel
theorem dX3_place_124 : decode cX3_place 124 = .ok (.invokevirtual 163, 3) := by decide +kernel
theorem dX3_place_127 : decode cX3_place 127 = .ok (.goto 4, 3) := by decide +kernel
theorem dX3_place_130 : decode cX3_place 130 = .ok (.iconst (-1), 1) := by decide +kernel
theorem dX3_place_131 : decode cX3_place 131 = .ok (.ireturn, 1) := by decide +kernel
theorem dX3_place_132 : decode cX3_place 132 = .ok (.aload_n 0, 1) := by decide +kernel
theorem dX3_place_133 : decode cX3_place 133 = .ok (.getfield 10, 3) := by decide +kernel
theorem dX3_place_136 : decode cX3_place 136 = .ok (.iload_n 1, 1) := by decide +kernel
theorem dX3_place_137 : decode cX3_place 137 = .ok (.invokevirtual 166, 3) := by decide +kernel
theorem dX3_place_140 : decode cX3_place 140 = .ok (.ifCond .eq 7, 3) := by decide +kernel
theorem dX3_place_143 : decode cX3_place 143 = .ok (.iconst 1, 1) := by decide +kernel
theorem dX3_place_144 : decode cX3_place 144 = .ok (.goto 4, 3) := by decide +kernel
theorem dX3_place_147 : decode cX3_place 147 = .ok (.iconst 0, 1) := by decide +kernel
theorem dX3_place_148 : decode cX3_place 148 = .ok (.ireturn, 1) := by decide +kernel
theorem dX3_place_149 : decode cX3_place 149 = .ok (.new 41, 3) := by decide +kernel
theorem dX3_place_152 : decode cX3_place 152 = .ok (.dup, 1) := by decide +kernel
theorem dX3_place_153 : decode cX3_place 153 = .ok (.ldc 169, 2) := by decide +kernel
theorem dX3_place_155 : decode cX3_place 155 = .ok (.invokespecial 45, 3) := by decide +kernel
theorem dX3_place_158 : decode cX3_place 158 = .ok (.athrow, 1) := by decide +kernel
set_option maxRecDepth 20000 in
theorem ggX3_code_X3_coded : GoodIn wsX3_code wsX3_coded := goodIn_r _ [9, 10] (by decide +kernel) (by decide +kernel)
set_option maxRecDepth 20000 in
theorem gX3_code_X3_coded : GoodIn wsX3_code (va_wsS RX3 174 yX3_coded wsX3_coded) := goodIn_app (goodIn_of _ (by decide +kernel)) ggX3_code_X3_coded
theorem dX3_code_0 : decode cX3_code 0 = .ok (.iload_n 1, 1) := by decide +kernel
theorem dX3_code_1 : decode cX3_code 1 = .ok (.ifCond .lt 9, 3) := by decide +kernel
theorem dX3_code_4 : decode cX3_code 4 = .ok (.iload_n 1, 1) := by decide +kernel
theorem dX3_code_5 : decode cX3_code 5 = .ok (.ldc 171, 2) := by decide +kernel
theorem dX3_code_7 : decode cX3_code 7 = .ok (.if_icmp .le 13, 3) := by decide +kernel
theorem dX3_code_10 : decode cX3_code 10 = .ok (.new 41, 3) := by decide +kernel
theorem dX3_code_13 : decode cX3_code 13 = .ok (.dup, 1) := by decide +kernel
theorem dX3_code_14 : decode cX3_code 14 = .ok (.ldc 172, 2) := by decide +kernel
theorem dX3_code_16 : decode cX3_code 16 = .ok (.invokespecial 45, 3) := by decide +kernel
theorem dX3_code_19 : decode cX3_code 19 = .ok (.athrow, 1) := by decide +kernel
theorem dX3_code_20 : decode cX3_code 20 = .ok (.iload_n 1, 1) := by decide +kernel
theorem dX3_code_21 : decode cX3_code 21 = .ok (.aload_n 0, 1) := by decide +kernel
theorem dX3_code_22 : decode cX3_code 22 = .ok (.getfield 10, 3) := by decide +kernel
theorem dX3_code_25 : decode cX3_code 25 = .ok (.getfield 51, 3) := by decide +kernel
theorem dX3_code_28 : decode cX3_code 28 = .ok (.invokestatic 174, 3) := by decide +kernel
theorem dX3_code_31 : decode cX3_code 31 = .ok (.ireturn, 1) := by decide +kernel
set_option maxRecDepth 20000 in
theorem ggX3_word_X2_hasRoomFor : GoodIn wsX3_word wsX2_hasRoomFor := goodIn_r _ [8, 9, 10, 11, 7, 12, 13, 14, 15, 16, 17, 18, 19, 20, 21, 22, 23, 24, 25, 26, 27, 28, 29, 30, 31, 32, 33, 62, 63, 64, 65] (by decide +kernel) (by decide +kernel)
set_option maxRecDepth 20000 in
theorem gX3_word_X2_hasRoomFor : GoodIn wsX3_word (wsV RX3 97 RX2 yX2_hasRoomFor wsX2_hasRoomFor) := goodIn_app (goodIn_of _ (by decide +kernel)) ggX3_word_X2_hasRoomFor
set_option maxRecDepth 20000 in
theorem ggX3_word_X2_withChecks : GoodIn wsX3_word wsX2_withChecks := goodIn_r _ [37, 9, 10, 11, 7, 12, 13, 14, 15, 16, 17, 18, 19, 20, 21, 22, 23, 24, 25, 26, 27, 28, 29, 30, 31, 32, 33, 38, 39, 40, 62, 63, 64, 65] (by decide +kernel) (by decide +kernel)
