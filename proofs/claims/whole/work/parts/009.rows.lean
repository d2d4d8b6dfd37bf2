theorem dX4_send_41 : decode cX4_send 41 = .ok (.aload_n 0, 1) := by decide +kernel
theorem dX4_send_42 : decode cX4_send 42 = .ok (.getfield 7, 3) := by decide +kernel
theorem dX4_send_45 : decode cX4_send 45 = .ok (.bipush 6, 2) := by decide +kernel
theorem dX4_send_47 : decode cX4_send 47 = .ok (.iload_n 3, 1) := by decide +kernel
theorem dX4_send_48 : decode cX4_send 48 = .ok (.iadd, 1) := by decide +kernel
theorem dX4_send_49 : decode cX4_send 49 = .ok (.iload_n 2, 1) := by decide +kernel
theorem dX4_send_50 : decode cX4_send 50 = .ok (.iload_n 3, 1) := by decide +kernel
theorem dX4_send_51 : decode cX4_send 51 = .ok (.ishr, 1) := by decide +kernel
theorem dX4_send_52 : decode cX4_send 52 = .ok (.iconst 1, 1) := by decide +kernel
theorem dX4_send_53 : decode cX4_send 53 = .ok (.iand, 1) := by decide +kernel
theorem dX4_send_54 : decode cX4_send 54 = .ok (.iconst 1, 1) := by decide +kernel
theorem dX4_send_55 : decode cX4_send 55 = .ok (.if_icmp .ne 13, 3) := by decide +kernel
theorem dX4_send_58 : decode cX4_send 58 = .ok (.aload_n 0, 1) := by decide +kernel
theorem dX4_send_59 : decode cX4_send 59 = .ok (.getfield 7, 3) := by decide +kernel
theorem dX4_send_62 : decode cX4_send 62 = .ok (.iconst 5, 1) := by decide +kernel
theorem dX4_send_63 : decode cX4_send 63 = .ok (.iaload, 1) := by decide +kernel
theorem dX4_send_64 : decode cX4_send 64 = .ok (.ineg, 1) := by decide +kernel
theorem dX4_send_65 : decode cX4_send 65 = .ok (.goto 9, 3) := by decide +kernel
theorem dX4_send_68 : decode cX4_send 68 = .ok (.aload_n 0, 1) := by decide +kernel
theorem dX4_send_69 : decode cX4_send 69 = .ok (.getfield 7, 3) := by decide +kernel
theorem dX4_send_72 : decode cX4_send 72 = .ok (.iconst 5, 1) := by decide +kernel
theorem dX4_send_73 : decode cX4_send 73 = .ok (.iaload, 1) := by decide +kernel
theorem dX4_send_74 : decode cX4_send 74 = .ok (.iastore, 1) := by decide +kernel
theorem dX4_send_75 : decode cX4_send 75 = .ok (.iinc 3 1, 3) := by decide +kernel
theorem dX4_send_78 : decode cX4_send 78 = .ok (.goto (-47), 3) := by decide +kernel
theorem dX4_send_81 : decode cX4_send 81 = .ok (.iload_n 2, 1) := by decide +kernel
theorem dX4_send_82 : decode cX4_send 82 = .ok (.ireturn, 1) := by decide +kernel
theorem dX4_sign_0 : decode cX4_sign 0 = .ok (.iload_n 0, 1) := by decide +kernel
theorem dX4_sign_1 : decode cX4_sign 1 = .ok (.ifCond .le 7, 3) := by decide +kernel
theorem dX4_sign_4 : decode cX4_sign 4 = .ok (.iconst 1, 1) := by decide +kernel
theorem dX4_sign_5 : decode cX4_sign 5 = .ok (.goto 12, 3) := by decide +kernel
theorem dX4_sign_8 : decode cX4_sign 8 = .ok (.iload_n 0, 1) := by decide +kernel
theorem dX4_sign_9 : decode cX4_sign 9 = .ok (.ifCond .ge 7, 3) := by decide +kernel
theorem dX4_sign_12 : decode cX4_sign 12 = .ok (.iconst (-1), 1) := by decide +kernel
theorem dX4_sign_13 : decode cX4_sign 13 = .ok (.goto 4, 3) := by decide +kernel
theorem dX4_sign_16 : decode cX4_sign 16 = .ok (.iconst 0, 1) := by decide +kernel
theorem dX4_sign_17 : decode cX4_sign 17 = .ok (.ireturn, 1) := by decide +kernel
set_option maxRecDepth 20000 in
theorem ggX4_receive_X4_isPlace : GoodIn wsX4_receive wsX4_isPlace := goodIn_r _ [7, 2, 8, 9, 6, 10, 24, 25, 26, 27, 28, 29, 30, 31, 32, 33, 34, 35, 36, 37, 38, 39, 40, 41] (by decide +kernel) (by decide +kernel)
set_option maxRecDepth 20000 in
theorem gX4_receive_X4_isPlace : GoodIn wsX4_receive (wsV RX4 137 RX4 yX4_isPlace wsX4_isPlace) := goodIn_app (goodIn_of _ (by decide +kernel)) ggX4_receive_X4_isPlace
set_option maxRecDepth 20000 in
theorem ggX4_receive_X4_fails : GoodIn wsX4_receive wsX4_fails := goodIn_r _ [14, 1, 24, 25, 26, 27, 28, 29, 30, 31, 32, 33, 34, 35, 36, 37, 38, 39, 40, 41] (by decide +kernel) (by decide +kernel)
set_option maxRecDepth 20000 in
theorem gX4_receive_X4_fails : GoodIn wsX4_receive (wsV RX4 128 RX4 yX4_fails wsX4_fails) := goodIn_app (goodIn_of _ (by decide +kernel)) ggX4_receive_X4_fails
set_option maxRecDepth 20000 in
theorem ggX4_receive_X4_in : GoodIn wsX4_receive wsX4_in := goodIn_r _ [10] (by decide +kernel) (by decide +kernel)
set_option maxRecDepth 20000 in
theorem gX4_receive_X4_in : GoodIn wsX4_receive (va_wsS RX4 44 yX4_in wsX4_in) := goodIn_app (goodIn_of _ (by decide +kernel)) ggX4_receive_X4_in
set_option maxRecDepth 20000 in
theorem ggX4_receive_X4_saves : GoodIn wsX4_receive wsX4_saves := goodIn_r _ [18, 19, 20, 2, 24, 25, 26, 27, 28, 29, 30, 31, 32, 33, 34, 35, 36, 37, 38, 39, 40, 41] (by decide +kernel) (by decide +kernel)
set_option maxRecDepth 20000 in
theorem gX4_receive_X4_saves : GoodIn wsX4_receive (wsV RX4 131 RX4 yX4_saves wsX4_saves) := goodIn_app (goodIn_of _ (by decide +kernel)) ggX4_receive_X4_saves
set_option maxRecDepth 20000 in
theorem ggX4_receive_X4_sign : GoodIn wsX4_receive wsX4_sign := goodIn_r _ [23] (by decide +kernel) (by decide +kernel)
set_option maxRecDepth 20000 in
theorem gX4_receive_X4_sign : GoodIn wsX4_receive (va_wsS RX4 150 yX4_sign wsX4_sign) := goodIn_app (goodIn_of _ (by decide +kernel)) ggX4_receive_X4_sign
theorem dX4_receive_0 : decode cX4_receive 0 = .ok (.aload_n 0, 1) := by decide +kernel
theorem dX4_receive_1 : decode cX4_receive 1 = .ok (.iconst 0, 1) := by decide +kernel
theorem dX4_receive_2 : decode cX4_receive 2 = .ok (.putfield 40, 3) := by decide +kernel
theorem dX4_receive_5 : decode cX4_receive 5 = .ok (.aload_n 0, 1) := by decide +kernel
theorem dX4_receive_6 : decode cX4_receive 6 = .ok (.iload_n 1, 1) := by decide +kernel
theorem dX4_receive_7 : decode cX4_receive 7 = .ok (.invokevirtual 137, 3) := by decide +kernel
theorem dX4_receive_10 : decode cX4_receive 10 = .ok (.ifCond .ne 9, 3) := by decide +kernel
theorem dX4_receive_13 : decode cX4_receive 13 = .ok (.aload_n 0, 1) := by decide +kernel
theorem dX4_receive_14 : decode cX4_receive 14 = .ok (.iconst 1, 1) := by decide +kernel
theorem dX4_receive_15 : decode cX4_receive 15 = .ok (.invokevirtual 128, 3) := by decide +kernel
theorem dX4_receive_18 : decode cX4_receive 18 = .ok (.ireturn, 1) := by decide +kernel
theorem dX4_receive_19 : decode cX4_receive 19 = .ok (.iload_n 2, 1) := by decide +kernel
theorem dX4_receive_20 : decode cX4_receive 20 = .ok (.bipush (-99), 2) := by decide +kernel
theorem dX4_receive_22 : decode cX4_receive 22 = .ok (.bipush 99, 2) := by decide +kernel
theorem dX4_receive_24 : decode cX4_receive 24 = .ok (.invokestatic 44, 3) := by decide +kernel
theorem dX4_receive_27 : decode cX4_receive 27 = .ok (.ifCond .ne 9, 3) := by decide +kernel
theorem dX4_receive_30 : decode cX4_receive 30 = .ok (.aload_n 0, 1) := by decide +kernel
theorem dX4_receive_31 : decode cX4_receive 31 = .ok (.iconst 2, 1) := by decide +kernel
theorem dX4_receive_32 : decode cX4_receive 32 = .ok (.invokevirtual 128, 3) := by decide +kernel
theorem dX4_receive_35 : decode cX4_receive 35 = .ok (.ireturn, 1) := by decide +kernel
theorem dX4_receive_36 : decode cX4_receive 36 = .ok (.aload_n 0, 1) := by decide +kernel
theorem dX4_receive_37 : decode cX4_receive 37 = .ok (.invokevirtual 131, 3) := by decide +kernel
theorem dX4_receive_40 : decode cX4_receive 40 = .ok (.aload_n 0, 1) := by decide +kernel
theorem dX4_receive_41 : decode cX4_receive 41 = .ok (.getfield 7, 3) := by decide +kernel
theorem dX4_receive_44 : decode cX4_receive 44 = .ok (.bipush 6, 2) := by decide +kernel
theorem dX4_receive_46 : decode cX4_receive 46 = .ok (.iload_n 1, 1) := by decide +kernel
theorem dX4_receive_47 : decode cX4_receive 47 = .ok (.iadd, 1) := by decide +kernel
theorem dX4_receive_48 : decode cX4_receive 48 = .ok (.iaload, 1) := by decide +kernel
theorem dX4_receive_49 : decode cX4_receive 49 = .ok (.istore_n 3, 1) := by decide +kernel
theorem dX4_receive_50 : decode cX4_receive 50 = .ok (.aload_n 0, 1) := by decide +kernel
theorem dX4_receive_51 : decode cX4_receive 51 = .ok (.getfield 7, 3) := by decide +kernel
theorem dX4_receive_54 : decode cX4_receive 54 = .ok (.bipush 6, 2) := by decide +kernel
theorem dX4_receive_56 : decode cX4_receive 56 = .ok (.iload_n 1, 1) := by decide +kernel
theorem dX4_receive_57 : decode cX4_receive 57 = .ok (.iadd, 1) := by decide +kernel
theorem dX4_receive_58 : decode cX4_receive 58 = .ok (.iload_n 2, 1) := by decide +kernel
theorem dX4_receive_59 : decode cX4_receive 59 = .ok (.iastore, 1) := by decide +kernel
theorem dX4_receive_60 : decode cX4_receive 60 = .ok (.iload_n 3, 1) := by decide +kernel
theorem dX4_receive_61 : decode cX4_receive 61 = .ok (.invokestatic 150, 3) := by decide +kernel
theorem dX4_receive_64 : decode cX4_receive 64 = .ok (.iload_n 2, 1) := by decide +kernel
theorem dX4_receive_65 : decode cX4_receive 65 = .ok (.invokestatic 150, 3) := by decide +kernel
theorem dX4_receive_68 : decode cX4_receive 68 = .ok (.if_icmp .ne 7, 3) := by decide +kernel
theorem dX4_receive_71 : decode cX4_receive 71 = .ok (.iconst 0, 1) := by decide +kernel
theorem dX4_receive_72 : decode cX4_receive 72 = .ok (.goto 4, 3) := by decide +kernel
theorem dX4_receive_75 : decode cX4_receive 75 = .ok (.iconst 1, 1) := by decide +kernel
theorem dX4_receive_76 : decode cX4_receive 76 = .ok (.ireturn, 1) := by decide +kernel
set_option maxRecDepth 20000 in
theorem ggX4_flip_X4_isPlace : GoodIn wsX4_flip wsX4_isPlace := goodIn_r _ [7, 2, 8, 9, 6, 10, 24, 25, 26, 27, 28, 29, 30, 31, 32, 33, 34, 35, 36, 37, 38, 39, 40, 41] (by decide +kernel) (by decide +kernel)
set_option maxRecDepth 20000 in
theorem gX4_flip_X4_isPlace : GoodIn wsX4_flip (wsV RX4 137 RX4 yX4_isPlace wsX4_isPlace) := goodIn_app (goodIn_of _ (by decide +kernel)) ggX4_flip_X4_isPlace
set_option maxRecDepth 20000 in
theorem ggX4_flip_X4_fails : GoodIn wsX4_flip wsX4_fails := goodIn_r _ [14, 1, 24, 25, 26, 27, 28, 29, 30, 31, 32, 33, 34, 35, 36, 37, 38, 39, 40, 41] (by decide +kernel) (by decide +kernel)
set_option maxRecDepth 20000 in
theorem gX4_flip_X4_fails : GoodIn wsX4_flip (wsV RX4 128 RX4 yX4_fails wsX4_fails) := goodIn_app (goodIn_of _ (by decide +kernel)) ggX4_flip_X4_fails
set_option maxRecDepth 20000 in
theorem ggX4_flip_X4_saves : GoodIn wsX4_flip wsX4_saves := goodIn_r _ [18, 19, 20, 2, 24, 25, 26, 27, 28, 29, 30, 31, 32, 33, 34, 35, 36, 37, 38, 39, 40, 41] (by decide +kernel) (by decide +kernel)
set_option maxRecDepth 20000 in
theorem gX4_flip_X4_saves : GoodIn wsX4_flip (wsV RX4 131 RX4 yX4_saves wsX4_saves) := goodIn_app (goodIn_of _ (by decide +kernel)) ggX4_flip_X4_saves
set_option maxRecDepth 20000 in
theorem ggX4_flip_X4_size : GoodIn wsX4_flip wsX4_size := goodIn_r _ [23] (by decide +kernel) (by decide +kernel)
set_option maxRecDepth 20000 in
theorem gX4_flip_X4_size : GoodIn wsX4_flip (va_wsS RX4 93 yX4_size wsX4_size) := goodIn_app (goodIn_of _ (by decide +kernel)) ggX4_flip_X4_size
theorem dX4_flip_0 : decode cX4_flip 0 = .ok (.aload_n 0, 1) := by decide +kernel
theorem dX4_flip_1 : decode cX4_flip 1 = .ok (.iconst 0, 1) := by decide +kernel
theorem dX4_flip_2 : decode cX4_flip 2 = .ok (.putfield 40, 3) := by decide +kernel
theorem dX4_flip_5 : decode cX4_flip 5 = .ok (.aload_n 0, 1) := by decide +kernel
theorem dX4_flip_6 : decode cX4_flip 6 = .ok (.iload_n 1, 1) := by decide +kernel
theorem dX4_flip_7 : decode cX4_flip 7 = .ok (.invokevirtual 137, 3) := by decide +kernel
theorem dX4_flip_10 : decode cX4_flip 10 = .ok (.ifCond .ne 9, 3) := by decide +kernel
theorem dX4_flip_13 : decode cX4_flip 13 = .ok (.aload_n 0, 1) := by decide +kernel
theorem dX4_flip_14 : decode cX4_flip 14 = .ok (.iconst 1, 1) := by decide +kernel
theorem dX4_flip_15 : decode cX4_flip 15 = .ok (.invokevirtual 128, 3) := by decide +kernel
theorem dX4_flip_18 : decode cX4_flip 18 = .ok (.ireturn, 1) := by decide +kernel
theorem dX4_flip_19 : decode cX4_flip 19 = .ok (.aload_n 0, 1) := by decide +kernel
theorem dX4_flip_20 : decode cX4_flip 20 = .ok (.invokevirtual 131, 3) := by decide +kernel
theorem dX4_flip_23 : decode cX4_flip 23 = .ok (.aload_n 0, 1) := by decide +kernel
theorem dX4_flip_24 : decode cX4_flip 24 = .ok (.getfield 7, 3) := by decide +kernel
theorem dX4_flip_27 : decode cX4_flip 27 = .ok (.bipush 6, 2) := by decide +kernel
theorem dX4_flip_29 : decode cX4_flip 29 = .ok (.iload_n 1, 1) := by decide +kernel
theorem dX4_flip_30 : decode cX4_flip 30 = .ok (.iadd, 1) := by decide +kernel
theorem dX4_flip_31 : decode cX4_flip 31 = .ok (.aload_n 0, 1) := by decide +kernel
theorem dX4_flip_32 : decode cX4_flip 32 = .ok (.getfield 7, 3) := by decide +kernel
theorem dX4_flip_35 : decode cX4_flip 35 = .ok (.bipush 6, 2) := by decide +kernel
theorem dX4_flip_37 : decode cX4_flip 37 = .ok (.iload_n 1, 1) := by decide +kernel
theorem dX4_flip_38 : decode cX4_flip 38 = .ok (.iadd, 1) := by decide +kernel
theorem dX4_flip_39 : decode cX4_flip 39 = .ok (.iaload, 1) := by decide +kernel
theorem dX4_flip_40 : decode cX4_flip 40 = .ok (.ineg, 1) := by decide +kernel
theorem dX4_flip_41 : decode cX4_flip 41 = .ok (.iastore, 1) := by decide +kernel
theorem dX4_flip_42 : decode cX4_flip 42 = .ok (.aload_n 0, 1) := by decide +kernel
theorem dX4_flip_43 : decode cX4_flip 43 = .ok (.getfield 7, 3) := by decide +kernel
theorem dX4_flip_46 : decode cX4_flip 46 = .ok (.bipush 6, 2) := by decide +kernel
theorem dX4_flip_48 : decode cX4_flip 48 = .ok (.iload_n 1, 1) := by decide +kernel
theorem dX4_flip_49 : decode cX4_flip 49 = .ok (.iadd, 1) := by decide +kernel
theorem dX4_flip_50 : decode cX4_flip 50 = .ok (.iaload, 1) := by decide +kernel
theorem dX4_flip_51 : decode cX4_flip 51 = .ok (.invokestatic 93, 3) := by decide +kernel
theorem dX4_flip_54 : decode cX4_flip 54 = .ok (.ireturn, 1) := by decide +kernel
set_option maxRecDepth 20000 in
theorem ggX4_roll_X4_in : GoodIn wsX4_roll wsX4_in := goodIn_r _ [7] (by decide +kernel) (by decide +kernel)
set_option maxRecDepth 20000 in
theorem gX4_roll_X4_in : GoodIn wsX4_roll (va_wsS RX4 44 yX4_in wsX4_in) := goodIn_app (goodIn_of _ (by decide +kernel)) ggX4_roll_X4_in
set_option maxRecDepth 20000 in
theorem ggX4_roll_X4_fails : GoodIn wsX4_roll wsX4_fails := goodIn_r _ [11, 1, 18, 19, 20, 21, 22, 23, 24, 25, 26, 27, 28, 29, 30, 31, 32, 33, 34, 35] (by decide +kernel) (by decide +kernel)
set_option maxRecDepth 20000 in
theorem gX4_roll_X4_fails : GoodIn wsX4_roll (wsV RX4 128 RX4 yX4_fails wsX4_fails) := goodIn_app (goodIn_of _ (by decide +kernel)) ggX4_roll_X4_fails
set_option maxRecDepth 20000 in
theorem ggX4_roll_X4_saves : GoodIn wsX4_roll wsX4_saves := goodIn_r _ [15, 16, 17, 2, 18, 19, 20, 21, 22, 23, 24, 25, 26, 27, 28, 29, 30, 31, 32, 33, 34, 35] (by decide +kernel) (by decide +kernel)
set_option maxRecDepth 20000 in
theorem gX4_roll_X4_saves : GoodIn wsX4_roll (wsV RX4 131 RX4 yX4_saves wsX4_saves) := goodIn_app (goodIn_of _ (by decide +kernel)) ggX4_roll_X4_saves
theorem dX4_roll_0 : decode cX4_roll 0 = .ok (.aload_n 0, 1) := by decide +kernel
theorem dX4_roll_1 : decode cX4_roll 1 = .ok (.iconst 0, 1) := by decide +kernel
theorem dX4_roll_2 : decode cX4_roll 2 = .ok (.putfield 40, 3) := by decide +kernel
theorem dX4_roll_5 : decode cX4_roll 5 = .ok (.iload_n 1, 1) := by decide +kernel
theorem dX4_roll_6 : decode cX4_roll 6 = .ok (.iconst 0, 1) := by decide +kernel
theorem dX4_roll_7 : decode cX4_roll 7 = .ok (.aload_n 0, 1) := by decide +kernel
theorem dX4_roll_8 : decode cX4_roll 8 = .ok (.getfield 7, 3) := by decide +kernel
theorem dX4_roll_11 : decode cX4_roll 11 = .ok (.iconst 0, 1) := by decide +kernel
theorem dX4_roll_12 : decode cX4_roll 12 = .ok (.iaload, 1) := by decide +kernel
theorem dX4_roll_13 : decode cX4_roll 13 = .ok (.iconst 1, 1) := by decide +kernel
theorem dX4_roll_14 : decode cX4_roll 14 = .ok (.isub, 1) := by decide +kernel
theorem dX4_roll_15 : decode cX4_roll 15 = .ok (.invokestatic 44, 3) := by decide +kernel
theorem dX4_roll_18 : decode cX4_roll 18 = .ok (.ifCond .ne 9, 3) := by decide +kernel
theorem dX4_roll_21 : decode cX4_roll 21 = .ok (.aload_n 0, 1) := by decide +kernel
theorem dX4_roll_22 : decode cX4_roll 22 = .ok (.iconst 1, 1) := by decide +kernel
theorem dX4_roll_23 : decode cX4_roll 23 = .ok (.invokevirtual 128, 3) := by decide +kernel
theorem dX4_roll_26 : decode cX4_roll 26 = .ok (.ireturn, 1) := by decide +kernel
theorem dX4_roll_27 : decode cX4_roll 27 = .ok (.aload_n 0, 1) := by decide +kernel
theorem dX4_roll_28 : decode cX4_roll 28 = .ok (.invokevirtual 131, 3) := by decide +kernel
theorem dX4_roll_31 : decode cX4_roll 31 = .ok (.iconst 0, 1) := by decide +kernel
theorem dX4_roll_32 : decode cX4_roll 32 = .ok (.istore_n 2, 1) := by decide +kernel
theorem dX4_roll_33 : decode cX4_roll 33 = .ok (.iload_n 2, 1) := by decide +kernel
theorem dX4_roll_34 : decode cX4_roll 34 = .ok (.aload_n 0, 1) := by decide +kernel
theorem dX4_roll_35 : decode cX4_roll 35 = .ok (.getfield 7, 3) := by decide +kernel
theorem dX4_roll_38 : decode cX4_roll 38 = .ok (.iconst 0, 1) := by decide +kernel
theorem dX4_roll_39 : decode cX4_roll 39 = .ok (.iaload, 1) := by decide +kernel
theorem dX4_roll_40 : decode cX4_roll 40 = .ok (.if_icmp .ge 33, 3) := by decide +kernel
theorem dX4_roll_43 : decode cX4_roll 43 = .ok (.aload_n 0, 1) := by decide +kernel
theorem dX4_roll_44 : decode cX4_roll 44 = .ok (.getfield 34, 3) := by decide +kernel
theorem dX4_roll_47 : decode cX4_roll 47 = .ok (.iload_n 2, 1) := by decide +kernel
theorem dX4_roll_48 : decode cX4_roll 48 = .ok (.iload_n 1, 1) := by decide +kernel
theorem dX4_roll_49 : decode cX4_roll 49 = .ok (.iadd, 1) := by decide +kernel
theorem dX4_roll_50 : decode cX4_roll 50 = .ok (.aload_n 0, 1) := by decide +kernel
theorem dX4_roll_51 : decode cX4_roll 51 = .ok (.getfield 7, 3) := by decide +kernel
theorem dX4_roll_54 : decode cX4_roll 54 = .ok (.iconst 0, 1) := by decide +kernel
theorem dX4_roll_55 : decode cX4_roll 55 = .ok (.iaload, 1) := by decide +kernel
theorem dX4_roll_56 : decode cX4_roll 56 = .ok (.irem, 1) := by decide +kernel
theorem dX4_roll_57 : decode cX4_roll 57 = .ok (.aload_n 0, 1) := by decide +kernel
theorem dX4_roll_58 : decode cX4_roll 58 = .ok (.getfield 7, 3) := by decide +kernel
theorem dX4_roll_61 : decode cX4_roll 61 = .ok (.bipush 6, 2) := by decide +kernel
theorem dX4_roll_63 : decode cX4_roll 63 = .ok (.iload_n 2, 1) := by decide +kernel
theorem dX4_roll_64 : decode cX4_roll 64 = .ok (.iadd, 1) := by decide +kernel
theorem dX4_roll_65 : decode cX4_roll 65 = .ok (.iaload, 1) := by decide +kernel
theorem dX4_roll_66 : decode cX4_roll 66 = .ok (.iastore, 1) := by decide +kernel
theorem dX4_roll_67 : decode cX4_roll 67 = .ok (.iinc 2 1, 3) := by decide +kernel
theorem dX4_roll_70 : decode cX4_roll 70 = .ok (.goto (-37), 3) := by decide +kernel
theorem dX4_roll_73 : decode cX4_roll 73 = .ok (.iconst 0, 1) := by decide +kernel
theorem dX4_roll_74 : decode cX4_roll 74 = .ok (.istore_n 2, 1) := by decide +kernel
theorem dX4_roll_75 : decode cX4_roll 75 = .ok (.iconst 0, 1) := by decide +kernel
theorem dX4_roll_76 : decode cX4_roll 76 = .ok (.istore_n 3, 1) := by decide +kernel
theorem dX4_roll_77 : decode cX4_roll 77 = .ok (.iload_n 3, 1) := by decide +kernel
theorem dX4_roll_78 : decode cX4_roll 78 = .ok (.aload_n 0, 1) := by decide +kernel
theorem dX4_roll_79 : decode cX4_roll 79 = .ok (.getfield 7, 3) := by decide +kernel
theorem dX4_roll_82 : decode cX4_roll 82 = .ok (.iconst 0, 1) := by decide +kernel
theorem dX4_roll_83 : decode cX4_roll 83 = .ok (.iaload, 1) := by decide +kernel
theorem dX4_roll_84 : decode cX4_roll 84 = .ok (.if_icmp .ge 50, 3) := by decide +kernel
theorem dX4_roll_87 : decode cX4_roll 87 = .ok (.iload_n 2, 1) := by decide +kernel
theorem dX4_roll_88 : decode cX4_roll 88 = .ok (.aload_n 0, 1) := by decide +kernel
theorem dX4_roll_89 : decode cX4_roll 89 = .ok (.getfield 7, 3) := by decide +kernel
theorem dX4_roll_92 : decode cX4_roll 92 = .ok (.bipush 6, 2) := by decide +kernel
theorem dX4_roll_94 : decode cX4_roll 94 = .ok (.iload_n 3, 1) := by decide +kernel
theorem dX4_roll_95 : decode cX4_roll 95 = .ok (.iadd, 1) := by decide +kernel
theorem dX4_roll_96 : decode cX4_roll 96 = .ok (.iaload, 1) := by decide +kernel
theorem dX4_roll_97 : decode cX4_roll 97 = .ok (.aload_n 0, 1) := by decide +kernel
theorem dX4_roll_98 : decode cX4_roll 98 = .ok (.getfield 34, 3) := by decide +kernel
theorem dX4_roll_101 : decode cX4_roll 101 = .ok (.iload_n 3, 1) := by decide +kernel
theorem dX4_roll_102 : decode cX4_roll 102 = .ok (.iaload, 1) := by decide +kernel
theorem dX4_roll_103 : decode cX4_roll 103 = .ok (.if_icmp .ne 7, 3) := by decide +kernel
theorem dX4_roll_106 : decode cX4_roll 106 = .ok (.iconst 0, 1) := by decide +kernel
theorem dX4_roll_107 : decode cX4_roll 107 = .ok (.goto 4, 3) := by decide +kernel
theorem dX4_roll_110 : decode cX4_roll 110 = .ok (.iconst 1, 1) := by decide +kernel
theorem dX4_roll_111 : decode cX4_roll 111 = .ok (.iadd, 1) := by decide +kernel
theorem dX4_roll_112 : decode cX4_roll 112 = .ok (.istore_n 2, 1) := by decide +kernel
theorem dX4_roll_113 : decode cX4_roll 113 = .ok (.aload_n 0, 1) := by decide +kernel
theorem dX4_roll_114 : decode cX4_roll 114 = .ok (.getfield 7, 3) := by decide +kernel
theorem dX4_roll_117 : decode cX4_roll 117 = .ok (.bipush 6, 2) := by decide +kernel
theorem dX4_roll_119 : decode cX4_roll 119 = .ok (.iload_n 3, 1) := by decide +kernel
theorem dX4_roll_120 : decode cX4_roll 120 = .ok (.iadd, 1) := by decide +kernel
theorem dX4_roll_121 : decode cX4_roll 121 = .ok (.aload_n 0, 1) := by decide +kernel
theorem dX4_roll_122 : decode cX4_roll 122 = .ok (.getfield 34, 3) := by decide +kernel
theorem dX4_roll_125 : decode cX4_roll 125 = .ok (.iload_n 3, 1) := by decide +kernel
theorem dX4_roll_126 : decode cX4_roll 126 = .ok (.iaload, 1) := by decide +kernel
theorem dX4_roll_127 : decode cX4_roll 127 = .ok (.iastore, 1) := by decide +kernel
theorem dX4_roll_128 : decode cX4_roll 128 = .ok (.iinc 3 1, 3) := by decide +kernel
theorem dX4_roll_131 : decode cX4_roll 131 = .ok (.goto (-54), 3) := by decide +kernel
theorem dX4_roll_134 : decode cX4_roll 134 = .ok (.iload_n 2, 1) := by decide +kernel
theorem dX4_roll_135 : decode cX4_roll 135 = .ok (.ireturn, 1) := by decide +kernel
set_option maxRecDepth 20000 in
theorem ggX4_append_X4_in : GoodIn wsX4_append wsX4_in := goodIn_r _ [7] (by decide +kernel) (by decide +kernel)
set_option maxRecDepth 20000 in
theorem gX4_append_X4_in : GoodIn wsX4_append (va_wsS RX4 44 yX4_in wsX4_in) := goodIn_app (goodIn_of _ (by decide +kernel)) ggX4_append_X4_in
set_option maxRecDepth 20000 in
theorem ggX4_append_X4_fails : GoodIn wsX4_append wsX4_fails := goodIn_r _ [11, 1, 12, 13, 14, 15, 16, 17, 18, 19, 20, 21, 22, 23, 24, 25, 26, 27, 28, 29] (by decide +kernel) (by decide +kernel)
set_option maxRecDepth 20000 in
theorem gX4_append_X4_fails : GoodIn wsX4_append (wsV RX4 128 RX4 yX4_fails wsX4_fails) := goodIn_app (goodIn_of _ (by decide +kernel)) ggX4_append_X4_fails
theorem dX4_append_0 : decode cX4_append 0 = .ok (.aload_n 0, 1) := by decide +kernel
theorem dX4_append_1 : decode cX4_append 1 = .ok (.iconst 0, 1) := by decide +kernel
theorem dX4_append_2 : decode cX4_append 2 = .ok (.putfield 40, 3) := by decide +kernel
theorem dX4_append_5 : decode cX4_append 5 = .ok (.iload_n 1, 1) := by decide +kernel
theorem dX4_append_6 : decode cX4_append 6 = .ok (.bipush 33, 2) := by decide +kernel
theorem dX4_append_8 : decode cX4_append 8 = .ok (.bipush 126, 2) := by decide +kernel
theorem dX4_append_10 : decode cX4_append 10 = .ok (.invokestatic 44, 3) := by decide +kernel
theorem dX4_append_13 : decode cX4_append 13 = .ok (.ifCond .ne 9, 3) := by decide +kernel
theorem dX4_append_16 : decode cX4_append 16 = .ok (.aload_n 0, 1) := by decide +kernel
theorem dX4_append_17 : decode cX4_append 17 = .ok (.iconst 1, 1) := by decide +kernel
theorem dX4_append_18 : decode cX4_append 18 = .ok (.invokevirtual 128, 3) := by decide +kernel
theorem dX4_append_21 : decode cX4_append 21 = .ok (.ireturn, 1) := by decide +kernel
theorem dX4_append_22 : decode cX4_append 22 = .ok (.aload_n 0, 1) := by decide +kernel
theorem dX4_append_23 : decode cX4_append 23 = .ok (.getfield 153, 3) := by decide +kernel
theorem dX4_append_26 : decode cX4_append 26 = .ok (.bipush 60, 2) := by decide +kernel
theorem dX4_append_28 : decode cX4_append 28 = .ok (.if_icmp .ne 9, 3) := by decide +kernel
theorem dX4_append_31 : decode cX4_append 31 = .ok (.aload_n 0, 1) := by decide +kernel
theorem dX4_append_32 : decode cX4_append 32 = .ok (.iconst 2, 1) := by decide +kernel
theorem dX4_append_33 : decode cX4_append 33 = .ok (.invokevirtual 128, 3) := by decide +kernel
theorem dX4_append_36 : decode cX4_append 36 = .ok (.ireturn, 1) := by decide +kernel
theorem dX4_append_37 : decode cX4_append 37 = .ok (.aload_n 0, 1) := by decide +kernel
theorem dX4_append_38 : decode cX4_append 38 = .ok (.getfield 19, 3) := by decide +kernel
theorem dX4_append_41 : decode cX4_append 41 = .ok (.aload_n 0, 1) := by decide +kernel
theorem dX4_append_42 : decode cX4_append 42 = .ok (.getfield 153, 3) := by decide +kernel
theorem dX4_append_45 : decode cX4_append 45 = .ok (.iload_n 1, 1) := by decide +kernel
theorem dX4_append_46 : decode cX4_append 46 = .ok (.iastore, 1) := by decide +kernel
theorem dX4_append_47 : decode cX4_append 47 = .ok (.aload_n 0, 1) := by decide +kernel
theorem dX4_append_48 : decode cX4_append 48 = .ok (.dup, 1) := by decide +kernel
theorem dX4_append_49 : decode cX4_append 49 = .ok (.getfield 153, 3) := by decide +kernel
theorem dX4_append_52 : decode cX4_append 52 = .ok (.iconst 1, 1) := by decide +kernel
theorem dX4_append_53 : decode cX4_append 53 = .ok (.iadd, 1) := by decide +kernel
theorem dX4_append_54 : decode cX4_append 54 = .ok (.putfield 153, 3) := by decide +kernel
theorem dX4_append_57 : decode cX4_append 57 = .ok (.aload_n 0, 1) := by decide +kernel
theorem dX4_append_58 : decode cX4_append 58 = .ok (.getfield 153, 3) := by decide +kernel
theorem dX4_append_61 : decode cX4_append 61 = .ok (.ireturn, 1) := by decide +kernel
theorem dX4_clearBuffer_0 : decode cX4_clearBuffer 0 = .ok (.aload_n 0, 1) := by decide +kernel
theorem dX4_clearBuffer_1 : decode cX4_clearBuffer 1 = .ok (.iconst 0, 1) := by decide +kernel
theorem dX4_clearBuffer_2 : decode cX4_clearBuffer 2 = .ok (.putfield 40, 3) := by decide +kernel
theorem dX4_clearBuffer_5 : decode cX4_clearBuffer 5 = .ok (.aload_n 0, 1) := by decide +kernel
theorem dX4_clearBuffer_6 : decode cX4_clearBuffer 6 = .ok (.getfield 153, 3) := by decide +kernel
theorem dX4_clearBuffer_9 : decode cX4_clearBuffer 9 = .ok (.istore_n 1, 1) := by decide +kernel
theorem dX4_clearBuffer_10 : decode cX4_clearBuffer 10 = .ok (.aload_n 0, 1) := by decide +kernel
theorem dX4_clearBuffer_11 : decode cX4_clearBuffer 11 = .ok (.iconst 0, 1) := by decide +kernel
theorem dX4_clearBuffer_12 : decode cX4_clearBuffer 12 = .ok (.putfield 153, 3) := by decide +kernel
theorem dX4_clearBuffer_15 : decode cX4_clearBuffer 15 = .ok (.iload_n 1, 1) := by decide +kernel
theorem dX4_clearBuffer_16 : decode cX4_clearBuffer 16 = .ok (.ireturn, 1) := by decide +kernel
theorem dX4_letter_0 : decode cX4_letter 0 = .ok (.aload_n 0, 1) := by decide +kernel
theorem dX4_letter_1 : decode cX4_letter 1 = .ok (.getfield 156, 3) := by decide +kernel
theorem dX4_letter_4 : decode cX4_letter 4 = .ok (.aload_n 0, 1) := by decide +kernel
theorem dX4_letter_5 : decode cX4_letter 5 = .ok (.getfield 153, 3) := by decide +kernel
theorem dX4_letter_8 : decode cX4_letter 8 = .ok (.if_icmp .ge 15, 3) := by decide +kernel
theorem dX4_letter_11 : decode cX4_letter 11 = .ok (.aload_n 0, 1) := by decide +kernel
theorem dX4_letter_12 : decode cX4_letter 12 = .ok (.getfield 19, 3) := by decide +kernel
theorem dX4_letter_15 : decode cX4_letter 15 = .ok (.aload_n 0, 1) := by decide +kernel
theorem dX4_letter_16 : decode cX4_letter 16 = .ok (.getfield 156, 3) := by decide +kernel
theorem dX4_letter_19 : decode cX4_letter 19 = .ok (.iaload, 1) := by decide +kernel
theorem dX4_letter_20 : decode cX4_letter 20 = .ok (.goto 4, 3) := by decide +kernel
theorem dX4_letter_23 : decode cX4_letter 23 = .ok (.iconst 0, 1) := by decide +kernel
theorem dX4_letter_24 : decode cX4_letter 24 = .ok (.ireturn, 1) := by decide +kernel
set_option maxRecDepth 20000 in
theorem ggX4_readsValue_X4_letter : GoodIn wsX4_readsValue wsX4_letter := goodIn_r _ [9, 1, 10, 11, 15, 16, 17, 18, 19, 20, 21, 22, 23, 24, 25, 26, 27, 28, 29, 30, 31, 32] (by decide +kernel) (by decide +kernel)
set_option maxRecDepth 20000 in
theorem gX4_readsValue_X4_letter : GoodIn wsX4_readsValue (wsV RX4 159 RX4 yX4_letter wsX4_letter) := goodIn_app (goodIn_of _ (by decide +kernel)) ggX4_readsValue_X4_letter
set_option maxRecDepth 20000 in
theorem ggX4_readsValue_X4_in : GoodIn wsX4_readsValue wsX4_in := goodIn_r _ [14] (by decide +kernel) (by decide +kernel)
set_option maxRecDepth 20000 in
theorem gX4_readsValue_X4_in : GoodIn wsX4_readsValue (va_wsS RX4 44 yX4_in wsX4_in) := goodIn_app (goodIn_of _ (by decide +kernel)) ggX4_readsValue_X4_in
theorem dX4_readsValue_0 : decode cX4_readsValue 0 = .ok (.aload_n 0, 1) := by decide +kernel
theorem dX4_readsValue_1 : decode cX4_readsValue 1 = .ok (.invokevirtual 159, 3) := by decide +kernel
theorem dX4_readsValue_4 : decode cX4_readsValue 4 = .ok (.bipush 45, 2) := by decide +kernel
theorem dX4_readsValue_6 : decode cX4_readsValue 6 = .ok (.if_icmp .ne 7, 3) := by decide +kernel
theorem dX4_readsValue_9 : decode cX4_readsValue 9 = .ok (.iconst 1, 1) := by decide +kernel
theorem dX4_readsValue_10 : decode cX4_readsValue 10 = .ok (.goto 4, 3) := by decide +kernel
theorem dX4_readsValue_13 : decode cX4_readsValue 13 = .ok (.iconst 0, 1) := by decide +kernel
theorem dX4_readsValue_14 : decode cX4_readsValue 14 = .ok (.istore_n 1, 1) := by decide +kernel
theorem dX4_readsValue_15 : decode cX4_readsValue 15 = .ok (.aload_n 0, 1) := by decide +kernel
theorem dX4_readsValue_16 : decode cX4_readsValue 16 = .ok (.dup, 1) := by decide +kernel
theorem dX4_readsValue_17 : decode cX4_readsValue 17 = .ok (.getfield 156, 3) := by decide +kernel
theorem dX4_readsValue_20 : decode cX4_readsValue 20 = .ok (.iload_n 1, 1) := by decide +kernel
theorem dX4_readsValue_21 : decode cX4_readsValue 21 = .ok (.ifCond .eq 7, 3) := by decide +kernel
theorem dX4_readsValue_24 : decode cX4_readsValue 24 = .ok (.iconst 1, 1) := by decide +kernel
theorem dX4_readsValue_25 : decode cX4_readsValue 25 = .ok (.goto 4, 3) := by decide +kernel
theorem dX4_readsValue_28 : decode cX4_readsValue 28 = .ok (.iconst 0, 1) := by decide +kernel
theorem dX4_readsValue_29 : decode cX4_readsValue 29 = .ok (.iadd, 1) := by decide +kernel
theorem dX4_readsValue_30 : decode cX4_readsValue 30 = .ok (.putfield 156, 3) := by decide +kernel
theorem dX4_readsValue_33 : decode cX4_readsValue 33 = .ok (.aload_n 0, 1) := by decide +kernel
theorem dX4_readsValue_34 : decode cX4_readsValue 34 = .ok (.aload_n 0, 1) := by decide +kernel
theorem dX4_readsValue_35 : decode cX4_readsValue 35 = .ok (.invokevirtual 159, 3) := by decide +kernel
theorem dX4_readsValue_38 : decode cX4_readsValue 38 = .ok (.bipush 48, 2) := by decide +kernel
theorem dX4_readsValue_40 : decode cX4_readsValue 40 = .ok (.bipush 57, 2) := by decide +kernel
theorem dX4_readsValue_42 : decode cX4_readsValue 42 = .ok (.invokestatic 44, 3) := by decide +kernel
theorem dX4_readsValue_45 : decode cX4_readsValue 45 = .ok (.putfield 162, 3) := by decide +kernel
theorem dX4_readsValue_48 : decode cX4_readsValue 48 = .ok (.aload_n 0, 1) := by decide +kernel
theorem dX4_readsValue_49 : decode cX4_readsValue 49 = .ok (.invokevirtual 159, 3) := by decide +kernel
theorem dX4_readsValue_52 : decode cX4_readsValue 52 = .ok (.bipush 48, 2) := by decide +kernel
theorem dX4_readsValue_54 : decode cX4_readsValue 54 = .ok (.isub, 1) := by decide +kernel
theorem dX4_readsValue_55 : decode cX4_readsValue 55 = .ok (.istore_n 2, 1) := by decide +kernel
theorem dX4_readsValue_56 : decode cX4_readsValue 56 = .ok (.aload_n 0, 1) := by decide +kernel
theorem dX4_readsValue_57 : decode cX4_readsValue 57 = .ok (.dup, 1) := by decide +kernel
theorem dX4_readsValue_58 : decode cX4_readsValue 58 = .ok (.getfield 156, 3) := by decide +kernel
theorem dX4_readsValue_61 : decode cX4_readsValue 61 = .ok (.aload_n 0, 1) := by decide +kernel
theorem dX4_readsValue_62 : decode cX4_readsValue 62 = .ok (.getfield 162, 3) := by decide +kernel
theorem dX4_readsValue_65 : decode cX4_readsValue 65 = .ok (.ifCond .eq 7, 3) := by decide +kernel
theorem dX4_readsValue_68 : decode cX4_readsValue 68 = .ok (.iconst 1, 1) := by decide +kernel
theorem dX4_readsValue_69 : decode cX4_readsValue 69 = .ok (.goto 4, 3) := by decide +kernel
theorem dX4_readsValue_72 : decode cX4_readsValue 72 = .ok (.iconst 0, 1) := by decide +kernel
theorem dX4_readsValue_73 : decode cX4_readsValue 73 = .ok (.iadd, 1) := by decide +kernel
theorem dX4_readsValue_74 : decode cX4_readsValue 74 = .ok (.putfield 156, 3) := by decide +kernel
theorem dX4_readsValue_77 : decode cX4_readsValue 77 = .ok (.aload_n 0, 1) := by decide +kernel
theorem dX4_readsValue_78 : decode cX4_readsValue 78 = .ok (.getfield 162, 3) := by decide +kernel
theorem dX4_readsValue_81 : decode cX4_readsValue 81 = .ok (.ifCond .eq 44, 3) := by decide +kernel
theorem dX4_readsValue_84 : decode cX4_readsValue 84 = .ok (.iload_n 2, 1) := by decide +kernel
theorem dX4_readsValue_85 : decode cX4_readsValue 85 = .ok (.ifCond .le 40, 3) := by decide +kernel
theorem dX4_readsValue_88 : decode cX4_readsValue 88 = .ok (.aload_n 0, 1) := by decide +kernel
theorem dX4_readsValue_89 : decode cX4_readsValue 89 = .ok (.invokevirtual 159, 3) := by decide +kernel
theorem dX4_readsValue_92 : decode cX4_readsValue 92 = .ok (.bipush 48, 2) := by decide +kernel
theorem dX4_readsValue_94 : decode cX4_readsValue 94 = .ok (.bipush 57, 2) := by decide +kernel
theorem dX4_readsValue_96 : decode cX4_readsValue 96 = .ok (.invokestatic 44, 3) := by decide +kernel
theorem dX4_readsValue_99 : decode cX4_readsValue 99 = .ok (.ifCond .eq 26, 3) := by decide +kernel
theorem dX4_readsValue_102 : decode cX4_readsValue 102 = .ok (.bipush 10, 2) := by decide +kernel
theorem dX4_readsValue_104 : decode cX4_readsValue 104 = .ok (.iload_n 2, 1) := by decide +kernel
theorem dX4_readsValue_105 : decode cX4_readsValue 105 = .ok (.imul, 1) := by decide +kernel
theorem dX4_readsValue_106 : decode cX4_readsValue 106 = .ok (.aload_n 0, 1) := by decide +kernel
theorem dX4_readsValue_107 : decode cX4_readsValue 107 = .ok (.invokevirtual 159, 3) := by decide +kernel
theorem dX4_readsValue_110 : decode cX4_readsValue 110 = .ok (.iadd, 1) := by decide +kernel
theorem dX4_readsValue_111 : decode cX4_readsValue 111 = .ok (.bipush 48, 2) := by decide +kernel
theorem dX4_readsValue_113 : decode cX4_readsValue 113 = .ok (.isub, 1) := by decide +kernel
theorem dX4_readsValue_114 : decode cX4_readsValue 114 = .ok (.istore_n 2, 1) := by decide +kernel
theorem dX4_readsValue_115 : decode cX4_readsValue 115 = .ok (.aload_n 0, 1) := by decide +kernel
theorem dX4_readsValue_116 : decode cX4_readsValue 116 = .ok (.dup, 1) := by decide +kernel
theorem dX4_readsValue_117 : decode cX4_readsValue 117 = .ok (.getfield 156, 3) := by decide +kernel
theorem dX4_readsValue_120 : decode cX4_readsValue 120 = .ok (.iconst 1, 1) := by decide +kernel
theorem dX4_readsValue_121 : decode cX4_readsValue 121 = .ok (.iadd, 1) := by decide +kernel
theorem dX4_readsValue_122 : decode cX4_readsValue 122 = .ok (.putfield 156, 3) := by decide +kernel
theorem dX4_readsValue_125 : decode cX4_readsValue 125 = .ok (.aload_n 0, 1) := by decide +kernel
theorem dX4_readsValue_126 : decode cX4_readsValue 126 = .ok (.getfield 37, 3) := by decide +kernel
theorem dX4_readsValue_129 : decode cX4_readsValue 129 = .ok (.aload_n 0, 1) := by decide +kernel
theorem dX4_readsValue_130 : decode cX4_readsValue 130 = .ok (.getfield 166, 3) := by decide +kernel
theorem dX4_readsValue_133 : decode cX4_readsValue 133 = .ok (.iload_n 1, 1) := by decide +kernel
theorem dX4_readsValue_134 : decode cX4_readsValue 134 = .ok (.ifCond .eq 8, 3) := by decide +kernel
theorem dX4_readsValue_137 : decode cX4_readsValue 137 = .ok (.iload_n 2, 1) := by decide +kernel
theorem dX4_readsValue_138 : decode cX4_readsValue 138 = .ok (.ineg, 1) := by decide +kernel
theorem dX4_readsValue_139 : decode cX4_readsValue 139 = .ok (.goto 4, 3) := by decide +kernel
theorem dX4_readsValue_142 : decode cX4_readsValue 142 = .ok (.iload_n 2, 1) := by decide +kernel
theorem dX4_readsValue_143 : decode cX4_readsValue 143 = .ok (.iastore, 1) := by decide +kernel
theorem dX4_readsValue_144 : decode cX4_readsValue 144 = .ok (.aload_n 0, 1) := by decide +kernel
theorem dX4_readsValue_145 : decode cX4_readsValue 145 = .ok (.dup, 1) := by decide +kernel
theorem dX4_readsValue_146 : decode cX4_readsValue 146 = .ok (.getfield 166, 3) := by decide +kernel
theorem dX4_readsValue_149 : decode cX4_readsValue 149 = .ok (.iconst 1, 1) := by decide +kernel
theorem dX4_readsValue_150 : decode cX4_readsValue 150 = .ok (.iadd, 1) := by decide +kernel
theorem dX4_readsValue_151 : decode cX4_readsValue 151 = .ok (.putfield 166, 3) := by decide +kernel
theorem dX4_readsValue_154 : decode cX4_readsValue 154 = .ok (.return_, 1) := by decide +kernel
set_option maxRecDepth 20000 in
theorem ggX4_readsAll_X4_readsValue : GoodIn wsX4_readsAll wsX4_readsValue := goodIn_r _ [9, 1, 2, 10, 3, 11, 12, 13, 8, 14, 4, 15, 16, 17, 18, 19, 20, 21, 22, 23, 24, 25, 26, 27, 28, 29, 30, 31, 32, 33, 34, 35, 36] (by decide +kernel) (by decide +kernel)
set_option maxRecDepth 20000 in
theorem gX4_readsAll_X4_readsValue : GoodIn wsX4_readsAll (wsV RX4 169 RX4 yX4_readsValue wsX4_readsValue) := goodIn_app (goodIn_of _ (by decide +kernel)) ggX4_readsAll_X4_readsValue
set_option maxRecDepth 20000 in
theorem ggX4_readsAll_X4_letter : GoodIn wsX4_readsAll wsX4_letter := goodIn_r _ [14, 1, 4, 15, 19, 20, 21, 22, 23, 24, 25, 26, 27, 28, 29, 30, 31, 32, 33, 34, 35, 36] (by decide +kernel) (by decide +kernel)
set_option maxRecDepth 20000 in
theorem gX4_readsAll_X4_letter : GoodIn wsX4_readsAll (wsV RX4 159 RX4 yX4_letter wsX4_letter) := goodIn_app (goodIn_of _ (by decide +kernel)) ggX4_readsAll_X4_letter
theorem dX4_readsAll_0 : decode cX4_readsAll 0 = .ok (.aload_n 0, 1) := by decide +kernel
theorem dX4_readsAll_1 : decode cX4_readsAll 1 = .ok (.iconst 0, 1) := by decide +kernel
theorem dX4_readsAll_2 : decode cX4_readsAll 2 = .ok (.putfield 156, 3) := by decide +kernel
theorem dX4_readsAll_5 : decode cX4_readsAll 5 = .ok (.aload_n 0, 1) := by decide +kernel
theorem dX4_readsAll_6 : decode cX4_readsAll 6 = .ok (.iconst 1, 1) := by decide +kernel
theorem dX4_readsAll_7 : decode cX4_readsAll 7 = .ok (.putfield 162, 3) := by decide +kernel
theorem dX4_readsAll_10 : decode cX4_readsAll 10 = .ok (.aload_n 0, 1) := by decide +kernel
theorem dX4_readsAll_11 : decode cX4_readsAll 11 = .ok (.iconst 0, 1) := by decide +kernel
theorem dX4_readsAll_12 : decode cX4_readsAll 12 = .ok (.putfield 166, 3) := by decide +kernel
theorem dX4_readsAll_15 : decode cX4_readsAll 15 = .ok (.aload_n 0, 1) := by decide +kernel
theorem dX4_readsAll_16 : decode cX4_readsAll 16 = .ok (.invokevirtual 169, 3) := by decide +kernel
theorem dX4_readsAll_19 : decode cX4_readsAll 19 = .ok (.aload_n 0, 1) := by decide +kernel
theorem dX4_readsAll_20 : decode cX4_readsAll 20 = .ok (.getfield 162, 3) := by decide +kernel
theorem dX4_readsAll_23 : decode cX4_readsAll 23 = .ok (.ifCond .eq 76, 3) := by decide +kernel
theorem dX4_readsAll_26 : decode cX4_readsAll 26 = .ok (.aload_n 0, 1) := by decide +kernel
theorem dX4_readsAll_27 : decode cX4_readsAll 27 = .ok (.getfield 156, 3) := by decide +kernel
theorem dX4_readsAll_30 : decode cX4_readsAll 30 = .ok (.aload_n 0, 1) := by decide +kernel
theorem dX4_readsAll_31 : decode cX4_readsAll 31 = .ok (.getfield 153, 3) := by decide +kernel
theorem dX4_readsAll_34 : decode cX4_readsAll 34 = .ok (.if_icmp .ge 65, 3) := by decide +kernel
theorem dX4_readsAll_37 : decode cX4_readsAll 37 = .ok (.aload_n 0, 1) := by decide +kernel
theorem dX4_readsAll_38 : decode cX4_readsAll 38 = .ok (.aload_n 0, 1) := by decide +kernel
theorem dX4_readsAll_39 : decode cX4_readsAll 39 = .ok (.invokevirtual 159, 3) := by decide +kernel
theorem dX4_readsAll_42 : decode cX4_readsAll 42 = .ok (.bipush 44, 2) := by decide +kernel
theorem dX4_readsAll_44 : decode cX4_readsAll 44 = .ok (.if_icmp .ne 16, 3) := by decide +kernel
theorem dX4_readsAll_47 : decode cX4_readsAll 47 = .ok (.aload_n 0, 1) := by decide +kernel
theorem dX4_readsAll_48 : decode cX4_readsAll 48 = .ok (.getfield 166, 3) := by decide +kernel
theorem dX4_readsAll_51 : decode cX4_readsAll 51 = .ok (.bipush 16, 2) := by decide +kernel
theorem dX4_readsAll_53 : decode cX4_readsAll 53 = .ok (.if_icmp .ge 7, 3) := by decide +kernel
theorem dX4_readsAll_56 : decode cX4_readsAll 56 = .ok (.iconst 1, 1) := by decide +kernel
theorem dX4_readsAll_57 : decode cX4_readsAll 57 = .ok (.goto 4, 3) := by decide +kernel
theorem dX4_readsAll_60 : decode cX4_readsAll 60 = .ok (.iconst 0, 1) := by decide +kernel
theorem dX4_readsAll_61 : decode cX4_readsAll 61 = .ok (.putfield 162, 3) := by decide +kernel
theorem dX4_readsAll_64 : decode cX4_readsAll 64 = .ok (.aload_n 0, 1) := by decide +kernel
theorem dX4_readsAll_65 : decode cX4_readsAll 65 = .ok (.dup, 1) := by decide +kernel
theorem dX4_readsAll_66 : decode cX4_readsAll 66 = .ok (.getfield 156, 3) := by decide +kernel
theorem dX4_readsAll_69 : decode cX4_readsAll 69 = .ok (.aload_n 0, 1) := by decide +kernel
theorem dX4_readsAll_70 : decode cX4_readsAll 70 = .ok (.getfield 162, 3) := by decide +kernel
theorem dX4_readsAll_73 : decode cX4_readsAll 73 = .ok (.ifCond .eq 7, 3) := by decide +kernel
theorem dX4_readsAll_76 : decode cX4_readsAll 76 = .ok (.iconst 1, 1) := by decide +kernel
theorem dX4_readsAll_77 : decode cX4_readsAll 77 = .ok (.goto 4, 3) := by decide +kernel
theorem dX4_readsAll_80 : decode cX4_readsAll 80 = .ok (.iconst 0, 1) := by decide +kernel
theorem dX4_readsAll_81 : decode cX4_readsAll 81 = .ok (.iadd, 1) := by decide +kernel
theorem dX4_readsAll_82 : decode cX4_readsAll 82 = .ok (.putfield 156, 3) := by decide +kernel
theorem dX4_readsAll_85 : decode cX4_readsAll 85 = .ok (.aload_n 0, 1) := by decide +kernel
theorem dX4_readsAll_86 : decode cX4_readsAll 86 = .ok (.getfield 162, 3) := by decide +kernel
theorem dX4_readsAll_89 : decode cX4_readsAll 89 = .ok (.ifCond .eq (-70), 3) := by decide +kernel
theorem dX4_readsAll_92 : decode cX4_readsAll 92 = .ok (.aload_n 0, 1) := by decide +kernel
theorem dX4_readsAll_93 : decode cX4_readsAll 93 = .ok (.invokevirtual 169, 3) := by decide +kernel
theorem dX4_readsAll_96 : decode cX4_readsAll 96 = .ok (.goto (-77), 3) := by decide +kernel
theorem dX4_readsAll_99 : decode cX4_readsAll 99 = .ok (.return_, 1) := by decide +kernel
set_option maxRecDepth 20000 in
theorem ggX4_firstError_X4_readsAll : GoodIn wsX4_firstError wsX4_readsAll := goodIn_r _ [7, 2, 8, 9, 10, 11, 12, 13, 6, 14, 15, 16, 17, 18, 19, 20, 21, 22, 23, 24, 25, 26, 27, 28, 29, 30, 31, 32, 33, 34, 35, 36, 37, 38, 39, 40, 41] (by decide +kernel) (by decide +kernel)
set_option maxRecDepth 20000 in
theorem gX4_firstError_X4_readsAll : GoodIn wsX4_firstError (wsV RX4 172 RX4 yX4_readsAll wsX4_readsAll) := goodIn_app (goodIn_of _ (by decide +kernel)) ggX4_firstError_X4_readsAll
theorem dX4_firstError_0 : decode cX4_firstError 0 = .ok (.aload_n 0, 1) := by decide +kernel
theorem dX4_firstError_1 : decode cX4_firstError 1 = .ok (.iconst 0, 1) := by decide +kernel
theorem dX4_firstError_2 : decode cX4_firstError 2 = .ok (.putfield 40, 3) := by decide +kernel
theorem dX4_firstError_5 : decode cX4_firstError 5 = .ok (.aload_n 0, 1) := by decide +kernel
theorem dX4_firstError_6 : decode cX4_firstError 6 = .ok (.invokevirtual 172, 3) := by decide +kernel
theorem dX4_firstError_9 : decode cX4_firstError 9 = .ok (.aload_n 0, 1) := by decide +kernel
theorem dX4_firstError_10 : decode cX4_firstError 10 = .ok (.getfield 156, 3) := by decide +kernel
theorem dX4_firstError_13 : decode cX4_firstError 13 = .ok (.ireturn, 1) := by decide +kernel
set_option maxRecDepth 20000 in
theorem ggX4_receiveAll_X4_readsAll : GoodIn wsX4_receiveAll wsX4_readsAll := goodIn_r _ [11, 12, 2, 3, 5, 13, 14, 15, 10, 16, 6, 17, 18, 19, 20, 21, 22, 23, 24, 35, 36, 37, 38, 39, 40, 41, 42, 43, 44, 45, 46, 47, 48, 49, 50, 51, 52] (by decide +kernel) (by decide +kernel)
set_option maxRecDepth 20000 in
theorem gX4_receiveAll_X4_readsAll : GoodIn wsX4_receiveAll (wsV RX4 172 RX4 yX4_readsAll wsX4_readsAll) := goodIn_app (goodIn_of _ (by decide +kernel)) ggX4_receiveAll_X4_readsAll
set_option maxRecDepth 20000 in
theorem ggX4_receiveAll_X4_fails : GoodIn wsX4_receiveAll wsX4_fails := goodIn_r _ [28, 1, 35, 36, 37, 38, 39, 40, 41, 42, 43, 44, 45, 46, 47, 48, 49, 50, 51, 52] (by decide +kernel) (by decide +kernel)
set_option maxRecDepth 20000 in
theorem gX4_receiveAll_X4_fails : GoodIn wsX4_receiveAll (wsV RX4 128 RX4 yX4_fails wsX4_fails) := goodIn_app (goodIn_of _ (by decide +kernel)) ggX4_receiveAll_X4_fails
set_option maxRecDepth 20000 in
theorem ggX4_receiveAll_X4_saves : GoodIn wsX4_receiveAll wsX4_saves := goodIn_r _ [32, 33, 34, 4, 35, 36, 37, 38, 39, 40, 41, 42, 43, 44, 45, 46, 47, 48, 49, 50, 51, 52] (by decide +kernel) (by decide +kernel)
set_option maxRecDepth 20000 in
theorem gX4_receiveAll_X4_saves : GoodIn wsX4_receiveAll (wsV RX4 131 RX4 yX4_saves wsX4_saves) := goodIn_app (goodIn_of _ (by decide +kernel)) ggX4_receiveAll_X4_saves
theorem dX4_receiveAll_0 : decode cX4_receiveAll 0 = .ok (.aload_n 0, 1) := by decide +kernel
theorem dX4_receiveAll_1 : decode cX4_receiveAll 1 = .ok (.iconst 0, 1) := by decide +kernel
theorem dX4_receiveAll_2 : decode cX4_receiveAll 2 = .ok (.putfield 40, 3) := by decide +kernel
theorem dX4_receiveAll_5 : decode cX4_receiveAll 5 = .ok (.aload_n 0, 1) := by decide +kernel
theorem dX4_receiveAll_6 : decode cX4_receiveAll 6 = .ok (.invokevirtual 172, 3) := by decide +kernel
theorem dX4_receiveAll_9 : decode cX4_receiveAll 9 = .ok (.aload_n 0, 1) := by decide +kernel
theorem dX4_receiveAll_10 : decode cX4_receiveAll 10 = .ok (.getfield 162, 3) := by decide +kernel
theorem dX4_receiveAll_13 : decode cX4_receiveAll 13 = .ok (.ifCond .ne 9, 3) := by decide +kernel
theorem dX4_receiveAll_16 : decode cX4_receiveAll 16 = .ok (.aload_n 0, 1) := by decide +kernel
theorem dX4_receiveAll_17 : decode cX4_receiveAll 17 = .ok (.iconst 1, 1) := by decide +kernel
theorem dX4_receiveAll_18 : decode cX4_receiveAll 18 = .ok (.invokevirtual 128, 3) := by decide +kernel
theorem dX4_receiveAll_21 : decode cX4_receiveAll 21 = .ok (.ireturn, 1) := by decide +kernel
theorem dX4_receiveAll_22 : decode cX4_receiveAll 22 = .ok (.aload_n 0, 1) := by decide +kernel
theorem dX4_receiveAll_23 : decode cX4_receiveAll 23 = .ok (.getfield 166, 3) := by decide +kernel
theorem dX4_receiveAll_26 : decode cX4_receiveAll 26 = .ok (.aload_n 0, 1) := by decide +kernel
theorem dX4_receiveAll_27 : decode cX4_receiveAll 27 = .ok (.getfield 7, 3) := by decide +kernel
theorem dX4_receiveAll_30 : decode cX4_receiveAll 30 = .ok (.iconst 0, 1) := by decide +kernel
theorem dX4_receiveAll_31 : decode cX4_receiveAll 31 = .ok (.iaload, 1) := by decide +kernel
theorem dX4_receiveAll_32 : decode cX4_receiveAll 32 = .ok (.if_icmp .le 9, 3) := by decide +kernel
theorem dX4_receiveAll_35 : decode cX4_receiveAll 35 = .ok (.aload_n 0, 1) := by decide +kernel
theorem dX4_receiveAll_36 : decode cX4_receiveAll 36 = .ok (.iconst 2, 1) := by decide +kernel
theorem dX4_receiveAll_37 : decode cX4_receiveAll 37 = .ok (.invokevirtual 128, 3) := by decide +kernel
theorem dX4_receiveAll_40 : decode cX4_receiveAll 40 = .ok (.ireturn, 1) := by decide +kernel
theorem dX4_receiveAll_41 : decode cX4_receiveAll 41 = .ok (.aload_n 0, 1) := by decide +kernel
theorem dX4_receiveAll_42 : decode cX4_receiveAll 42 = .ok (.invokevirtual 131, 3) := by decide +kernel
theorem dX4_receiveAll_45 : decode cX4_receiveAll 45 = .ok (.aload_n 0, 1) := by decide +kernel
theorem dX4_receiveAll_46 : decode cX4_receiveAll 46 = .ok (.iconst 0, 1) := by decide +kernel
theorem dX4_receiveAll_47 : decode cX4_receiveAll 47 = .ok (.putfield 153, 3) := by decide +kernel
theorem dX4_receiveAll_50 : decode cX4_receiveAll 50 = .ok (.iconst 0, 1) := by decide +kernel
theorem dX4_receiveAll_51 : decode cX4_receiveAll 51 = .ok (.istore_n 1, 1) := by decide +kernel
theorem dX4_receiveAll_52 : decode cX4_receiveAll 52 = .ok (.iload_n 1, 1) := by decide +kernel
theorem dX4_receiveAll_53 : decode cX4_receiveAll 53 = .ok (.aload_n 0, 1) := by decide +kernel
theorem dX4_receiveAll_54 : decode cX4_receiveAll 54 = .ok (.getfield 7, 3) := by decide +kernel
theorem dX4_receiveAll_57 : decode cX4_receiveAll 57 = .ok (.iconst 0, 1) := by decide +kernel
theorem dX4_receiveAll_58 : decode cX4_receiveAll 58 = .ok (.iaload, 1) := by decide +kernel
theorem dX4_receiveAll_59 : decode cX4_receiveAll 59 = .ok (.if_icmp .ge 36, 3) := by decide +kernel
theorem dX4_receiveAll_62 : decode cX4_receiveAll 62 = .ok (.aload_n 0, 1) := by decide +kernel
theorem dX4_receiveAll_63 : decode cX4_receiveAll 63 = .ok (.getfield 7, 3) := by decide +kernel
theorem dX4_receiveAll_66 : decode cX4_receiveAll 66 = .ok (.bipush 6, 2) := by decide +kernel
theorem dX4_receiveAll_68 : decode cX4_receiveAll 68 = .ok (.iload_n 1, 1) := by decide +kernel
theorem dX4_receiveAll_69 : decode cX4_receiveAll 69 = .ok (.iadd, 1) := by decide +kernel
theorem dX4_receiveAll_70 : decode cX4_receiveAll 70 = .ok (.iload_n 1, 1) := by decide +kernel
theorem dX4_receiveAll_71 : decode cX4_receiveAll 71 = .ok (.aload_n 0, 1) := by decide +kernel
theorem dX4_receiveAll_72 : decode cX4_receiveAll 72 = .ok (.getfield 166, 3) := by decide +kernel
theorem dX4_receiveAll_75 : decode cX4_receiveAll 75 = .ok (.if_icmp .ge 12, 3) := by decide +kernel
theorem dX4_receiveAll_78 : decode cX4_receiveAll 78 = .ok (.aload_n 0, 1) := by decide +kernel
theorem dX4_receiveAll_79 : decode cX4_receiveAll 79 = .ok (.getfield 37, 3) := by decide +kernel
theorem dX4_receiveAll_82 : decode cX4_receiveAll 82 = .ok (.iload_n 1, 1) := by decide +kernel
theorem dX4_receiveAll_83 : decode cX4_receiveAll 83 = .ok (.iaload, 1) := by decide +kernel
theorem dX4_receiveAll_84 : decode cX4_receiveAll 84 = .ok (.goto 4, 3) := by decide +kernel
theorem dX4_receiveAll_87 : decode cX4_receiveAll 87 = .ok (.iconst 0, 1) := by decide +kernel
theorem dX4_receiveAll_88 : decode cX4_receiveAll 88 = .ok (.iastore, 1) := by decide +kernel
theorem dX4_receiveAll_89 : decode cX4_receiveAll 89 = .ok (.iinc 1 1, 3) := by decide +kernel
theorem dX4_receiveAll_92 : decode cX4_receiveAll 92 = .ok (.goto (-40), 3) := by decide +kernel
theorem dX4_receiveAll_95 : decode cX4_receiveAll 95 = .ok (.aload_n 0, 1) := by decide +kernel
theorem dX4_receiveAll_96 : decode cX4_receiveAll 96 = .ok (.getfield 166, 3) := by decide +kernel
theorem dX4_receiveAll_99 : decode cX4_receiveAll 99 = .ok (.ireturn, 1) := by decide +kernel
set_option maxRecDepth 20000 in
theorem ggX4_undo_X4_fails : GoodIn wsX4_undo wsX4_fails := goodIn_r _ [9, 1, 10, 11, 12, 13, 14, 15, 16, 17, 18, 19, 20, 21, 22, 23, 24, 25, 26, 27] (by decide +kernel) (by decide +kernel)
set_option maxRecDepth 20000 in
theorem gX4_undo_X4_fails : GoodIn wsX4_undo (wsV RX4 128 RX4 yX4_fails wsX4_fails) := goodIn_app (goodIn_of _ (by decide +kernel)) ggX4_undo_X4_fails
theorem dX4_undo_0 : decode cX4_undo 0 = .ok (.aload_n 0, 1) := by decide +kernel
theorem dX4_undo_1 : decode cX4_undo 1 = .ok (.iconst 0, 1) := by decide +kernel
theorem dX4_undo_2 : decode cX4_undo 2 = .ok (.putfield 40, 3) := by decide +kernel
theorem dX4_undo_5 : decode cX4_undo 5 = .ok (.aload_n 0, 1) := by decide +kernel
theorem dX4_undo_6 : decode cX4_undo 6 = .ok (.getfield 48, 3) := by decide +kernel
theorem dX4_undo_9 : decode cX4_undo 9 = .ok (.ifCond .ne 9, 3) := by decide +kernel
theorem dX4_undo_12 : decode cX4_undo 12 = .ok (.aload_n 0, 1) := by decide +kernel
theorem dX4_undo_13 : decode cX4_undo 13 = .ok (.iconst 1, 1) := by decide +kernel
theorem dX4_undo_14 : decode cX4_undo 14 = .ok (.invokevirtual 128, 3) := by decide +kernel
theorem dX4_undo_17 : decode cX4_undo 17 = .ok (.ireturn, 1) := by decide +kernel
theorem dX4_undo_18 : decode cX4_undo 18 = .ok (.aload_n 0, 1) := by decide +kernel
theorem dX4_undo_19 : decode cX4_undo 19 = .ok (.dup, 1) := by decide +kernel
theorem dX4_undo_20 : decode cX4_undo 20 = .ok (.getfield 48, 3) := by decide +kernel
theorem dX4_undo_23 : decode cX4_undo 23 = .ok (.iconst 1, 1) := by decide +kernel
theorem dX4_undo_24 : decode cX4_undo 24 = .ok (.isub, 1) := by decide +kernel
theorem dX4_undo_25 : decode cX4_undo 25 = .ok (.putfield 48, 3) := by decide +kernel
theorem dX4_undo_28 : decode cX4_undo 28 = .ok (.iconst 0, 1) := by decide +kernel
theorem dX4_undo_29 : decode cX4_undo 29 = .ok (.istore_n 1, 1) := by decide +kernel
theorem dX4_undo_30 : decode cX4_undo 30 = .ok (.iload_n 1, 1) := by decide +kernel
theorem dX4_undo_31 : decode cX4_undo 31 = .ok (.bipush 22, 2) := by decide +kernel
theorem dX4_undo_33 : decode cX4_undo 33 = .ok (.if_icmp .ge 29, 3) := by decide +kernel
theorem dX4_undo_36 : decode cX4_undo 36 = .ok (.aload_n 0, 1) := by decide +kernel
theorem dX4_undo_37 : decode cX4_undo 37 = .ok (.getfield 7, 3) := by decide +kernel
theorem dX4_undo_40 : decode cX4_undo 40 = .ok (.iload_n 1, 1) := by decide +kernel
theorem dX4_undo_41 : decode cX4_undo 41 = .ok (.aload_n 0, 1) := by decide +kernel
theorem dX4_undo_42 : decode cX4_undo 42 = .ok (.getfield 16, 3) := by decide +kernel
theorem dX4_undo_45 : decode cX4_undo 45 = .ok (.bipush 22, 2) := by decide +kernel
theorem dX4_undo_47 : decode cX4_undo 47 = .ok (.aload_n 0, 1) := by decide +kernel
theorem dX4_undo_48 : decode cX4_undo 48 = .ok (.getfield 48, 3) := by decide +kernel
theorem dX4_undo_51 : decode cX4_undo 51 = .ok (.imul, 1) := by decide +kernel
theorem dX4_undo_52 : decode cX4_undo 52 = .ok (.iload_n 1, 1) := by decide +kernel
theorem dX4_undo_53 : decode cX4_undo 53 = .ok (.iadd, 1) := by decide +kernel
theorem dX4_undo_54 : decode cX4_undo 54 = .ok (.iaload, 1) := by decide +kernel
theorem dX4_undo_55 : decode cX4_undo 55 = .ok (.iastore, 1) := by decide +kernel
theorem dX4_undo_56 : decode cX4_undo 56 = .ok (.iinc 1 1, 3) := by decide +kernel
theorem dX4_undo_59 : decode cX4_undo 59 = .ok (.goto (-29), 3) := by decide +kernel
theorem dX4_undo_62 : decode cX4_undo 62 = .ok (.aload_n 0, 1) := by decide +kernel
theorem dX4_undo_63 : decode cX4_undo 63 = .ok (.getfield 48, 3) := by decide +kernel
theorem dX4_undo_66 : decode cX4_undo 66 = .ok (.ireturn, 1) := by decide +kernel
set_option maxRecDepth 20000 in
theorem ggX4_tellsPlace_X4_isOpen : GoodIn wsX4_tellsPlace wsX4_isOpen := goodIn_r _ [6, 1, 34, 35, 36, 37, 38, 39, 40, 41, 42, 43, 44, 45, 46, 47, 48, 49, 50, 51] (by decide +kernel) (by decide +kernel)
set_option maxRecDepth 20000 in
theorem gX4_tellsPlace_X4_isOpen : GoodIn wsX4_tellsPlace (wsV RX4 51 RX4 yX4_isOpen wsX4_isOpen) := goodIn_app (goodIn_of _ (by decide +kernel)) ggX4_tellsPlace_X4_isOpen
set_option maxRecDepth 20000 in
theorem ggX4_tellsPlace_X4_unsure : GoodIn wsX4_tellsPlace wsX4_unsure := goodIn_r _ [10, 11, 1, 12, 13, 34, 35, 36, 37, 38, 39, 40, 41, 42, 43, 44, 45, 46, 47, 48, 49, 50, 51] (by decide +kernel) (by decide +kernel)
set_option maxRecDepth 20000 in
theorem gX4_tellsPlace_X4_unsure : GoodIn wsX4_tellsPlace (wsV RX4 68 RX4 yX4_unsure wsX4_unsure) := goodIn_app (goodIn_of _ (by decide +kernel)) ggX4_tellsPlace_X4_unsure
set_option maxRecDepth 20000 in
theorem ggX4_tellsPlace_X4_rankOf : GoodIn wsX4_tellsPlace wsX4_rankOf := goodIn_r _ [17, 1, 7, 8, 9, 5, 10, 11, 12, 13, 34, 35, 36, 37, 38, 39, 40, 41, 42, 43, 44, 45, 46, 47, 48, 49, 50, 51] (by decide +kernel) (by decide +kernel)
set_option maxRecDepth 20000 in
theorem gX4_tellsPlace_X4_rankOf : GoodIn wsX4_tellsPlace (wsV RX4 134 RX4 yX4_rankOf wsX4_rankOf) := goodIn_app (goodIn_of _ (by decide +kernel)) ggX4_tellsPlace_X4_rankOf
set_option maxRecDepth 20000 in
theorem ggX4_tellsPlace_X4_numberOf : GoodIn wsX4_tellsPlace wsX4_numberOf := goodIn_r _ [21, 2, 3, 4, 5, 6, 1, 34, 35, 36, 37, 38, 39, 40, 41, 42, 43, 44, 45, 46, 47, 48, 49, 50, 51] (by decide +kernel) (by decide +kernel)
set_option maxRecDepth 20000 in
theorem gX4_tellsPlace_X4_numberOf : GoodIn wsX4_tellsPlace (wsV RX4 175 RX4 yX4_numberOf wsX4_numberOf) := goodIn_app (goodIn_of _ (by decide +kernel)) ggX4_tellsPlace_X4_numberOf
set_option maxRecDepth 20000 in
theorem ggX4_tellsPlace_X4_bodyMany : GoodIn wsX4_tellsPlace wsX4_bodyMany := goodIn_r _ [25, 26, 27, 28, 5, 29, 1, 2, 3, 4, 6, 30, 31, 32, 33, 34, 35, 36, 37, 38, 39, 40, 41, 42, 43, 44, 45, 46, 47, 48, 49, 50, 51] (by decide +kernel) (by decide +kernel)
set_option maxRecDepth 20000 in
theorem gX4_tellsPlace_X4_bodyMany : GoodIn wsX4_tellsPlace (wsV RX4 72 RX4 yX4_bodyMany wsX4_bodyMany) := goodIn_app (goodIn_of _ (by decide +kernel)) ggX4_tellsPlace_X4_bodyMany
theorem dX4_tellsPlace_0 : decode cX4_tellsPlace 0 = .ok (.iload_n 2, 1) := by decide +kernel
theorem dX4_tellsPlace_1 : decode cX4_tellsPlace 1 = .ok (.tableswitch 80 0 4 #[35, 49, 55, 61, 74], 35) := by decide +kernel
theorem dX4_tellsPlace_36 : decode cX4_tellsPlace 36 = .ok (.aload_n 0, 1) := by decide +kernel
theorem dX4_tellsPlace_37 : decode cX4_tellsPlace 37 = .ok (.iload_n 1, 1) := by decide +kernel
theorem dX4_tellsPlace_38 : decode cX4_tellsPlace 38 = .ok (.invokevirtual 51, 3) := by decide +kernel
theorem dX4_tellsPlace_41 : decode cX4_tellsPlace 41 = .ok (.ifCond .eq 7, 3) := by decide +kernel
theorem dX4_tellsPlace_44 : decode cX4_tellsPlace 44 = .ok (.iconst 1, 1) := by decide +kernel
theorem dX4_tellsPlace_45 : decode cX4_tellsPlace 45 = .ok (.goto 4, 3) := by decide +kernel
theorem dX4_tellsPlace_48 : decode cX4_tellsPlace 48 = .ok (.iconst 0, 1) := by decide +kernel
theorem dX4_tellsPlace_49 : decode cX4_tellsPlace 49 = .ok (.ireturn, 1) := by decide +kernel
theorem dX4_tellsPlace_50 : decode cX4_tellsPlace 50 = .ok (.aload_n 0, 1) := by decide +kernel
theorem dX4_tellsPlace_51 : decode cX4_tellsPlace 51 = .ok (.iload_n 1, 1) := by decide +kernel
theorem dX4_tellsPlace_52 : decode cX4_tellsPlace 52 = .ok (.invokevirtual 68, 3) := by decide +kernel
theorem dX4_tellsPlace_55 : decode cX4_tellsPlace 55 = .ok (.ireturn, 1) := by decide +kernel
theorem dX4_tellsPlace_56 : decode cX4_tellsPlace 56 = .ok (.aload_n 0, 1) := by decide +kernel
theorem dX4_tellsPlace_57 : decode cX4_tellsPlace 57 = .ok (.iload_n 1, 1) := by decide +kernel
theorem dX4_tellsPlace_58 : decode cX4_tellsPlace 58 = .ok (.invokevirtual 134, 3) := by decide +kernel
theorem dX4_tellsPlace_61 : decode cX4_tellsPlace 61 = .ok (.ireturn, 1) := by decide +kernel
theorem dX4_tellsPlace_62 : decode cX4_tellsPlace 62 = .ok (.aload_n 0, 1) := by decide +kernel
theorem dX4_tellsPlace_63 : decode cX4_tellsPlace 63 = .ok (.getfield 7, 3) := by decide +kernel
theorem dX4_tellsPlace_66 : decode cX4_tellsPlace 66 = .ok (.bipush 6, 2) := by decide +kernel
theorem dX4_tellsPlace_68 : decode cX4_tellsPlace 68 = .ok (.iload_n 1, 1) := by decide +kernel
theorem dX4_tellsPlace_69 : decode cX4_tellsPlace 69 = .ok (.iadd, 1) := by decide +kernel
theorem dX4_tellsPlace_70 : decode cX4_tellsPlace 70 = .ok (.iaload, 1) := by decide +kernel
theorem dX4_tellsPlace_71 : decode cX4_tellsPlace 71 = .ok (.bipush 100, 2) := by decide +kernel
theorem dX4_tellsPlace_73 : decode cX4_tellsPlace 73 = .ok (.iadd, 1) := by decide +kernel
theorem dX4_tellsPlace_74 : decode cX4_tellsPlace 74 = .ok (.ireturn, 1) := by decide +kernel
theorem dX4_tellsPlace_75 : decode cX4_tellsPlace 75 = .ok (.aload_n 0, 1) := by decide +kernel
theorem dX4_tellsPlace_76 : decode cX4_tellsPlace 76 = .ok (.iload_n 1, 1) := by decide +kernel
theorem dX4_tellsPlace_77 : decode cX4_tellsPlace 77 = .ok (.invokevirtual 175, 3) := by decide +kernel
theorem dX4_tellsPlace_80 : decode cX4_tellsPlace 80 = .ok (.ireturn, 1) := by decide +kernel
theorem dX4_tellsPlace_81 : decode cX4_tellsPlace 81 = .ok (.aload_n 0, 1) := by decide +kernel
theorem dX4_tellsPlace_82 : decode cX4_tellsPlace 82 = .ok (.iload_n 1, 1) := by decide +kernel
theorem dX4_tellsPlace_83 : decode cX4_tellsPlace 83 = .ok (.invokevirtual 175, 3) := by decide +kernel
theorem dX4_tellsPlace_86 : decode cX4_tellsPlace 86 = .ok (.aload_n 0, 1) := by decide +kernel
theorem dX4_tellsPlace_87 : decode cX4_tellsPlace 87 = .ok (.invokevirtual 72, 3) := by decide +kernel
theorem dX4_tellsPlace_90 : decode cX4_tellsPlace 90 = .ok (.if_icmp .lt 7, 3) := by decide +kernel
theorem dX4_tellsPlace_93 : decode cX4_tellsPlace 93 = .ok (.iconst 1, 1) := by decide +kernel
theorem dX4_tellsPlace_94 : decode cX4_tellsPlace 94 = .ok (.goto 4, 3) := by decide +kernel
theorem dX4_tellsPlace_97 : decode cX4_tellsPlace 97 = .ok (.iconst 0, 1) := by decide +kernel
theorem dX4_tellsPlace_98 : decode cX4_tellsPlace 98 = .ok (.ireturn, 1) := by decide +kernel
set_option maxRecDepth 20000 in
theorem ggX4_place_X4_isPlace : GoodIn wsX4_place wsX4_isPlace := goodIn_r _ [6, 7, 8, 9, 5, 10, 50, 51, 52, 53, 54, 55, 56, 57, 58, 59, 60, 61, 62, 63, 64, 65, 66, 67] (by decide +kernel) (by decide +kernel)
set_option maxRecDepth 20000 in
theorem gX4_place_X4_isPlace : GoodIn wsX4_place (wsV RX4 137 RX4 yX4_isPlace wsX4_isPlace) := goodIn_app (goodIn_of _ (by decide +kernel)) ggX4_place_X4_isPlace
set_option maxRecDepth 20000 in
theorem ggX4_place_X4_fails : GoodIn wsX4_place wsX4_fails := goodIn_r _ [14, 1, 50, 51, 52, 53, 54, 55, 56, 57, 58, 59, 60, 61, 62, 63, 64, 65, 66, 67] (by decide +kernel) (by decide +kernel)
set_option maxRecDepth 20000 in
theorem gX4_place_X4_fails : GoodIn wsX4_place (wsV RX4 128 RX4 yX4_fails wsX4_fails) := goodIn_app (goodIn_of _ (by decide +kernel)) ggX4_place_X4_fails
set_option maxRecDepth 20000 in
theorem ggX4_place_X4_in : GoodIn wsX4_place wsX4_in := goodIn_r _ [10] (by decide +kernel) (by decide +kernel)
set_option maxRecDepth 20000 in
theorem gX4_place_X4_in : GoodIn wsX4_place (va_wsS RX4 44 yX4_in wsX4_in) := goodIn_app (goodIn_of _ (by decide +kernel)) ggX4_place_X4_in
set_option maxRecDepth 20000 in
theorem ggX4_place_X4_tellsPlace : GoodIn wsX4_place wsX4_tellsPlace := goodIn_r _ [18, 7, 19, 20, 21, 5, 22, 23, 24, 25, 26, 27, 28, 29, 30, 31, 32, 33, 34, 35, 36, 37, 38, 39, 40, 41, 42, 43, 44, 45, 46, 47, 48, 49, 50, 51, 52, 53, 54, 55, 56, 57, 58, 59, 60, 61, 62, 63, 64, 65, 66, 67] (by decide +kernel) (by decide +kernel)
set_option maxRecDepth 20000 in
theorem gX4_place_X4_tellsPlace : GoodIn wsX4_place (wsV RX4 178 RX4 yX4_tellsPlace wsX4_tellsPlace) := goodIn_app (goodIn_of _ (by decide +kernel)) ggX4_place_X4_tellsPlace
theorem dX4_place_0 : decode cX4_place 0 = .ok (.aload_n 0, 1) := by decide +kernel
theorem dX4_place_1 : decode cX4_place 1 = .ok (.iconst 0, 1) := by decide +kernel
theorem dX4_place_2 : decode cX4_place 2 = .ok (.putfield 40, 3) := by decide +kernel
theorem dX4_place_5 : decode cX4_place 5 = .ok (.aload_n 0, 1) := by decide +kernel
theorem dX4_place_6 : decode cX4_place 6 = .ok (.iload_n 1, 1) := by decide +kernel
theorem dX4_place_7 : decode cX4_place 7 = .ok (.invokevirtual 137, 3) := by decide +kernel
theorem dX4_place_10 : decode cX4_place 10 = .ok (.ifCond .ne 9, 3) := by decide +kernel
theorem dX4_place_13 : decode cX4_place 13 = .ok (.aload_n 0, 1) := by decide +kernel
theorem dX4_place_14 : decode cX4_place 14 = .ok (.iconst 1, 1) := by decide +kernel
theorem dX4_place_15 : decode cX4_place 15 = .ok (.invokevirtual 128, 3) := by decide +kernel
theorem dX4_place_18 : decode cX4_place 18 = .ok (.ireturn, 1) := by decide +kernel
theorem dX4_place_19 : decode cX4_place 19 = .ok (.iload_n 2, 1) := by decide +kernel
theorem dX4_place_20 : decode cX4_place 20 = .ok (.iconst 0, 1) := by decide +kernel
theorem dX4_place_21 : decode cX4_place 21 = .ok (.iconst 5, 1) := by decide +kernel
theorem dX4_place_22 : decode cX4_place 22 = .ok (.invokestatic 44, 3) := by decide +kernel
theorem dX4_place_25 : decode cX4_place 25 = .ok (.ifCond .eq 12, 3) := by decide +kernel
theorem dX4_place_28 : decode cX4_place 28 = .ok (.aload_n 0, 1) := by decide +kernel
theorem dX4_place_29 : decode cX4_place 29 = .ok (.iload_n 1, 1) := by decide +kernel
theorem dX4_place_30 : decode cX4_place 30 = .ok (.iload_n 2, 1) := by decide +kernel
theorem dX4_place_31 : decode cX4_place 31 = .ok (.invokevirtual 178, 3) := by decide +kernel
theorem dX4_place_34 : decode cX4_place 34 = .ok (.goto 8, 3) := by decide +kernel
theorem dX4_place_37 : decode cX4_place 37 = .ok (.aload_n 0, 1) := by decide +kernel
theorem dX4_place_38 : decode cX4_place 38 = .ok (.iconst 2, 1) := by decide +kernel
theorem dX4_place_39 : decode cX4_place 39 = .ok (.invokevirtual 128, 3) := by decide +kernel
theorem dX4_place_42 : decode cX4_place 42 = .ok (.ireturn, 1) := by decide +kernel
set_option maxRecDepth 20000 in
theorem ggX4_code_X4_in : GoodIn wsX4_code wsX4_in := goodIn_r _ [7] (by decide +kernel) (by decide +kernel)
set_option maxRecDepth 20000 in
theorem gX4_code_X4_in : GoodIn wsX4_code (va_wsS RX4 44 yX4_in wsX4_in) := goodIn_app (goodIn_of _ (by decide +kernel)) ggX4_code_X4_in
set_option maxRecDepth 20000 in
theorem ggX4_code_X4_coded : GoodIn wsX4_code wsX4_coded := goodIn_r _ [10] (by decide +kernel) (by decide +kernel)
set_option maxRecDepth 20000 in
theorem gX4_code_X4_coded : GoodIn wsX4_code (va_wsS RX4 81 yX4_coded wsX4_coded) := goodIn_app (goodIn_of _ (by decide +kernel)) ggX4_code_X4_coded
set_option maxRecDepth 20000 in
theorem ggX4_code_X4_fails : GoodIn wsX4_code wsX4_fails := goodIn_r _ [14, 1, 15, 16, 17, 18, 19, 20, 21, 22, 23, 24, 25, 26, 27, 28, 29, 30, 31, 32] (by decide +kernel) (by decide +kernel)
set_option maxRecDepth 20000 in
theorem gX4_code_X4_fails : GoodIn wsX4_code (wsV RX4 128 RX4 yX4_fails wsX4_fails) := goodIn_app (goodIn_of _ (by decide +kernel)) ggX4_code_X4_fails
theorem dX4_code_0 : decode cX4_code 0 = .ok (.aload_n 0, 1) := by decide +kernel
theorem dX4_code_1 : decode cX4_code 1 = .ok (.iconst 0, 1) := by decide +kernel
theorem dX4_code_2 : decode cX4_code 2 = .ok (.putfield 40, 3) := by decide +kernel
theorem dX4_code_5 : decode cX4_code 5 = .ok (.iload_n 1, 1) := by decide +kernel
theorem dX4_code_6 : decode cX4_code 6 = .ok (.iconst 0, 1) := by decide +kernel
theorem dX4_code_7 : decode cX4_code 7 = .ok (.ldc 181, 2) := by decide +kernel
theorem dX4_code_9 : decode cX4_code 9 = .ok (.invokestatic 44, 3) := by decide +kernel
theorem dX4_code_12 : decode cX4_code 12 = .ok (.ifCond .eq 16, 3) := by decide +kernel
theorem dX4_code_15 : decode cX4_code 15 = .ok (.iload_n 1, 1) := by decide +kernel
theorem dX4_code_16 : decode cX4_code 16 = .ok (.aload_n 0, 1) := by decide +kernel
theorem dX4_code_17 : decode cX4_code 17 = .ok (.getfield 7, 3) := by decide +kernel
theorem dX4_code_20 : decode cX4_code 20 = .ok (.iconst 0, 1) := by decide +kernel
theorem dX4_code_21 : decode cX4_code 21 = .ok (.iaload, 1) := by decide +kernel
theorem dX4_code_22 : decode cX4_code 22 = .ok (.invokestatic 81, 3) := by decide +kernel
theorem dX4_code_25 : decode cX4_code 25 = .ok (.goto 8, 3) := by decide +kernel
theorem dX4_code_28 : decode cX4_code 28 = .ok (.aload_n 0, 1) := by decide +kernel
theorem dX4_code_29 : decode cX4_code 29 = .ok (.iconst 1, 1) := by decide +kernel
theorem dX4_code_30 : decode cX4_code 30 = .ok (.invokevirtual 128, 3) := by decide +kernel
theorem dX4_code_33 : decode cX4_code 33 = .ok (.ireturn, 1) := by decide +kernel
set_option maxRecDepth 20000 in
theorem ggX4_word_X4_isBody : GoodIn wsX4_word wsX4_isBody := goodIn_r _ [6, 7, 8, 9, 5, 10, 11, 12, 13, 14, 15, 16, 17, 18, 19, 20, 21, 22, 23, 43, 44, 45, 46, 47, 48, 49, 50, 51, 52, 53, 54, 55, 56, 57, 58, 59, 60] (by decide +kernel) (by decide +kernel)
set_option maxRecDepth 20000 in
theorem gX4_word_X4_isBody : GoodIn wsX4_word (wsV RX4 144 RX4 yX4_isBody wsX4_isBody) := goodIn_app (goodIn_of _ (by decide +kernel)) ggX4_word_X4_isBody
set_option maxRecDepth 20000 in
theorem ggX4_word_X4_wordOf : GoodIn wsX4_word wsX4_wordOf := goodIn_r _ [27, 15, 28, 29, 30, 5, 31, 7, 8, 9, 10, 11, 12, 13, 14, 16, 17, 18, 19, 20, 21, 22, 23, 32, 33, 34, 35, 36, 37, 38, 43, 44, 45, 46, 47, 48, 49, 50, 51, 52, 53, 54, 55, 56, 57, 58, 59, 60] (by decide +kernel) (by decide +kernel)
set_option maxRecDepth 20000 in
theorem gX4_word_X4_wordOf : GoodIn wsX4_word (wsV RX4 147 RX4 yX4_wordOf wsX4_wordOf) := goodIn_app (goodIn_of _ (by decide +kernel)) ggX4_word_X4_wordOf
set_option maxRecDepth 20000 in
theorem ggX4_word_X4_fails : GoodIn wsX4_word wsX4_fails := goodIn_r _ [42, 1, 43, 44, 45, 46, 47, 48, 49, 50, 51, 52, 53, 54, 55, 56, 57, 58, 59, 60] (by decide +kernel) (by decide +kernel)
set_option maxRecDepth 20000 in
theorem gX4_word_X4_fails : GoodIn wsX4_word (wsV RX4 128 RX4 yX4_fails wsX4_fails) := goodIn_app (goodIn_of _ (by decide +kernel)) ggX4_word_X4_fails
theorem dX4_word_0 : decode cX4_word 0 = .ok (.aload_n 0, 1) := by decide +kernel
theorem dX4_word_1 : decode cX4_word 1 = .ok (.iconst 0, 1) := by decide +kernel
theorem dX4_word_2 : decode cX4_word 2 = .ok (.putfield 40, 3) := by decide +kernel
theorem dX4_word_5 : decode cX4_word 5 = .ok (.aload_n 0, 1) := by decide +kernel
theorem dX4_word_6 : decode cX4_word 6 = .ok (.iload_n 1, 1) := by decide +kernel
theorem dX4_word_7 : decode cX4_word 7 = .ok (.invokevirtual 144, 3) := by decide +kernel
theorem dX4_word_10 : decode cX4_word 10 = .ok (.ifCond .eq 11, 3) := by decide +kernel
theorem dX4_word_13 : decode cX4_word 13 = .ok (.aload_n 0, 1) := by decide +kernel
theorem dX4_word_14 : decode cX4_word 14 = .ok (.iload_n 1, 1) := by decide +kernel
theorem dX4_word_15 : decode cX4_word 15 = .ok (.invokevirtual 147, 3) := by decide +kernel
theorem dX4_word_18 : decode cX4_word 18 = .ok (.goto 8, 3) := by decide +kernel
theorem dX4_word_21 : decode cX4_word 21 = .ok (.aload_n 0, 1) := by decide +kernel
theorem dX4_word_22 : decode cX4_word 22 = .ok (.iconst 1, 1) := by decide +kernel
theorem dX4_word_23 : decode cX4_word 23 = .ok (.invokevirtual 128, 3) := by decide +kernel
theorem dX4_word_26 : decode cX4_word 26 = .ok (.ireturn, 1) := by decide +kernel
set_option maxRecDepth 20000 in
theorem ggX4_tellsRead_X4_readPath : GoodIn wsX4_tellsRead wsX4_readPath := goodIn_r _ [8, 9, 1, 10, 11, 12, 7, 13, 2, 3, 14, 15, 16, 17, 18, 19, 20, 21, 22, 23, 24, 25, 26, 27, 28, 29, 30, 31, 32, 33, 34, 35, 36, 37, 38, 39, 40, 41, 42, 43, 44, 45, 46, 47, 48, 49, 50, 51, 52, 53, 54, 55, 56, 57, 58, 59, 60, 61, 62, 63, 64, 65, 66, 67, 68, 69, 70, 71, 72, 73, 74, 75, 76, 77, 78, 83, 84, 85, 86, 87, 88, 89, 90, 91, 92, 93, 94, 95, 96, 97, 98, 99, 100] (by decide +kernel) (by decide +kernel)
set_option maxRecDepth 20000 in
theorem gX4_tellsRead_X4_readPath : GoodIn wsX4_tellsRead (wsV RX4 125 RX4 yX4_readPath wsX4_readPath) := goodIn_app (goodIn_of _ (by decide +kernel)) ggX4_tellsRead_X4_readPath
set_option maxRecDepth 20000 in
theorem ggX4_tellsRead_X4_messageOf : GoodIn wsX4_tellsRead wsX4_messageOf := goodIn_r _ [58, 3, 43, 44, 45, 7, 46, 83, 84, 85, 86, 87, 88, 89, 90, 91, 92, 93, 94, 95, 96, 97, 98, 99, 100] (by decide +kernel) (by decide +kernel)
set_option maxRecDepth 20000 in
theorem gX4_tellsRead_X4_messageOf : GoodIn wsX4_tellsRead (wsV RX4 119 RX4 yX4_messageOf wsX4_messageOf) := goodIn_app (goodIn_of _ (by decide +kernel)) ggX4_tellsRead_X4_messageOf
set_option maxRecDepth 20000 in
theorem ggX4_tellsRead_X4_bodyMany : GoodIn wsX4_tellsRead wsX4_bodyMany := goodIn_r _ [66, 67, 68, 69, 7, 70, 3, 43, 44, 45, 46, 71, 72, 73, 74, 83, 84, 85, 86, 87, 88, 89, 90, 91, 92, 93, 94, 95, 96, 97, 98, 99, 100] (by decide +kernel) (by decide +kernel)
set_option maxRecDepth 20000 in
theorem gX4_tellsRead_X4_bodyMany : GoodIn wsX4_tellsRead (wsV RX4 72 RX4 yX4_bodyMany wsX4_bodyMany) := goodIn_app (goodIn_of _ (by decide +kernel)) ggX4_tellsRead_X4_bodyMany
set_option maxRecDepth 20000 in
theorem ggX4_tellsRead_X4_coded : GoodIn wsX4_tellsRead wsX4_coded := goodIn_r _ [38] (by decide +kernel) (by decide +kernel)
set_option maxRecDepth 20000 in
theorem gX4_tellsRead_X4_coded : GoodIn wsX4_tellsRead (va_wsS RX4 81 yX4_coded wsX4_coded) := goodIn_app (goodIn_of _ (by decide +kernel)) ggX4_tellsRead_X4_coded
set_option maxRecDepth 20000 in
theorem ggX4_tellsRead_X4_differing : GoodIn wsX4_tellsRead wsX4_differing := goodIn_r _ [82, 3, 83, 84, 85, 86, 87, 88, 89, 90, 91, 92, 93, 94, 95, 96, 97, 98, 99, 100] (by decide +kernel) (by decide +kernel)
set_option maxRecDepth 20000 in
theorem gX4_tellsRead_X4_differing : GoodIn wsX4_tellsRead (wsV RX4 182 RX4 yX4_differing wsX4_differing) := goodIn_app (goodIn_of _ (by decide +kernel)) ggX4_tellsRead_X4_differing
theorem dX4_tellsRead_0 : decode cX4_tellsRead 0 = .ok (.aload_n 0, 1) := by decide +kernel
theorem dX4_tellsRead_1 : decode cX4_tellsRead 1 = .ok (.invokevirtual 125, 3) := by decide +kernel
theorem dX4_tellsRead_4 : decode cX4_tellsRead 4 = .ok (.istore_n 2, 1) := by decide +kernel
theorem dX4_tellsRead_5 : decode cX4_tellsRead 5 = .ok (.iload_n 2, 1) := by decide +kernel
theorem dX4_tellsRead_6 : decode cX4_tellsRead 6 = .ok (.iconst (-1), 1) := by decide +kernel
theorem dX4_tellsRead_7 : decode cX4_tellsRead 7 = .ok (.if_icmp .ne 5, 3) := by decide +kernel
theorem dX4_tellsRead_10 : decode cX4_tellsRead 10 = .ok (.iconst (-1), 1) := by decide +kernel
theorem dX4_tellsRead_11 : decode cX4_tellsRead 11 = .ok (.ireturn, 1) := by decide +kernel
theorem dX4_tellsRead_12 : decode cX4_tellsRead 12 = .ok (.aload_n 0, 1) := by decide +kernel
theorem dX4_tellsRead_13 : decode cX4_tellsRead 13 = .ok (.aload_n 0, 1) := by decide +kernel
theorem dX4_tellsRead_14 : decode cX4_tellsRead 14 = .ok (.getfield 22, 3) := by decide +kernel
theorem dX4_tellsRead_17 : decode cX4_tellsRead 17 = .ok (.iload_n 2, 1) := by decide +kernel
theorem dX4_tellsRead_18 : decode cX4_tellsRead 18 = .ok (.iaload, 1) := by decide +kernel
theorem dX4_tellsRead_19 : decode cX4_tellsRead 19 = .ok (.invokevirtual 119, 3) := by decide +kernel
theorem dX4_tellsRead_22 : decode cX4_tellsRead 22 = .ok (.istore_n 3, 1) := by decide +kernel
theorem dX4_tellsRead_23 : decode cX4_tellsRead 23 = .ok (.iload_n 1, 1) := by decide +kernel
theorem dX4_tellsRead_24 : decode cX4_tellsRead 24 = .ok (.tableswitch 54 0 3 #[32, 34, 45, 47], 32) := by decide +kernel
theorem dX4_tellsRead_56 : decode cX4_tellsRead 56 = .ok (.iload_n 3, 1) := by decide +kernel
theorem dX4_tellsRead_57 : decode cX4_tellsRead 57 = .ok (.ireturn, 1) := by decide +kernel
theorem dX4_tellsRead_58 : decode cX4_tellsRead 58 = .ok (.iload_n 3, 1) := by decide +kernel
theorem dX4_tellsRead_59 : decode cX4_tellsRead 59 = .ok (.iconst 1, 1) := by decide +kernel
theorem dX4_tellsRead_60 : decode cX4_tellsRead 60 = .ok (.aload_n 0, 1) := by decide +kernel
theorem dX4_tellsRead_61 : decode cX4_tellsRead 61 = .ok (.invokevirtual 72, 3) := by decide +kernel
theorem dX4_tellsRead_64 : decode cX4_tellsRead 64 = .ok (.ishl, 1) := by decide +kernel
theorem dX4_tellsRead_65 : decode cX4_tellsRead 65 = .ok (.iconst 1, 1) := by decide +kernel
theorem dX4_tellsRead_66 : decode cX4_tellsRead 66 = .ok (.isub, 1) := by decide +kernel
theorem dX4_tellsRead_67 : decode cX4_tellsRead 67 = .ok (.iand, 1) := by decide +kernel
theorem dX4_tellsRead_68 : decode cX4_tellsRead 68 = .ok (.ireturn, 1) := by decide +kernel
theorem dX4_tellsRead_69 : decode cX4_tellsRead 69 = .ok (.iload_n 2, 1) := by decide +kernel
theorem dX4_tellsRead_70 : decode cX4_tellsRead 70 = .ok (.ireturn, 1) := by decide +kernel
theorem dX4_tellsRead_71 : decode cX4_tellsRead 71 = .ok (.aload_n 0, 1) := by decide +kernel
theorem dX4_tellsRead_72 : decode cX4_tellsRead 72 = .ok (.getfield 25, 3) := by decide +kernel
theorem dX4_tellsRead_75 : decode cX4_tellsRead 75 = .ok (.iload_n 2, 1) := by decide +kernel
theorem dX4_tellsRead_76 : decode cX4_tellsRead 76 = .ok (.iaload, 1) := by decide +kernel
theorem dX4_tellsRead_77 : decode cX4_tellsRead 77 = .ok (.ireturn, 1) := by decide +kernel
theorem dX4_tellsRead_78 : decode cX4_tellsRead 78 = .ok (.aload_n 0, 1) := by decide +kernel
theorem dX4_tellsRead_79 : decode cX4_tellsRead 79 = .ok (.aload_n 0, 1) := by decide +kernel
theorem dX4_tellsRead_80 : decode cX4_tellsRead 80 = .ok (.getfield 22, 3) := by decide +kernel
theorem dX4_tellsRead_83 : decode cX4_tellsRead 83 = .ok (.iload_n 2, 1) := by decide +kernel
theorem dX4_tellsRead_84 : decode cX4_tellsRead 84 = .ok (.iaload, 1) := by decide +kernel
theorem dX4_tellsRead_85 : decode cX4_tellsRead 85 = .ok (.aload_n 0, 1) := by decide +kernel
theorem dX4_tellsRead_86 : decode cX4_tellsRead 86 = .ok (.getfield 7, 3) := by decide +kernel
theorem dX4_tellsRead_89 : decode cX4_tellsRead 89 = .ok (.iconst 0, 1) := by decide +kernel
theorem dX4_tellsRead_90 : decode cX4_tellsRead 90 = .ok (.iaload, 1) := by decide +kernel
theorem dX4_tellsRead_91 : decode cX4_tellsRead 91 = .ok (.invokestatic 81, 3) := by decide +kernel
theorem dX4_tellsRead_94 : decode cX4_tellsRead 94 = .ok (.invokevirtual 182, 3) := by decide +kernel
theorem dX4_tellsRead_97 : decode cX4_tellsRead 97 = .ok (.ireturn, 1) := by decide +kernel
set_option maxRecDepth 20000 in
theorem ggX4_read_X4_in : GoodIn wsX4_read wsX4_in := goodIn_r _ [5] (by decide +kernel) (by decide +kernel)
set_option maxRecDepth 20000 in
theorem gX4_read_X4_in : GoodIn wsX4_read (va_wsS RX4 44 yX4_in wsX4_in) := goodIn_app (goodIn_of _ (by decide +kernel)) ggX4_read_X4_in
set_option maxRecDepth 20000 in
theorem ggX4_read_X4_tellsRead : GoodIn wsX4_read wsX4_tellsRead := goodIn_r _ [9, 10, 11, 12, 13, 14, 15, 4, 16, 17, 18, 19, 20, 21, 22, 23, 24, 25, 26, 27, 28, 29, 30, 31, 32, 33, 34, 35, 36, 37, 38, 39, 40, 41, 42, 43, 44, 45, 46, 47, 48, 49, 50, 51, 52, 53, 54, 55, 56, 57, 58, 59, 60, 61, 62, 63, 64, 65, 66, 67, 68, 69, 70, 71, 72, 73, 74, 75, 76, 77, 78, 79, 80, 81, 82, 83, 84, 85, 86, 87, 88, 89, 90, 95, 96, 97, 98, 99, 100, 101, 102, 103, 104, 105, 106, 107, 108, 109, 110, 111, 112] (by decide +kernel) (by decide +kernel)
set_option maxRecDepth 20000 in
theorem gX4_read_X4_tellsRead : GoodIn wsX4_read (wsV RX4 185 RX4 yX4_tellsRead wsX4_tellsRead) := goodIn_app (goodIn_of _ (by decide +kernel)) ggX4_read_X4_tellsRead
set_option maxRecDepth 20000 in
theorem ggX4_read_X4_fails : GoodIn wsX4_read wsX4_fails := goodIn_r _ [94, 1, 95, 96, 97, 98, 99, 100, 101, 102, 103, 104, 105, 106, 107, 108, 109, 110, 111, 112] (by decide +kernel) (by decide +kernel)
set_option maxRecDepth 20000 in
theorem gX4_read_X4_fails : GoodIn wsX4_read (wsV RX4 128 RX4 yX4_fails wsX4_fails) := goodIn_app (goodIn_of _ (by decide +kernel)) ggX4_read_X4_fails
theorem dX4_read_0 : decode cX4_read 0 = .ok (.aload_n 0, 1) := by decide +kernel
theorem dX4_read_1 : decode cX4_read 1 = .ok (.iconst 0, 1) := by decide +kernel
theorem dX4_read_2 : decode cX4_read 2 = .ok (.putfield 40, 3) := by decide +kernel
theorem dX4_read_5 : decode cX4_read 5 = .ok (.iload_n 1, 1) := by decide +kernel
theorem dX4_read_6 : decode cX4_read 6 = .ok (.iconst 0, 1) := by decide +kernel
theorem dX4_read_7 : decode cX4_read 7 = .ok (.iconst 4, 1) := by decide +kernel
theorem dX4_read_8 : decode cX4_read 8 = .ok (.invokestatic 44, 3) := by decide +kernel
theorem dX4_read_11 : decode cX4_read 11 = .ok (.ifCond .eq 11, 3) := by decide +kernel
theorem dX4_read_14 : decode cX4_read 14 = .ok (.aload_n 0, 1) := by decide +kernel
theorem dX4_read_15 : decode cX4_read 15 = .ok (.iload_n 1, 1) := by decide +kernel
theorem dX4_read_16 : decode cX4_read 16 = .ok (.invokevirtual 185, 3) := by decide +kernel
theorem dX4_read_19 : decode cX4_read 19 = .ok (.goto 8, 3) := by decide +kernel
theorem dX4_read_22 : decode cX4_read 22 = .ok (.aload_n 0, 1) := by decide +kernel
theorem dX4_read_23 : decode cX4_read 23 = .ok (.iconst 1, 1) := by decide +kernel
theorem dX4_read_24 : decode cX4_read 24 = .ok (.invokevirtual 128, 3) := by decide +kernel
theorem dX4_read_27 : decode cX4_read 27 = .ok (.ireturn, 1) := by decide +kernel
set_option maxRecDepth 20000 in
theorem ggX4_tellsPath_X4_reads : GoodIn wsX4_tellsPath wsX4_reads := goodIn_r _ [8, 1, 2, 3, 9, 10, 11, 12, 13, 14, 7, 15, 16, 17, 18, 19, 20, 21, 22, 23, 24, 25, 26, 27, 28, 29, 30, 31, 32, 33, 34, 35, 36, 37, 38, 39, 40, 41, 42, 43, 44, 45, 46, 47, 48, 49, 50, 75, 76, 77, 78, 79, 80, 81, 82, 83, 84, 85, 86, 87, 88, 89, 90, 91, 92] (by decide +kernel) (by decide +kernel)
set_option maxRecDepth 20000 in
theorem gX4_tellsPath_X4_reads : GoodIn wsX4_tellsPath (wsV RX4 116 RX4 yX4_reads wsX4_reads) := goodIn_app (goodIn_of _ (by decide +kernel)) ggX4_tellsPath_X4_reads
set_option maxRecDepth 20000 in
theorem ggX4_tellsPath_X4_messageOf : GoodIn wsX4_tellsPath wsX4_messageOf := goodIn_r _ [54, 9, 39, 40, 41, 7, 42, 75, 76, 77, 78, 79, 80, 81, 82, 83, 84, 85, 86, 87, 88, 89, 90, 91, 92] (by decide +kernel) (by decide +kernel)
set_option maxRecDepth 20000 in
theorem gX4_tellsPath_X4_messageOf : GoodIn wsX4_tellsPath (wsV RX4 119 RX4 yX4_messageOf wsX4_messageOf) := goodIn_app (goodIn_of _ (by decide +kernel)) ggX4_tellsPath_X4_messageOf
set_option maxRecDepth 20000 in
theorem ggX4_tellsPath_X4_isRight : GoodIn wsX4_tellsPath wsX4_isRight := goodIn_r _ [58, 59, 60, 61, 7, 62, 63, 64, 65, 66, 9, 39, 40, 41, 42, 67, 68, 69, 70, 71, 72, 73, 74, 75, 76, 77, 78, 79, 80, 81, 82, 83, 84, 85, 86, 87, 88, 89, 90, 91, 92] (by decide +kernel) (by decide +kernel)
set_option maxRecDepth 20000 in
theorem gX4_tellsPath_X4_isRight : GoodIn wsX4_tellsPath (wsV RX4 122 RX4 yX4_isRight wsX4_isRight) := goodIn_app (goodIn_of _ (by decide +kernel)) ggX4_tellsPath_X4_isRight
theorem dX4_tellsPath_0 : decode cX4_tellsPath 0 = .ok (.aload_n 0, 1) := by decide +kernel
theorem dX4_tellsPath_1 : decode cX4_tellsPath 1 = .ok (.invokevirtual 116, 3) := by decide +kernel
theorem dX4_tellsPath_4 : decode cX4_tellsPath 4 = .ok (.iload_n 1, 1) := by decide +kernel
theorem dX4_tellsPath_5 : decode cX4_tellsPath 5 = .ok (.aload_n 0, 1) := by decide +kernel
theorem dX4_tellsPath_6 : decode cX4_tellsPath 6 = .ok (.getfield 99, 3) := by decide +kernel
theorem dX4_tellsPath_9 : decode cX4_tellsPath 9 = .ok (.if_icmp .lt 5, 3) := by decide +kernel
theorem dX4_tellsPath_12 : decode cX4_tellsPath 12 = .ok (.iconst (-1), 1) := by decide +kernel
theorem dX4_tellsPath_13 : decode cX4_tellsPath 13 = .ok (.ireturn, 1) := by decide +kernel
theorem dX4_tellsPath_14 : decode cX4_tellsPath 14 = .ok (.aload_n 0, 1) := by decide +kernel
theorem dX4_tellsPath_15 : decode cX4_tellsPath 15 = .ok (.aload_n 0, 1) := by decide +kernel
theorem dX4_tellsPath_16 : decode cX4_tellsPath 16 = .ok (.getfield 22, 3) := by decide +kernel
theorem dX4_tellsPath_19 : decode cX4_tellsPath 19 = .ok (.iload_n 1, 1) := by decide +kernel
theorem dX4_tellsPath_20 : decode cX4_tellsPath 20 = .ok (.iaload, 1) := by decide +kernel
theorem dX4_tellsPath_21 : decode cX4_tellsPath 21 = .ok (.invokevirtual 119, 3) := by decide +kernel
theorem dX4_tellsPath_24 : decode cX4_tellsPath 24 = .ok (.istore_n 3, 1) := by decide +kernel
theorem dX4_tellsPath_25 : decode cX4_tellsPath 25 = .ok (.iload_n 2, 1) := by decide +kernel
theorem dX4_tellsPath_26 : decode cX4_tellsPath 26 = .ok (.ifCond .ne 7, 3) := by decide +kernel
theorem dX4_tellsPath_29 : decode cX4_tellsPath 29 = .ok (.iload_n 3, 1) := by decide +kernel
theorem dX4_tellsPath_30 : decode cX4_tellsPath 30 = .ok (.goto 30, 3) := by decide +kernel
theorem dX4_tellsPath_33 : decode cX4_tellsPath 33 = .ok (.iload_n 2, 1) := by decide +kernel
theorem dX4_tellsPath_34 : decode cX4_tellsPath 34 = .ok (.iconst 1, 1) := by decide +kernel
theorem dX4_tellsPath_35 : decode cX4_tellsPath 35 = .ok (.if_icmp .ne 12, 3) := by decide +kernel
theorem dX4_tellsPath_38 : decode cX4_tellsPath 38 = .ok (.aload_n 0, 1) := by decide +kernel
theorem dX4_tellsPath_39 : decode cX4_tellsPath 39 = .ok (.getfield 25, 3) := by decide +kernel
theorem dX4_tellsPath_42 : decode cX4_tellsPath 42 = .ok (.iload_n 1, 1) := by decide +kernel
theorem dX4_tellsPath_43 : decode cX4_tellsPath 43 = .ok (.iaload, 1) := by decide +kernel
theorem dX4_tellsPath_44 : decode cX4_tellsPath 44 = .ok (.goto 16, 3) := by decide +kernel
theorem dX4_tellsPath_47 : decode cX4_tellsPath 47 = .ok (.aload_n 0, 1) := by decide +kernel
theorem dX4_tellsPath_48 : decode cX4_tellsPath 48 = .ok (.iload_n 3, 1) := by decide +kernel
theorem dX4_tellsPath_49 : decode cX4_tellsPath 49 = .ok (.invokevirtual 122, 3) := by decide +kernel
theorem dX4_tellsPath_52 : decode cX4_tellsPath 52 = .ok (.ifCond .eq 7, 3) := by decide +kernel
theorem dX4_tellsPath_55 : decode cX4_tellsPath 55 = .ok (.iconst 1, 1) := by decide +kernel
theorem dX4_tellsPath_56 : decode cX4_tellsPath 56 = .ok (.goto 4, 3) := by decide +kernel
theorem dX4_tellsPath_59 : decode cX4_tellsPath 59 = .ok (.iconst 0, 1) := by decide +kernel
theorem dX4_tellsPath_60 : decode cX4_tellsPath 60 = .ok (.ireturn, 1) := by decide +kernel
set_option maxRecDepth 20000 in
theorem ggX4_path_X4_in : GoodIn wsX4_path wsX4_in := goodIn_r _ [5] (by decide +kernel) (by decide +kernel)
set_option maxRecDepth 20000 in
theorem gX4_path_X4_in : GoodIn wsX4_path (va_wsS RX4 44 yX4_in wsX4_in) := goodIn_app (goodIn_of _ (by decide +kernel)) ggX4_path_X4_in
set_option maxRecDepth 20000 in
theorem ggX4_path_X4_tellsPath : GoodIn wsX4_path wsX4_tellsPath := goodIn_r _ [9, 10, 11, 12, 13, 14, 15, 4, 16, 17, 18, 19, 20, 21, 22, 23, 24, 25, 26, 27, 28, 29, 30, 31, 32, 33, 34, 35, 36, 37, 38, 39, 40, 41, 42, 43, 44, 45, 46, 47, 48, 49, 50, 51, 52, 53, 54, 55, 56, 57, 58, 59, 60, 61, 62, 63, 64, 65, 66, 67, 68, 69, 70, 71, 72, 73, 74, 75, 76, 77, 78, 79, 80, 81, 82, 87, 88, 89, 90, 91, 92, 93, 94, 95, 96, 97, 98, 99, 100, 101, 102, 103, 104] (by decide +kernel) (by decide +kernel)
