theorem goodIn_ch {big ws : List Cond} (k j : Nat) (h1 : GoodIn big (ws.take k)) (h2 : GoodIn big ((ws.drop k).take j)) : GoodIn big (ws.take (k + j)) := by
  rw [List.take_add]
  exact goodIn_app h1 h2
theorem goodIn_all {big ws : List Cond} (n : Nat) (hn : ws.length ≤ n) (h : GoodIn big (ws.take n)) : GoodIn big ws := by
  rw [List.take_of_length_le hn] at h
  exact h
theorem goodIn_0 {big ws : List Cond} : GoodIn big (ws.take 0) := fun w h => by simp at h
theorem inlX0 : ∀ w ∈ wsX00, w ∈ wsL_law := fun _ h => List.mem_append_left _ (List.mem_append_left _ (List.mem_append_left _ (List.mem_append_left _ (List.mem_append_right _ h))))
theorem inX0 : ∀ w ∈ wsX00, w ∈ lw_tbl := fun w h => wsL_law_in w (inlX0 w h)
theorem inlX1 : ∀ w ∈ wsX10, w ∈ wsL_law := fun _ h => List.mem_append_left _ (List.mem_append_left _ (List.mem_append_left _ (List.mem_append_left _ (List.mem_append_left _ (List.mem_append_right _ h)))))
theorem inX1 : ∀ w ∈ wsX10, w ∈ lw_tbl := fun w h => wsL_law_in w (inlX1 w h)
theorem inlX2 : ∀ w ∈ wsX20, w ∈ wsL_law := fun _ h => List.mem_append_left _ (List.mem_append_left _ (List.mem_append_left _ (List.mem_append_left _ (List.mem_append_left _ (List.mem_append_left _ (List.mem_append_right _ h))))))
theorem inX2 : ∀ w ∈ wsX20, w ∈ lw_tbl := fun w h => wsL_law_in w (inlX2 w h)
theorem inlX3 : ∀ w ∈ wsX30, w ∈ wsL_law := fun _ h => List.mem_append_left _ (List.mem_append_left _ (List.mem_append_left _ (List.mem_append_left _ (List.mem_append_left _ (List.mem_append_left _ (List.mem_append_left _ (List.mem_append_right _ h)))))))
theorem inX3 : ∀ w ∈ wsX30, w ∈ lw_tbl := fun w h => wsL_law_in w (inlX3 w h)
theorem inX4 : ∀ w ∈ wsX40, w ∈ lw_tbl := by decide +kernel
theorem inJ6 : ∀ w ∈ wsJ60, w ∈ lw_tbl := by decide +kernel
theorem inJ9 : ∀ w ∈ wsJ90, w ∈ lw_tbl := by decide +kernel
theorem inJ0 : ∀ w ∈ wsJ00, w ∈ lw_tbl := by decide +kernel
theorem inJ10 : ∀ w ∈ wsJ100, w ∈ lw_tbl := by decide +kernel
theorem dX0_init_0 : decode cX0_init 0 = .ok (.aload_n 0, 1) := by decide +kernel
theorem dX0_init_1 : decode cX0_init 1 = .ok (.invokespecial 3, 3) := by decide +kernel
theorem dX0_init_4 : decode cX0_init 4 = .ok (.aload_n 0, 1) := by decide +kernel
theorem dX0_init_5 : decode cX0_init 5 = .ok (.bipush 16, 2) := by decide +kernel
theorem dX0_init_7 : decode cX0_init 7 = .ok (.newarray .int, 2) := by decide +kernel
theorem dX0_init_9 : decode cX0_init 9 = .ok (.putfield 9, 3) := by decide +kernel
theorem dX0_init_12 : decode cX0_init 12 = .ok (.aload_n 0, 1) := by decide +kernel
theorem dX0_init_13 : decode cX0_init 13 = .ok (.bipush 16, 2) := by decide +kernel
theorem dX0_init_15 : decode cX0_init 15 = .ok (.newarray .int, 2) := by decide +kernel
theorem dX0_init_17 : decode cX0_init 17 = .ok (.putfield 15, 3) := by decide +kernel
theorem dX0_init_20 : decode cX0_init 20 = .ok (.aload_n 0, 1) := by decide +kernel
theorem dX0_init_21 : decode cX0_init 21 = .ok (.iconst 4, 1) := by decide +kernel
theorem dX0_init_22 : decode cX0_init 22 = .ok (.newarray .int, 2) := by decide +kernel
theorem dX0_init_24 : decode cX0_init 24 = .ok (.putfield 18, 3) := by decide +kernel
theorem dX0_init_27 : decode cX0_init 27 = .ok (.aload_n 0, 1) := by decide +kernel
theorem dX0_init_28 : decode cX0_init 28 = .ok (.iconst 4, 1) := by decide +kernel
theorem dX0_init_29 : decode cX0_init 29 = .ok (.newarray .int, 2) := by decide +kernel
theorem dX0_init_31 : decode cX0_init 31 = .ok (.putfield 21, 3) := by decide +kernel
theorem dX0_init_34 : decode cX0_init 34 = .ok (.aload_n 0, 1) := by decide +kernel
theorem dX0_init_35 : decode cX0_init 35 = .ok (.iconst 4, 1) := by decide +kernel
theorem dX0_init_36 : decode cX0_init 36 = .ok (.newarray .int, 2) := by decide +kernel
theorem dX0_init_38 : decode cX0_init 38 = .ok (.putfield 24, 3) := by decide +kernel
theorem dX0_init_41 : decode cX0_init 41 = .ok (.aload_n 0, 1) := by decide +kernel
theorem dX0_init_42 : decode cX0_init 42 = .ok (.iconst 4, 1) := by decide +kernel
theorem dX0_init_43 : decode cX0_init 43 = .ok (.newarray .boolean, 2) := by decide +kernel
theorem dX0_init_45 : decode cX0_init 45 = .ok (.putfield 27, 3) := by decide +kernel
theorem dX0_init_48 : decode cX0_init 48 = .ok (.aload_n 0, 1) := by decide +kernel
theorem dX0_init_49 : decode cX0_init 49 = .ok (.bipush 8, 2) := by decide +kernel
theorem dX0_init_51 : decode cX0_init 51 = .ok (.newarray .int, 2) := by decide +kernel
theorem dX0_init_53 : decode cX0_init 53 = .ok (.putfield 31, 3) := by decide +kernel
theorem dX0_init_56 : decode cX0_init 56 = .ok (.aload_n 0, 1) := by decide +kernel
theorem dX0_init_57 : decode cX0_init 57 = .ok (.bipush 8, 2) := by decide +kernel
theorem dX0_init_59 : decode cX0_init 59 = .ok (.newarray .int, 2) := by decide +kernel
theorem dX0_init_61 : decode cX0_init 61 = .ok (.putfield 34, 3) := by decide +kernel
theorem dX0_init_64 : decode cX0_init 64 = .ok (.return_, 1) := by decide +kernel
set_option maxRecDepth 20000 in
theorem ggX0_messageRead_X2_isOpen : GoodIn wsX0_messageRead wsX2_isOpen := goodIn_r _ [14, 15, 99, 100, 101, 102] (by decide +kernel) (by decide +kernel)
set_option maxRecDepth 20000 in
theorem gX0_messageRead_X2_isOpen : GoodIn wsX0_messageRead (wsV RX0 50 RX2 yX2_isOpen wsX2_isOpen) := goodIn_app (goodIn_of _ (by decide +kernel)) ggX0_messageRead_X2_isOpen
set_option maxRecDepth 20000 in
theorem ggX0_messageRead_X0_growPaths : GoodIn wsX0_messageRead wsX0_growPaths := goodIn_r _ [20, 21, 5, 6, 7, 22, 23, 24, 19, 25, 3, 26, 27, 28, 29, 30, 2, 31, 32, 33, 34, 35, 36, 37, 38, 39, 40, 41, 42, 43, 44, 45, 46, 47, 48, 103, 104, 105, 106, 107, 108, 109, 110, 111, 112, 113, 114] (by decide +kernel) (by decide +kernel)
set_option maxRecDepth 20000 in
theorem gX0_messageRead_X0_growPaths : GoodIn wsX0_messageRead (wsV RX0 54 RX0 yX0_growPaths wsX0_growPaths) := goodIn_app (goodIn_of _ (by decide +kernel)) ggX0_messageRead_X0_growPaths
set_option maxRecDepth 20000 in
theorem ggX0_messageRead_X0_keepLeast : GoodIn wsX0_messageRead wsX0_keepLeast := goodIn_r _ [52, 5, 21, 6, 47, 7, 48, 53, 54, 55, 19, 56, 103, 104, 105, 106, 107, 108, 109, 110, 111, 112, 113, 114] (by decide +kernel) (by decide +kernel)
set_option maxRecDepth 20000 in
theorem gX0_messageRead_X0_keepLeast : GoodIn wsX0_messageRead (wsV RX0 58 RX0 yX0_keepLeast wsX0_keepLeast) := goodIn_app (goodIn_of _ (by decide +kernel)) ggX0_messageRead_X0_keepLeast
set_option maxRecDepth 20000 in
theorem ggX0_messageRead_X0_orderByPenalties : GoodIn wsX0_messageRead wsX0_orderByPenalties := goodIn_r _ [60, 21, 5, 6, 7, 47, 48, 43, 44, 45, 19, 46, 53, 54, 55, 56, 103, 104, 105, 106, 107, 108, 109, 110, 111, 112, 113, 114] (by decide +kernel) (by decide +kernel)
set_option maxRecDepth 20000 in
theorem gX0_messageRead_X0_orderByPenalties : GoodIn wsX0_messageRead (wsV RX0 62 RX0 yX0_orderByPenalties wsX0_orderByPenalties) := goodIn_app (goodIn_of _ (by decide +kernel)) ggX0_messageRead_X0_orderByPenalties
set_option maxRecDepth 20000 in
theorem ggX0_messageRead_X0_judge : GoodIn wsX0_messageRead wsX0_judge := goodIn_r _ [64, 8, 5, 6, 9, 65, 66, 67, 68, 13, 69, 70, 71, 72, 73, 15, 74, 75, 76, 77, 78, 79, 80, 81, 82, 83, 84, 85, 86, 87, 88, 89, 90, 91, 92, 93, 94, 95, 96, 11, 12, 14, 97, 36, 98, 103, 104, 105, 106, 107, 108, 109, 110, 111, 112, 113, 114, 99, 100, 101, 102] (by decide +kernel) (by decide +kernel)
set_option maxRecDepth 20000 in
theorem gX0_messageRead_X0_judge : GoodIn wsX0_messageRead (wsV RX0 65 RX0 yX0_judge wsX0_judge) := goodIn_app (goodIn_of _ (by decide +kernel)) ggX0_messageRead_X0_judge
theorem dX0_messageRead_0 : decode cX0_messageRead 0 = .ok (.aload_n 0, 1) := by decide +kernel
theorem dX0_messageRead_1 : decode cX0_messageRead 1 = .ok (.aload_n 1, 1) := by decide +kernel
theorem dX0_messageRead_2 : decode cX0_messageRead 2 = .ok (.getfield 37, 3) := by decide +kernel
theorem dX0_messageRead_5 : decode cX0_messageRead 5 = .ok (.putfield 43, 3) := by decide +kernel
theorem dX0_messageRead_8 : decode cX0_messageRead 8 = .ok (.iconst 0, 1) := by decide +kernel
theorem dX0_messageRead_9 : decode cX0_messageRead 9 = .ok (.istore 4, 2) := by decide +kernel
theorem dX0_messageRead_11 : decode cX0_messageRead 11 = .ok (.iload 4, 2) := by decide +kernel
theorem dX0_messageRead_13 : decode cX0_messageRead 13 = .ok (.bipush 16, 2) := by decide +kernel
theorem dX0_messageRead_15 : decode cX0_messageRead 15 = .ok (.if_icmp .ge 44, 3) := by decide +kernel
theorem dX0_messageRead_18 : decode cX0_messageRead 18 = .ok (.aload_n 0, 1) := by decide +kernel
theorem dX0_messageRead_19 : decode cX0_messageRead 19 = .ok (.getfield 9, 3) := by decide +kernel
theorem dX0_messageRead_22 : decode cX0_messageRead 22 = .ok (.iload 4, 2) := by decide +kernel
theorem dX0_messageRead_24 : decode cX0_messageRead 24 = .ok (.iload_n 2, 1) := by decide +kernel
theorem dX0_messageRead_25 : decode cX0_messageRead 25 = .ok (.iload 4, 2) := by decide +kernel
theorem dX0_messageRead_27 : decode cX0_messageRead 27 = .ok (.ishr, 1) := by decide +kernel
theorem dX0_messageRead_28 : decode cX0_messageRead 28 = .ok (.iconst 1, 1) := by decide +kernel
theorem dX0_messageRead_29 : decode cX0_messageRead 29 = .ok (.iand, 1) := by decide +kernel
theorem dX0_messageRead_30 : decode cX0_messageRead 30 = .ok (.iconst 1, 1) := by decide +kernel
theorem dX0_messageRead_31 : decode cX0_messageRead 31 = .ok (.if_icmp .ne 14, 3) := by decide +kernel
theorem dX0_messageRead_34 : decode cX0_messageRead 34 = .ok (.aload_n 1, 1) := by decide +kernel
theorem dX0_messageRead_35 : decode cX0_messageRead 35 = .ok (.getfield 44, 3) := by decide +kernel
theorem dX0_messageRead_38 : decode cX0_messageRead 38 = .ok (.iload 4, 2) := by decide +kernel
theorem dX0_messageRead_40 : decode cX0_messageRead 40 = .ok (.iaload, 1) := by decide +kernel
theorem dX0_messageRead_41 : decode cX0_messageRead 41 = .ok (.ineg, 1) := by decide +kernel
theorem dX0_messageRead_42 : decode cX0_messageRead 42 = .ok (.goto 10, 3) := by decide +kernel
theorem dX0_messageRead_45 : decode cX0_messageRead 45 = .ok (.aload_n 1, 1) := by decide +kernel
theorem dX0_messageRead_46 : decode cX0_messageRead 46 = .ok (.getfield 44, 3) := by decide +kernel
theorem dX0_messageRead_49 : decode cX0_messageRead 49 = .ok (.iload 4, 2) := by decide +kernel
theorem dX0_messageRead_51 : decode cX0_messageRead 51 = .ok (.iaload, 1) := by decide +kernel
theorem dX0_messageRead_52 : decode cX0_messageRead 52 = .ok (.iastore, 1) := by decide +kernel
theorem dX0_messageRead_53 : decode cX0_messageRead 53 = .ok (.iinc 4 1, 3) := by decide +kernel
theorem dX0_messageRead_56 : decode cX0_messageRead 56 = .ok (.goto (-45), 3) := by decide +kernel
theorem dX0_messageRead_59 : decode cX0_messageRead 59 = .ok (.aload_n 0, 1) := by decide +kernel
theorem dX0_messageRead_60 : decode cX0_messageRead 60 = .ok (.iconst 1, 1) := by decide +kernel
theorem dX0_messageRead_61 : decode cX0_messageRead 61 = .ok (.putfield 47, 3) := by decide +kernel
theorem dX0_messageRead_64 : decode cX0_messageRead 64 = .ok (.aload_n 0, 1) := by decide +kernel
theorem dX0_messageRead_65 : decode cX0_messageRead 65 = .ok (.getfield 18, 3) := by decide +kernel
theorem dX0_messageRead_68 : decode cX0_messageRead 68 = .ok (.iconst 0, 1) := by decide +kernel
theorem dX0_messageRead_69 : decode cX0_messageRead 69 = .ok (.iconst 0, 1) := by decide +kernel
theorem dX0_messageRead_70 : decode cX0_messageRead 70 = .ok (.iastore, 1) := by decide +kernel
theorem dX0_messageRead_71 : decode cX0_messageRead 71 = .ok (.aload_n 0, 1) := by decide +kernel
theorem dX0_messageRead_72 : decode cX0_messageRead 72 = .ok (.getfield 21, 3) := by decide +kernel
theorem dX0_messageRead_75 : decode cX0_messageRead 75 = .ok (.iconst 0, 1) := by decide +kernel
theorem dX0_messageRead_76 : decode cX0_messageRead 76 = .ok (.iconst 0, 1) := by decide +kernel
theorem dX0_messageRead_77 : decode cX0_messageRead 77 = .ok (.iastore, 1) := by decide +kernel
theorem dX0_messageRead_78 : decode cX0_messageRead 78 = .ok (.iconst 0, 1) := by decide +kernel
theorem dX0_messageRead_79 : decode cX0_messageRead 79 = .ok (.istore 4, 2) := by decide +kernel
theorem dX0_messageRead_81 : decode cX0_messageRead 81 = .ok (.iload 4, 2) := by decide +kernel
theorem dX0_messageRead_83 : decode cX0_messageRead 83 = .ok (.aload_n 0, 1) := by decide +kernel
theorem dX0_messageRead_84 : decode cX0_messageRead 84 = .ok (.getfield 43, 3) := by decide +kernel
theorem dX0_messageRead_87 : decode cX0_messageRead 87 = .ok (.if_icmp .ge 26, 3) := by decide +kernel
theorem dX0_messageRead_90 : decode cX0_messageRead 90 = .ok (.aload_n 0, 1) := by decide +kernel
theorem dX0_messageRead_91 : decode cX0_messageRead 91 = .ok (.iload 4, 2) := by decide +kernel
theorem dX0_messageRead_93 : decode cX0_messageRead 93 = .ok (.aload_n 1, 1) := by decide +kernel
theorem dX0_messageRead_94 : decode cX0_messageRead 94 = .ok (.iload 4, 2) := by decide +kernel
theorem dX0_messageRead_96 : decode cX0_messageRead 96 = .ok (.invokevirtual 50, 3) := by decide +kernel
theorem dX0_messageRead_99 : decode cX0_messageRead 99 = .ok (.invokevirtual 54, 3) := by decide +kernel
theorem dX0_messageRead_102 : decode cX0_messageRead 102 = .ok (.aload_n 0, 1) := by decide +kernel
theorem dX0_messageRead_103 : decode cX0_messageRead 103 = .ok (.iload_n 3, 1) := by decide +kernel
theorem dX0_messageRead_104 : decode cX0_messageRead 104 = .ok (.invokevirtual 58, 3) := by decide +kernel
theorem dX0_messageRead_107 : decode cX0_messageRead 107 = .ok (.iinc 4 1, 3) := by decide +kernel
theorem dX0_messageRead_110 : decode cX0_messageRead 110 = .ok (.goto (-29), 3) := by decide +kernel
theorem dX0_messageRead_113 : decode cX0_messageRead 113 = .ok (.aload_n 0, 1) := by decide +kernel
theorem dX0_messageRead_114 : decode cX0_messageRead 114 = .ok (.invokevirtual 62, 3) := by decide +kernel
theorem dX0_messageRead_117 : decode cX0_messageRead 117 = .ok (.aload_n 0, 1) := by decide +kernel
theorem dX0_messageRead_118 : decode cX0_messageRead 118 = .ok (.aload_n 1, 1) := by decide +kernel
theorem dX0_messageRead_119 : decode cX0_messageRead 119 = .ok (.invokevirtual 65, 3) := by decide +kernel
theorem dX0_messageRead_122 : decode cX0_messageRead 122 = .ok (.aload_n 0, 1) := by decide +kernel
theorem dX0_messageRead_123 : decode cX0_messageRead 123 = .ok (.getfield 69, 3) := by decide +kernel
theorem dX0_messageRead_126 : decode cX0_messageRead 126 = .ok (.ifCond .lt 23, 3) := by decide +kernel
theorem dX0_messageRead_129 : decode cX0_messageRead 129 = .ok (.aload_n 0, 1) := by decide +kernel
theorem dX0_messageRead_130 : decode cX0_messageRead 130 = .ok (.getfield 69, 3) := by decide +kernel
theorem dX0_messageRead_133 : decode cX0_messageRead 133 = .ok (.iconst 4, 1) := by decide +kernel
theorem dX0_messageRead_134 : decode cX0_messageRead 134 = .ok (.if_icmp .ge 15, 3) := by decide +kernel
theorem dX0_messageRead_137 : decode cX0_messageRead 137 = .ok (.aload_n 0, 1) := by decide +kernel
theorem dX0_messageRead_138 : decode cX0_messageRead 138 = .ok (.getfield 24, 3) := by decide +kernel
theorem dX0_messageRead_141 : decode cX0_messageRead 141 = .ok (.aload_n 0, 1) := by decide +kernel
theorem dX0_messageRead_142 : decode cX0_messageRead 142 = .ok (.getfield 69, 3) := by decide +kernel
theorem dX0_messageRead_145 : decode cX0_messageRead 145 = .ok (.iaload, 1) := by decide +kernel
theorem dX0_messageRead_146 : decode cX0_messageRead 146 = .ok (.goto 4, 3) := by decide +kernel
theorem dX0_messageRead_149 : decode cX0_messageRead 149 = .ok (.iconst (-1), 1) := by decide +kernel
theorem dX0_messageRead_150 : decode cX0_messageRead 150 = .ok (.ireturn, 1) := by decide +kernel
set_option maxRecDepth 20000 in
theorem ggX0_judge_X2_bodyBits : GoodIn wsX0_judge wsX2_bodyBits := goodIn_r _ [10, 11, 12, 13, 9, 14, 15, 16, 17, 18, 19, 20, 21, 22, 23, 24, 25, 26, 27, 28, 29, 30, 31, 57, 58, 59, 60] (by decide +kernel) (by decide +kernel)
set_option maxRecDepth 20000 in
theorem gX0_judge_X2_bodyBits : GoodIn wsX0_judge (wsV RX0 72 RX2 yX2_bodyBits wsX2_bodyBits) := goodIn_app (goodIn_of _ (by decide +kernel)) ggX0_judge_X2_bodyBits
set_option maxRecDepth 20000 in
theorem ggX0_judge_X2_checkBits : GoodIn wsX0_judge wsX2_checkBits := goodIn_r _ [26, 27, 28, 29, 30, 31, 11, 12, 13, 9, 14, 15, 16, 17, 18, 19, 20, 21, 22, 57, 58, 59, 60] (by decide +kernel) (by decide +kernel)
set_option maxRecDepth 20000 in
theorem gX0_judge_X2_checkBits : GoodIn wsX0_judge (wsV RX0 76 RX2 yX2_checkBits wsX2_checkBits) := goodIn_app (goodIn_of _ (by decide +kernel)) ggX0_judge_X2_checkBits
set_option maxRecDepth 20000 in
theorem ggX0_judge_X2_messageOf : GoodIn wsX0_judge wsX2_messageOf := goodIn_r _ [36, 37, 38, 39, 40, 9, 41, 15, 57, 58, 59, 60] (by decide +kernel) (by decide +kernel)
set_option maxRecDepth 20000 in
theorem gX0_judge_X2_messageOf : GoodIn wsX0_judge (wsV RX0 79 RX2 yX2_messageOf wsX2_messageOf) := goodIn_app (goodIn_of _ (by decide +kernel)) ggX0_judge_X2_messageOf
set_option maxRecDepth 20000 in
theorem ggX0_judge_X3_checkNumber : GoodIn wsX0_judge wsX3_checkNumber := goodIn_r _ [44] (by decide +kernel) (by decide +kernel)
set_option maxRecDepth 20000 in
theorem gX0_judge_X3_checkNumber_n83 : GoodIn wsX0_judge (wsX3_checkNumber) := ggX0_judge_X3_checkNumber
theorem dX0_judge_0 : decode cX0_judge 0 = .ok (.aload_n 1, 1) := by decide +kernel
theorem dX0_judge_1 : decode cX0_judge 1 = .ok (.invokevirtual 72, 3) := by decide +kernel
theorem dX0_judge_4 : decode cX0_judge 4 = .ok (.istore_n 2, 1) := by decide +kernel
theorem dX0_judge_5 : decode cX0_judge 5 = .ok (.aload_n 1, 1) := by decide +kernel
theorem dX0_judge_6 : decode cX0_judge 6 = .ok (.invokevirtual 76, 3) := by decide +kernel
theorem dX0_judge_9 : decode cX0_judge 9 = .ok (.istore_n 3, 1) := by decide +kernel
theorem dX0_judge_10 : decode cX0_judge 10 = .ok (.aload_n 0, 1) := by decide +kernel
theorem dX0_judge_11 : decode cX0_judge 11 = .ok (.iconst (-1), 1) := by decide +kernel
theorem dX0_judge_12 : decode cX0_judge 12 = .ok (.putfield 69, 3) := by decide +kernel
theorem dX0_judge_15 : decode cX0_judge 15 = .ok (.iconst 0, 1) := by decide +kernel
theorem dX0_judge_16 : decode cX0_judge 16 = .ok (.istore 4, 2) := by decide +kernel
theorem dX0_judge_18 : decode cX0_judge 18 = .ok (.iload 4, 2) := by decide +kernel
theorem dX0_judge_20 : decode cX0_judge 20 = .ok (.aload_n 0, 1) := by decide +kernel
theorem dX0_judge_21 : decode cX0_judge 21 = .ok (.getfield 47, 3) := by decide +kernel
theorem dX0_judge_24 : decode cX0_judge 24 = .ok (.if_icmp .ge 87, 3) := by decide +kernel
theorem dX0_judge_27 : decode cX0_judge 27 = .ok (.iload 4, 2) := by decide +kernel
theorem dX0_judge_29 : decode cX0_judge 29 = .ok (.iconst 4, 1) := by decide +kernel
theorem dX0_judge_30 : decode cX0_judge 30 = .ok (.if_icmp .ge 81, 3) := by decide +kernel
theorem dX0_judge_33 : decode cX0_judge 33 = .ok (.aload_n 1, 1) := by decide +kernel
theorem dX0_judge_34 : decode cX0_judge 34 = .ok (.aload_n 0, 1) := by decide +kernel
theorem dX0_judge_35 : decode cX0_judge 35 = .ok (.getfield 18, 3) := by decide +kernel
theorem dX0_judge_38 : decode cX0_judge 38 = .ok (.iload 4, 2) := by decide +kernel
theorem dX0_judge_40 : decode cX0_judge 40 = .ok (.iaload, 1) := by decide +kernel
theorem dX0_judge_41 : decode cX0_judge 41 = .ok (.invokevirtual 79, 3) := by decide +kernel
theorem dX0_judge_44 : decode cX0_judge 44 = .ok (.istore 5, 2) := by decide +kernel
theorem dX0_judge_46 : decode cX0_judge 46 = .ok (.aload_n 0, 1) := by decide +kernel
theorem dX0_judge_47 : decode cX0_judge 47 = .ok (.getfield 24, 3) := by decide +kernel
theorem dX0_judge_50 : decode cX0_judge 50 = .ok (.iload 4, 2) := by decide +kernel
theorem dX0_judge_52 : decode cX0_judge 52 = .ok (.iload 5, 2) := by decide +kernel
theorem dX0_judge_54 : decode cX0_judge 54 = .ok (.iastore, 1) := by decide +kernel
theorem dX0_judge_55 : decode cX0_judge 55 = .ok (.aload_n 0, 1) := by decide +kernel
theorem dX0_judge_56 : decode cX0_judge 56 = .ok (.getfield 27, 3) := by decide +kernel
theorem dX0_judge_59 : decode cX0_judge 59 = .ok (.iload 4, 2) := by decide +kernel
theorem dX0_judge_61 : decode cX0_judge 61 = .ok (.iload 5, 2) := by decide +kernel
theorem dX0_judge_63 : decode cX0_judge 63 = .ok (.iload_n 2, 1) := by decide +kernel
theorem dX0_judge_64 : decode cX0_judge 64 = .ok (.ishr, 1) := by decide +kernel
theorem dX0_judge_65 : decode cX0_judge 65 = .ok (.iload 5, 2) := by decide +kernel
theorem dX0_judge_67 : decode cX0_judge 67 = .ok (.iload_n 2, 1) := by decide +kernel
theorem dX0_judge_68 : decode cX0_judge 68 = .ok (.iload_n 3, 1) := by decide +kernel
theorem dX0_judge_69 : decode cX0_judge 69 = .ok (.invokestatic 83, 3) := by decide +kernel
theorem dX0_judge_72 : decode cX0_judge 72 = .ok (.if_icmp .ne 7, 3) := by decide +kernel
theorem dX0_judge_75 : decode cX0_judge 75 = .ok (.iconst 1, 1) := by decide +kernel
theorem dX0_judge_76 : decode cX0_judge 76 = .ok (.goto 4, 3) := by decide +kernel
theorem dX0_judge_79 : decode cX0_judge 79 = .ok (.iconst 0, 1) := by decide +kernel
theorem dX0_judge_80 : decode cX0_judge 80 = .ok (.bastore, 1) := by decide +kernel
theorem dX0_judge_81 : decode cX0_judge 81 = .ok (.aload_n 0, 1) := by decide +kernel
theorem dX0_judge_82 : decode cX0_judge 82 = .ok (.getfield 27, 3) := by decide +kernel
theorem dX0_judge_85 : decode cX0_judge 85 = .ok (.iload 4, 2) := by decide +kernel
theorem dX0_judge_87 : decode cX0_judge 87 = .ok (.baload, 1) := by decide +kernel
theorem dX0_judge_88 : decode cX0_judge 88 = .ok (.ifCond .eq 17, 3) := by decide +kernel
theorem dX0_judge_91 : decode cX0_judge 91 = .ok (.aload_n 0, 1) := by decide +kernel
theorem dX0_judge_92 : decode cX0_judge 92 = .ok (.getfield 69, 3) := by decide +kernel
theorem dX0_judge_95 : decode cX0_judge 95 = .ok (.iconst (-1), 1) := by decide +kernel
theorem dX0_judge_96 : decode cX0_judge 96 = .ok (.if_icmp .ne 9, 3) := by decide +kernel
theorem dX0_judge_99 : decode cX0_judge 99 = .ok (.aload_n 0, 1) := by decide +kernel
theorem dX0_judge_100 : decode cX0_judge 100 = .ok (.iload 4, 2) := by decide +kernel
theorem dX0_judge_102 : decode cX0_judge 102 = .ok (.putfield 69, 3) := by decide +kernel
theorem dX0_judge_105 : decode cX0_judge 105 = .ok (.iinc 4 1, 3) := by decide +kernel
theorem dX0_judge_108 : decode cX0_judge 108 = .ok (.goto (-90), 3) := by decide +kernel
theorem dX0_judge_111 : decode cX0_judge 111 = .ok (.return_, 1) := by decide +kernel
set_option maxRecDepth 20000 in
theorem ggX0_growPaths_X0_hear : GoodIn wsX0_growPaths wsX0_hear := goodIn_r _ [9, 10, 11, 12, 13, 14, 15, 16, 17, 18, 19, 8, 20, 21, 22, 23, 24, 25, 26, 27, 28, 35, 36, 37, 38, 39, 40, 41, 42, 43, 44, 45, 46] (by decide +kernel) (by decide +kernel)
set_option maxRecDepth 20000 in
theorem gX0_growPaths_X0_hear : GoodIn wsX0_growPaths (wsV RX0 90 RX0 yX0_hear wsX0_hear) := goodIn_app (goodIn_of _ (by decide +kernel)) ggX0_growPaths_X0_hear
set_option maxRecDepth 20000 in
theorem ggX0_growPaths_X0_addGrown : GoodIn wsX0_growPaths wsX0_addGrown := goodIn_r _ [32, 1, 33, 34, 35, 36, 37, 38, 39, 40, 41, 42, 43, 44, 45, 46] (by decide +kernel) (by decide +kernel)
set_option maxRecDepth 20000 in
theorem gX0_growPaths_X0_addGrown : GoodIn wsX0_growPaths (wsV RX0 94 RX0 yX0_addGrown wsX0_addGrown) := goodIn_app (goodIn_of _ (by decide +kernel)) ggX0_growPaths_X0_addGrown
theorem dX0_growPaths_0 : decode cX0_growPaths 0 = .ok (.aload_n 0, 1) := by decide +kernel
theorem dX0_growPaths_1 : decode cX0_growPaths 1 = .ok (.iconst 0, 1) := by decide +kernel
theorem dX0_growPaths_2 : decode cX0_growPaths 2 = .ok (.putfield 87, 3) := by decide +kernel
theorem dX0_growPaths_5 : decode cX0_growPaths 5 = .ok (.iconst 0, 1) := by decide +kernel
theorem dX0_growPaths_6 : decode cX0_growPaths 6 = .ok (.istore_n 3, 1) := by decide +kernel
theorem dX0_growPaths_7 : decode cX0_growPaths 7 = .ok (.iload_n 3, 1) := by decide +kernel
theorem dX0_growPaths_8 : decode cX0_growPaths 8 = .ok (.aload_n 0, 1) := by decide +kernel
theorem dX0_growPaths_9 : decode cX0_growPaths 9 = .ok (.getfield 47, 3) := by decide +kernel
theorem dX0_growPaths_12 : decode cX0_growPaths 12 = .ok (.if_icmp .ge 92, 3) := by decide +kernel
theorem dX0_growPaths_15 : decode cX0_growPaths 15 = .ok (.iload_n 3, 1) := by decide +kernel
theorem dX0_growPaths_16 : decode cX0_growPaths 16 = .ok (.iconst 4, 1) := by decide +kernel
theorem dX0_growPaths_17 : decode cX0_growPaths 17 = .ok (.if_icmp .ge 87, 3) := by decide +kernel
theorem dX0_growPaths_20 : decode cX0_growPaths 20 = .ok (.aload_n 0, 1) := by decide +kernel
theorem dX0_growPaths_21 : decode cX0_growPaths 21 = .ok (.aload_n 0, 1) := by decide +kernel
theorem dX0_growPaths_22 : decode cX0_growPaths 22 = .ok (.getfield 18, 3) := by decide +kernel
theorem dX0_growPaths_25 : decode cX0_growPaths 25 = .ok (.iload_n 3, 1) := by decide +kernel
theorem dX0_growPaths_26 : decode cX0_growPaths 26 = .ok (.iaload, 1) := by decide +kernel
theorem dX0_growPaths_27 : decode cX0_growPaths 27 = .ok (.iload_n 1, 1) := by decide +kernel
theorem dX0_growPaths_28 : decode cX0_growPaths 28 = .ok (.invokevirtual 90, 3) := by decide +kernel
theorem dX0_growPaths_31 : decode cX0_growPaths 31 = .ok (.istore 4, 2) := by decide +kernel
theorem dX0_growPaths_33 : decode cX0_growPaths 33 = .ok (.aload_n 0, 1) := by decide +kernel
theorem dX0_growPaths_34 : decode cX0_growPaths 34 = .ok (.aload_n 0, 1) := by decide +kernel
theorem dX0_growPaths_35 : decode cX0_growPaths 35 = .ok (.getfield 18, 3) := by decide +kernel
theorem dX0_growPaths_38 : decode cX0_growPaths 38 = .ok (.iload_n 3, 1) := by decide +kernel
theorem dX0_growPaths_39 : decode cX0_growPaths 39 = .ok (.iaload, 1) := by decide +kernel
theorem dX0_growPaths_40 : decode cX0_growPaths 40 = .ok (.aload_n 0, 1) := by decide +kernel
theorem dX0_growPaths_41 : decode cX0_growPaths 41 = .ok (.getfield 21, 3) := by decide +kernel
theorem dX0_growPaths_44 : decode cX0_growPaths 44 = .ok (.iload_n 3, 1) := by decide +kernel
theorem dX0_growPaths_45 : decode cX0_growPaths 45 = .ok (.iaload, 1) := by decide +kernel
theorem dX0_growPaths_46 : decode cX0_growPaths 46 = .ok (.iload 4, 2) := by decide +kernel
theorem dX0_growPaths_48 : decode cX0_growPaths 48 = .ok (.ifCond .ge 9, 3) := by decide +kernel
theorem dX0_growPaths_51 : decode cX0_growPaths 51 = .ok (.iload 4, 2) := by decide +kernel
theorem dX0_growPaths_53 : decode cX0_growPaths 53 = .ok (.ineg, 1) := by decide +kernel
theorem dX0_growPaths_54 : decode cX0_growPaths 54 = .ok (.goto 4, 3) := by decide +kernel
theorem dX0_growPaths_57 : decode cX0_growPaths 57 = .ok (.iconst 0, 1) := by decide +kernel
theorem dX0_growPaths_58 : decode cX0_growPaths 58 = .ok (.iadd, 1) := by decide +kernel
theorem dX0_growPaths_59 : decode cX0_growPaths 59 = .ok (.invokevirtual 94, 3) := by decide +kernel
theorem dX0_growPaths_62 : decode cX0_growPaths 62 = .ok (.iload_n 2, 1) := by decide +kernel
theorem dX0_growPaths_63 : decode cX0_growPaths 63 = .ok (.ifCond .eq 35, 3) := by decide +kernel
theorem dX0_growPaths_66 : decode cX0_growPaths 66 = .ok (.aload_n 0, 1) := by decide +kernel
theorem dX0_growPaths_67 : decode cX0_growPaths 67 = .ok (.aload_n 0, 1) := by decide +kernel
theorem dX0_growPaths_68 : decode cX0_growPaths 68 = .ok (.getfield 18, 3) := by decide +kernel
theorem dX0_growPaths_71 : decode cX0_growPaths 71 = .ok (.iload_n 3, 1) := by decide +kernel
theorem dX0_growPaths_72 : decode cX0_growPaths 72 = .ok (.iaload, 1) := by decide +kernel
theorem dX0_growPaths_73 : decode cX0_growPaths 73 = .ok (.iconst 1, 1) := by decide +kernel
theorem dX0_growPaths_74 : decode cX0_growPaths 74 = .ok (.iload_n 1, 1) := by decide +kernel
theorem dX0_growPaths_75 : decode cX0_growPaths 75 = .ok (.ishl, 1) := by decide +kernel
theorem dX0_growPaths_76 : decode cX0_growPaths 76 = .ok (.ior, 1) := by decide +kernel
theorem dX0_growPaths_77 : decode cX0_growPaths 77 = .ok (.aload_n 0, 1) := by decide +kernel
theorem dX0_growPaths_78 : decode cX0_growPaths 78 = .ok (.getfield 21, 3) := by decide +kernel
theorem dX0_growPaths_81 : decode cX0_growPaths 81 = .ok (.iload_n 3, 1) := by decide +kernel
theorem dX0_growPaths_82 : decode cX0_growPaths 82 = .ok (.iaload, 1) := by decide +kernel
theorem dX0_growPaths_83 : decode cX0_growPaths 83 = .ok (.iload 4, 2) := by decide +kernel
theorem dX0_growPaths_85 : decode cX0_growPaths 85 = .ok (.ifCond .le 8, 3) := by decide +kernel
theorem dX0_growPaths_88 : decode cX0_growPaths 88 = .ok (.iload 4, 2) := by decide +kernel
theorem dX0_growPaths_90 : decode cX0_growPaths 90 = .ok (.goto 4, 3) := by decide +kernel
theorem dX0_growPaths_93 : decode cX0_growPaths 93 = .ok (.iconst 0, 1) := by decide +kernel
theorem dX0_growPaths_94 : decode cX0_growPaths 94 = .ok (.iadd, 1) := by decide +kernel
theorem dX0_growPaths_95 : decode cX0_growPaths 95 = .ok (.invokevirtual 94, 3) := by decide +kernel
theorem dX0_growPaths_98 : decode cX0_growPaths 98 = .ok (.iinc 3 1, 3) := by decide +kernel
theorem dX0_growPaths_101 : decode cX0_growPaths 101 = .ok (.goto (-94), 3) := by decide +kernel
theorem dX0_growPaths_104 : decode cX0_growPaths 104 = .ok (.return_, 1) := by decide +kernel
theorem dX0_addGrown_0 : decode cX0_addGrown 0 = .ok (.aload_n 0, 1) := by decide +kernel
theorem dX0_addGrown_1 : decode cX0_addGrown 1 = .ok (.getfield 87, 3) := by decide +kernel
theorem dX0_addGrown_4 : decode cX0_addGrown 4 = .ok (.aload_n 0, 1) := by decide +kernel
theorem dX0_addGrown_5 : decode cX0_addGrown 5 = .ok (.getfield 31, 3) := by decide +kernel
theorem dX0_addGrown_8 : decode cX0_addGrown 8 = .ok (.arraylength, 1) := by decide +kernel
theorem dX0_addGrown_9 : decode cX0_addGrown 9 = .ok (.if_icmp .ge 33, 3) := by decide +kernel
theorem dX0_addGrown_12 : decode cX0_addGrown 12 = .ok (.aload_n 0, 1) := by decide +kernel
theorem dX0_addGrown_13 : decode cX0_addGrown 13 = .ok (.getfield 31, 3) := by decide +kernel
theorem dX0_addGrown_16 : decode cX0_addGrown 16 = .ok (.aload_n 0, 1) := by decide +kernel
theorem dX0_addGrown_17 : decode cX0_addGrown 17 = .ok (.getfield 87, 3) := by decide +kernel
theorem dX0_addGrown_20 : decode cX0_addGrown 20 = .ok (.iload_n 1, 1) := by decide +kernel
theorem dX0_addGrown_21 : decode cX0_addGrown 21 = .ok (.iastore, 1) := by decide +kernel
theorem dX0_addGrown_22 : decode cX0_addGrown 22 = .ok (.aload_n 0, 1) := by decide +kernel
theorem dX0_addGrown_23 : decode cX0_addGrown 23 = .ok (.getfield 34, 3) := by decide +kernel
theorem dX0_addGrown_26 : decode cX0_addGrown 26 = .ok (.aload_n 0, 1) := by decide +kernel
theorem dX0_addGrown_27 : decode cX0_addGrown 27 = .ok (.getfield 87, 3) := by decide +kernel
theorem dX0_addGrown_30 : decode cX0_addGrown 30 = .ok (.iload_n 2, 1) := by decide +kernel
theorem dX0_addGrown_31 : decode cX0_addGrown 31 = .ok (.iastore, 1) := by decide +kernel
theorem dX0_addGrown_32 : decode cX0_addGrown 32 = .ok (.aload_n 0, 1) := by decide +kernel
theorem dX0_addGrown_33 : decode cX0_addGrown 33 = .ok (.dup, 1) := by decide +kernel
theorem dX0_addGrown_34 : decode cX0_addGrown 34 = .ok (.getfield 87, 3) := by decide +kernel
theorem dX0_addGrown_37 : decode cX0_addGrown 37 = .ok (.iconst 1, 1) := by decide +kernel
theorem dX0_addGrown_38 : decode cX0_addGrown 38 = .ok (.iadd, 1) := by decide +kernel
theorem dX0_addGrown_39 : decode cX0_addGrown 39 = .ok (.putfield 87, 3) := by decide +kernel
theorem dX0_addGrown_42 : decode cX0_addGrown 42 = .ok (.return_, 1) := by decide +kernel
set_option maxRecDepth 20000 in
theorem ggX0_keepLeast_X0_rankOfGrown : GoodIn wsX0_keepLeast wsX0_rankOfGrown := goodIn_r _ [11, 2, 6, 12, 13, 14, 15, 16, 17, 18, 19, 20, 21, 22, 23] (by decide +kernel) (by decide +kernel)
set_option maxRecDepth 20000 in
theorem gX0_keepLeast_X0_rankOfGrown : GoodIn wsX0_keepLeast (wsV RX0 98 RX0 yX0_rankOfGrown wsX0_rankOfGrown) := goodIn_app (goodIn_of _ (by decide +kernel)) ggX0_keepLeast_X0_rankOfGrown
theorem dX0_keepLeast_0 : decode cX0_keepLeast 0 = .ok (.aload_n 0, 1) := by decide +kernel
theorem dX0_keepLeast_1 : decode cX0_keepLeast 1 = .ok (.iconst 0, 1) := by decide +kernel
theorem dX0_keepLeast_2 : decode cX0_keepLeast 2 = .ok (.putfield 47, 3) := by decide +kernel
theorem dX0_keepLeast_5 : decode cX0_keepLeast 5 = .ok (.iconst 0, 1) := by decide +kernel
theorem dX0_keepLeast_6 : decode cX0_keepLeast 6 = .ok (.istore_n 2, 1) := by decide +kernel
theorem dX0_keepLeast_7 : decode cX0_keepLeast 7 = .ok (.iload_n 2, 1) := by decide +kernel
theorem dX0_keepLeast_8 : decode cX0_keepLeast 8 = .ok (.aload_n 0, 1) := by decide +kernel
theorem dX0_keepLeast_9 : decode cX0_keepLeast 9 = .ok (.getfield 87, 3) := by decide +kernel
theorem dX0_keepLeast_12 : decode cX0_keepLeast 12 = .ok (.if_icmp .ge 66, 3) := by decide +kernel
theorem dX0_keepLeast_15 : decode cX0_keepLeast 15 = .ok (.aload_n 0, 1) := by decide +kernel
theorem dX0_keepLeast_16 : decode cX0_keepLeast 16 = .ok (.iload_n 2, 1) := by decide +kernel
theorem dX0_keepLeast_17 : decode cX0_keepLeast 17 = .ok (.invokevirtual 98, 3) := by decide +kernel
theorem dX0_keepLeast_20 : decode cX0_keepLeast 20 = .ok (.iload_n 1, 1) := by decide +kernel
theorem dX0_keepLeast_21 : decode cX0_keepLeast 21 = .ok (.if_icmp .ge 51, 3) := by decide +kernel
theorem dX0_keepLeast_24 : decode cX0_keepLeast 24 = .ok (.aload_n 0, 1) := by decide +kernel
theorem dX0_keepLeast_25 : decode cX0_keepLeast 25 = .ok (.getfield 47, 3) := by decide +kernel
theorem dX0_keepLeast_28 : decode cX0_keepLeast 28 = .ok (.iconst 4, 1) := by decide +kernel
theorem dX0_keepLeast_29 : decode cX0_keepLeast 29 = .ok (.if_icmp .ge 43, 3) := by decide +kernel
theorem dX0_keepLeast_32 : decode cX0_keepLeast 32 = .ok (.aload_n 0, 1) := by decide +kernel
theorem dX0_keepLeast_33 : decode cX0_keepLeast 33 = .ok (.getfield 18, 3) := by decide +kernel
theorem dX0_keepLeast_36 : decode cX0_keepLeast 36 = .ok (.aload_n 0, 1) := by decide +kernel
theorem dX0_keepLeast_37 : decode cX0_keepLeast 37 = .ok (.getfield 47, 3) := by decide +kernel
theorem dX0_keepLeast_40 : decode cX0_keepLeast 40 = .ok (.aload_n 0, 1) := by decide +kernel
theorem dX0_keepLeast_41 : decode cX0_keepLeast 41 = .ok (.getfield 31, 3) := by decide +kernel
theorem dX0_keepLeast_44 : decode cX0_keepLeast 44 = .ok (.iload_n 2, 1) := by decide +kernel
theorem dX0_keepLeast_45 : decode cX0_keepLeast 45 = .ok (.iaload, 1) := by decide +kernel
theorem dX0_keepLeast_46 : decode cX0_keepLeast 46 = .ok (.iastore, 1) := by decide +kernel
theorem dX0_keepLeast_47 : decode cX0_keepLeast 47 = .ok (.aload_n 0, 1) := by decide +kernel
theorem dX0_keepLeast_48 : decode cX0_keepLeast 48 = .ok (.getfield 21, 3) := by decide +kernel
theorem dX0_keepLeast_51 : decode cX0_keepLeast 51 = .ok (.aload_n 0, 1) := by decide +kernel
theorem dX0_keepLeast_52 : decode cX0_keepLeast 52 = .ok (.getfield 47, 3) := by decide +kernel
theorem dX0_keepLeast_55 : decode cX0_keepLeast 55 = .ok (.aload_n 0, 1) := by decide +kernel
theorem dX0_keepLeast_56 : decode cX0_keepLeast 56 = .ok (.getfield 34, 3) := by decide +kernel
theorem dX0_keepLeast_59 : decode cX0_keepLeast 59 = .ok (.iload_n 2, 1) := by decide +kernel
theorem dX0_keepLeast_60 : decode cX0_keepLeast 60 = .ok (.iaload, 1) := by decide +kernel
theorem dX0_keepLeast_61 : decode cX0_keepLeast 61 = .ok (.iastore, 1) := by decide +kernel
theorem dX0_keepLeast_62 : decode cX0_keepLeast 62 = .ok (.aload_n 0, 1) := by decide +kernel
theorem dX0_keepLeast_63 : decode cX0_keepLeast 63 = .ok (.dup, 1) := by decide +kernel
theorem dX0_keepLeast_64 : decode cX0_keepLeast 64 = .ok (.getfield 47, 3) := by decide +kernel
theorem dX0_keepLeast_67 : decode cX0_keepLeast 67 = .ok (.iconst 1, 1) := by decide +kernel
theorem dX0_keepLeast_68 : decode cX0_keepLeast 68 = .ok (.iadd, 1) := by decide +kernel
theorem dX0_keepLeast_69 : decode cX0_keepLeast 69 = .ok (.putfield 47, 3) := by decide +kernel
theorem dX0_keepLeast_72 : decode cX0_keepLeast 72 = .ok (.iinc 2 1, 3) := by decide +kernel
theorem dX0_keepLeast_75 : decode cX0_keepLeast 75 = .ok (.goto (-68), 3) := by decide +kernel
theorem dX0_keepLeast_78 : decode cX0_keepLeast 78 = .ok (.return_, 1) := by decide +kernel
theorem dX0_rankOfGrown_0 : decode cX0_rankOfGrown 0 = .ok (.iconst 0, 1) := by decide +kernel
theorem dX0_rankOfGrown_1 : decode cX0_rankOfGrown 1 = .ok (.istore_n 2, 1) := by decide +kernel
theorem dX0_rankOfGrown_2 : decode cX0_rankOfGrown 2 = .ok (.iconst 0, 1) := by decide +kernel
theorem dX0_rankOfGrown_3 : decode cX0_rankOfGrown 3 = .ok (.istore_n 3, 1) := by decide +kernel
theorem dX0_rankOfGrown_4 : decode cX0_rankOfGrown 4 = .ok (.iload_n 3, 1) := by decide +kernel
theorem dX0_rankOfGrown_5 : decode cX0_rankOfGrown 5 = .ok (.aload_n 0, 1) := by decide +kernel
theorem dX0_rankOfGrown_6 : decode cX0_rankOfGrown 6 = .ok (.getfield 87, 3) := by decide +kernel
theorem dX0_rankOfGrown_9 : decode cX0_rankOfGrown 9 = .ok (.if_icmp .ge 42, 3) := by decide +kernel
theorem dX0_rankOfGrown_12 : decode cX0_rankOfGrown 12 = .ok (.aload_n 0, 1) := by decide +kernel
theorem dX0_rankOfGrown_13 : decode cX0_rankOfGrown 13 = .ok (.getfield 34, 3) := by decide +kernel
theorem dX0_rankOfGrown_16 : decode cX0_rankOfGrown 16 = .ok (.iload_n 1, 1) := by decide +kernel
theorem dX0_rankOfGrown_17 : decode cX0_rankOfGrown 17 = .ok (.iaload, 1) := by decide +kernel
theorem dX0_rankOfGrown_18 : decode cX0_rankOfGrown 18 = .ok (.aload_n 0, 1) := by decide +kernel
theorem dX0_rankOfGrown_19 : decode cX0_rankOfGrown 19 = .ok (.getfield 34, 3) := by decide +kernel
theorem dX0_rankOfGrown_22 : decode cX0_rankOfGrown 22 = .ok (.iload_n 3, 1) := by decide +kernel
theorem dX0_rankOfGrown_23 : decode cX0_rankOfGrown 23 = .ok (.iaload, 1) := by decide +kernel
theorem dX0_rankOfGrown_24 : decode cX0_rankOfGrown 24 = .ok (.isub, 1) := by decide +kernel
theorem dX0_rankOfGrown_25 : decode cX0_rankOfGrown 25 = .ok (.istore 4, 2) := by decide +kernel
theorem dX0_rankOfGrown_27 : decode cX0_rankOfGrown 27 = .ok (.iload 4, 2) := by decide +kernel
theorem dX0_rankOfGrown_29 : decode cX0_rankOfGrown 29 = .ok (.ifCond .gt 13, 3) := by decide +kernel
theorem dX0_rankOfGrown_32 : decode cX0_rankOfGrown 32 = .ok (.iload 4, 2) := by decide +kernel
theorem dX0_rankOfGrown_34 : decode cX0_rankOfGrown 34 = .ok (.ifCond .ne 11, 3) := by decide +kernel
theorem dX0_rankOfGrown_37 : decode cX0_rankOfGrown 37 = .ok (.iload_n 3, 1) := by decide +kernel
theorem dX0_rankOfGrown_38 : decode cX0_rankOfGrown 38 = .ok (.iload_n 1, 1) := by decide +kernel
theorem dX0_rankOfGrown_39 : decode cX0_rankOfGrown 39 = .ok (.if_icmp .ge 6, 3) := by decide +kernel
theorem dX0_rankOfGrown_42 : decode cX0_rankOfGrown 42 = .ok (.iinc 2 1, 3) := by decide +kernel
theorem dX0_rankOfGrown_45 : decode cX0_rankOfGrown 45 = .ok (.iinc 3 1, 3) := by decide +kernel
theorem dX0_rankOfGrown_48 : decode cX0_rankOfGrown 48 = .ok (.goto (-44), 3) := by decide +kernel
theorem dX0_rankOfGrown_51 : decode cX0_rankOfGrown 51 = .ok (.iload_n 2, 1) := by decide +kernel
theorem dX0_rankOfGrown_52 : decode cX0_rankOfGrown 52 = .ok (.ireturn, 1) := by decide +kernel
set_option maxRecDepth 20000 in
theorem ggX0_orderByPenalties_X0_addGrown : GoodIn wsX0_orderByPenalties wsX0_addGrown := goodIn_r _ [11, 1, 5, 6, 16, 17, 18, 19, 20, 21, 22, 23, 24, 25, 26, 27] (by decide +kernel) (by decide +kernel)
set_option maxRecDepth 20000 in
theorem gX0_orderByPenalties_X0_addGrown : GoodIn wsX0_orderByPenalties (wsV RX0 94 RX0 yX0_addGrown wsX0_addGrown) := goodIn_app (goodIn_of _ (by decide +kernel)) ggX0_orderByPenalties_X0_addGrown
set_option maxRecDepth 20000 in
theorem ggX0_orderByPenalties_X0_rankOfGrown : GoodIn wsX0_orderByPenalties wsX0_rankOfGrown := goodIn_r _ [15, 1, 6, 16, 17, 18, 19, 20, 21, 22, 23, 24, 25, 26, 27] (by decide +kernel) (by decide +kernel)
set_option maxRecDepth 20000 in
theorem gX0_orderByPenalties_X0_rankOfGrown : GoodIn wsX0_orderByPenalties (wsV RX0 98 RX0 yX0_rankOfGrown wsX0_rankOfGrown) := goodIn_app (goodIn_of _ (by decide +kernel)) ggX0_orderByPenalties_X0_rankOfGrown
theorem dX0_orderByPenalties_0 : decode cX0_orderByPenalties 0 = .ok (.aload_n 0, 1) := by decide +kernel
theorem dX0_orderByPenalties_1 : decode cX0_orderByPenalties 1 = .ok (.iconst 0, 1) := by decide +kernel
theorem dX0_orderByPenalties_2 : decode cX0_orderByPenalties 2 = .ok (.putfield 87, 3) := by decide +kernel
theorem dX0_orderByPenalties_5 : decode cX0_orderByPenalties 5 = .ok (.iconst 0, 1) := by decide +kernel
theorem dX0_orderByPenalties_6 : decode cX0_orderByPenalties 6 = .ok (.istore_n 1, 1) := by decide +kernel
theorem dX0_orderByPenalties_7 : decode cX0_orderByPenalties 7 = .ok (.iload_n 1, 1) := by decide +kernel
theorem dX0_orderByPenalties_8 : decode cX0_orderByPenalties 8 = .ok (.aload_n 0, 1) := by decide +kernel
theorem dX0_orderByPenalties_9 : decode cX0_orderByPenalties 9 = .ok (.getfield 47, 3) := by decide +kernel
theorem dX0_orderByPenalties_12 : decode cX0_orderByPenalties 12 = .ok (.if_icmp .ge 25, 3) := by decide +kernel
theorem dX0_orderByPenalties_15 : decode cX0_orderByPenalties 15 = .ok (.aload_n 0, 1) := by decide +kernel
theorem dX0_orderByPenalties_16 : decode cX0_orderByPenalties 16 = .ok (.aload_n 0, 1) := by decide +kernel
theorem dX0_orderByPenalties_17 : decode cX0_orderByPenalties 17 = .ok (.getfield 18, 3) := by decide +kernel
theorem dX0_orderByPenalties_20 : decode cX0_orderByPenalties 20 = .ok (.iload_n 1, 1) := by decide +kernel
theorem dX0_orderByPenalties_21 : decode cX0_orderByPenalties 21 = .ok (.iaload, 1) := by decide +kernel
theorem dX0_orderByPenalties_22 : decode cX0_orderByPenalties 22 = .ok (.aload_n 0, 1) := by decide +kernel
theorem dX0_orderByPenalties_23 : decode cX0_orderByPenalties 23 = .ok (.getfield 21, 3) := by decide +kernel
theorem dX0_orderByPenalties_26 : decode cX0_orderByPenalties 26 = .ok (.iload_n 1, 1) := by decide +kernel
theorem dX0_orderByPenalties_27 : decode cX0_orderByPenalties 27 = .ok (.iaload, 1) := by decide +kernel
theorem dX0_orderByPenalties_28 : decode cX0_orderByPenalties 28 = .ok (.invokevirtual 94, 3) := by decide +kernel
theorem dX0_orderByPenalties_31 : decode cX0_orderByPenalties 31 = .ok (.iinc 1 1, 3) := by decide +kernel
theorem dX0_orderByPenalties_34 : decode cX0_orderByPenalties 34 = .ok (.goto (-27), 3) := by decide +kernel
theorem dX0_orderByPenalties_37 : decode cX0_orderByPenalties 37 = .ok (.iconst 0, 1) := by decide +kernel
theorem dX0_orderByPenalties_38 : decode cX0_orderByPenalties 38 = .ok (.istore_n 1, 1) := by decide +kernel
theorem dX0_orderByPenalties_39 : decode cX0_orderByPenalties 39 = .ok (.iload_n 1, 1) := by decide +kernel
theorem dX0_orderByPenalties_40 : decode cX0_orderByPenalties 40 = .ok (.aload_n 0, 1) := by decide +kernel
theorem dX0_orderByPenalties_41 : decode cX0_orderByPenalties 41 = .ok (.getfield 87, 3) := by decide +kernel
theorem dX0_orderByPenalties_44 : decode cX0_orderByPenalties 44 = .ok (.if_icmp .ge 44, 3) := by decide +kernel
theorem dX0_orderByPenalties_47 : decode cX0_orderByPenalties 47 = .ok (.aload_n 0, 1) := by decide +kernel
theorem dX0_orderByPenalties_48 : decode cX0_orderByPenalties 48 = .ok (.iload_n 1, 1) := by decide +kernel
theorem dX0_orderByPenalties_49 : decode cX0_orderByPenalties 49 = .ok (.invokevirtual 98, 3) := by decide +kernel
theorem dX0_orderByPenalties_52 : decode cX0_orderByPenalties 52 = .ok (.istore_n 2, 1) := by decide +kernel
theorem dX0_orderByPenalties_53 : decode cX0_orderByPenalties 53 = .ok (.iload_n 2, 1) := by decide +kernel
theorem dX0_orderByPenalties_54 : decode cX0_orderByPenalties 54 = .ok (.iconst 4, 1) := by decide +kernel
theorem dX0_orderByPenalties_55 : decode cX0_orderByPenalties 55 = .ok (.if_icmp .ge 27, 3) := by decide +kernel
theorem dX0_orderByPenalties_58 : decode cX0_orderByPenalties 58 = .ok (.aload_n 0, 1) := by decide +kernel
theorem dX0_orderByPenalties_59 : decode cX0_orderByPenalties 59 = .ok (.getfield 18, 3) := by decide +kernel
theorem dX0_orderByPenalties_62 : decode cX0_orderByPenalties 62 = .ok (.iload_n 2, 1) := by decide +kernel
theorem dX0_orderByPenalties_63 : decode cX0_orderByPenalties 63 = .ok (.aload_n 0, 1) := by decide +kernel
theorem dX0_orderByPenalties_64 : decode cX0_orderByPenalties 64 = .ok (.getfield 31, 3) := by decide +kernel
theorem dX0_orderByPenalties_67 : decode cX0_orderByPenalties 67 = .ok (.iload_n 1, 1) := by decide +kernel
theorem dX0_orderByPenalties_68 : decode cX0_orderByPenalties 68 = .ok (.iaload, 1) := by decide +kernel
theorem dX0_orderByPenalties_69 : decode cX0_orderByPenalties 69 = .ok (.iastore, 1) := by decide +kernel
theorem dX0_orderByPenalties_70 : decode cX0_orderByPenalties 70 = .ok (.aload_n 0, 1) := by decide +kernel
theorem dX0_orderByPenalties_71 : decode cX0_orderByPenalties 71 = .ok (.getfield 21, 3) := by decide +kernel
theorem dX0_orderByPenalties_74 : decode cX0_orderByPenalties 74 = .ok (.iload_n 2, 1) := by decide +kernel
theorem dX0_orderByPenalties_75 : decode cX0_orderByPenalties 75 = .ok (.aload_n 0, 1) := by decide +kernel
theorem dX0_orderByPenalties_76 : decode cX0_orderByPenalties 76 = .ok (.getfield 34, 3) := by decide +kernel
theorem dX0_orderByPenalties_79 : decode cX0_orderByPenalties 79 = .ok (.iload_n 1, 1) := by decide +kernel
theorem dX0_orderByPenalties_80 : decode cX0_orderByPenalties 80 = .ok (.iaload, 1) := by decide +kernel
theorem dX0_orderByPenalties_81 : decode cX0_orderByPenalties 81 = .ok (.iastore, 1) := by decide +kernel
theorem dX0_orderByPenalties_82 : decode cX0_orderByPenalties 82 = .ok (.iinc 1 1, 3) := by decide +kernel
theorem dX0_orderByPenalties_85 : decode cX0_orderByPenalties 85 = .ok (.goto (-46), 3) := by decide +kernel
theorem dX0_orderByPenalties_88 : decode cX0_orderByPenalties 88 = .ok (.return_, 1) := by decide +kernel
set_option maxRecDepth 20000 in
theorem ggX0_hear_X0_pairUnread : GoodIn wsX0_hear wsX0_pairUnread := goodIn_r _ [12, 2, 21, 22, 23, 24, 25, 26, 27, 28, 29, 30, 31, 32] (by decide +kernel) (by decide +kernel)
set_option maxRecDepth 20000 in
theorem gX0_hear_X0_pairUnread : GoodIn wsX0_hear (wsV RX0 107 RX0 yX0_pairUnread wsX0_pairUnread) := goodIn_app (goodIn_of _ (by decide +kernel)) ggX0_hear_X0_pairUnread
set_option maxRecDepth 20000 in
theorem ggX0_hear_X3_coded : GoodIn wsX0_hear wsX3_coded := goodIn_r _ [15, 16] (by decide +kernel) (by decide +kernel)
set_option maxRecDepth 20000 in
theorem gX0_hear_X3_coded_n110 : GoodIn wsX0_hear (wsX3_coded) := ggX0_hear_X3_coded
set_option maxRecDepth 20000 in
theorem ggX0_hear_X0_pairRead : GoodIn wsX0_hear wsX0_pairRead := goodIn_r _ [20, 2, 21, 22, 23, 24, 25, 26, 27, 28, 29, 30, 31, 32] (by decide +kernel) (by decide +kernel)
set_option maxRecDepth 20000 in
theorem gX0_hear_X0_pairRead : GoodIn wsX0_hear (wsV RX0 113 RX0 yX0_pairRead wsX0_pairRead) := goodIn_app (goodIn_of _ (by decide +kernel)) ggX0_hear_X0_pairRead
theorem dX0_hear_0 : decode cX0_hear 0 = .ok (.aload_n 0, 1) := by decide +kernel
theorem dX0_hear_1 : decode cX0_hear 1 = .ok (.getfield 9, 3) := by decide +kernel
theorem dX0_hear_4 : decode cX0_hear 4 = .ok (.iconst 0, 1) := by decide +kernel
theorem dX0_hear_5 : decode cX0_hear 5 = .ok (.aload_n 0, 1) := by decide +kernel
theorem dX0_hear_6 : decode cX0_hear 6 = .ok (.getfield 15, 3) := by decide +kernel
theorem dX0_hear_9 : decode cX0_hear 9 = .ok (.iconst 0, 1) := by decide +kernel
theorem dX0_hear_10 : decode cX0_hear 10 = .ok (.bipush 16, 2) := by decide +kernel
theorem dX0_hear_12 : decode cX0_hear 12 = .ok (.invokestatic 101, 3) := by decide +kernel
theorem dX0_hear_15 : decode cX0_hear 15 = .ok (.iload_n 2, 1) := by decide +kernel
theorem dX0_hear_16 : decode cX0_hear 16 = .ok (.istore_n 3, 1) := by decide +kernel
theorem dX0_hear_17 : decode cX0_hear 17 = .ok (.aload_n 0, 1) := by decide +kernel
theorem dX0_hear_18 : decode cX0_hear 18 = .ok (.getfield 43, 3) := by decide +kernel
theorem dX0_hear_21 : decode cX0_hear 21 = .ok (.iconst 2, 1) := by decide +kernel
theorem dX0_hear_22 : decode cX0_hear 22 = .ok (.idiv, 1) := by decide +kernel
theorem dX0_hear_23 : decode cX0_hear 23 = .ok (.istore 4, 2) := by decide +kernel
theorem dX0_hear_25 : decode cX0_hear 25 = .ok (.iload 4, 2) := by decide +kernel
theorem dX0_hear_27 : decode cX0_hear 27 = .ok (.ifCond .le 59, 3) := by decide +kernel
theorem dX0_hear_30 : decode cX0_hear 30 = .ok (.iload_n 3, 1) := by decide +kernel
theorem dX0_hear_31 : decode cX0_hear 31 = .ok (.iload 4, 2) := by decide +kernel
theorem dX0_hear_33 : decode cX0_hear 33 = .ok (.if_icmp .ge 12, 3) := by decide +kernel
theorem dX0_hear_36 : decode cX0_hear 36 = .ok (.aload_n 0, 1) := by decide +kernel
theorem dX0_hear_37 : decode cX0_hear 37 = .ok (.iload 4, 2) := by decide +kernel
theorem dX0_hear_39 : decode cX0_hear 39 = .ok (.invokevirtual 107, 3) := by decide +kernel
theorem dX0_hear_42 : decode cX0_hear 42 = .ok (.goto 35, 3) := by decide +kernel
theorem dX0_hear_45 : decode cX0_hear 45 = .ok (.iload_n 1, 1) := by decide +kernel
theorem dX0_hear_46 : decode cX0_hear 46 = .ok (.iload_n 2, 1) := by decide +kernel
theorem dX0_hear_47 : decode cX0_hear 47 = .ok (.iload_n 3, 1) := by decide +kernel
theorem dX0_hear_48 : decode cX0_hear 48 = .ok (.isub, 1) := by decide +kernel
theorem dX0_hear_49 : decode cX0_hear 49 = .ok (.ishr, 1) := by decide +kernel
theorem dX0_hear_50 : decode cX0_hear 50 = .ok (.iconst 1, 1) := by decide +kernel
theorem dX0_hear_51 : decode cX0_hear 51 = .ok (.iload 4, 2) := by decide +kernel
theorem dX0_hear_53 : decode cX0_hear 53 = .ok (.ishl, 1) := by decide +kernel
theorem dX0_hear_54 : decode cX0_hear 54 = .ok (.iconst 1, 1) := by decide +kernel
theorem dX0_hear_55 : decode cX0_hear 55 = .ok (.isub, 1) := by decide +kernel
theorem dX0_hear_56 : decode cX0_hear 56 = .ok (.iand, 1) := by decide +kernel
theorem dX0_hear_57 : decode cX0_hear 57 = .ok (.istore 5, 2) := by decide +kernel
theorem dX0_hear_59 : decode cX0_hear 59 = .ok (.aload_n 0, 1) := by decide +kernel
theorem dX0_hear_60 : decode cX0_hear 60 = .ok (.iload 4, 2) := by decide +kernel
theorem dX0_hear_62 : decode cX0_hear 62 = .ok (.iload 5, 2) := by decide +kernel
theorem dX0_hear_64 : decode cX0_hear 64 = .ok (.iload 4, 2) := by decide +kernel
theorem dX0_hear_66 : decode cX0_hear 66 = .ok (.invokestatic 110, 3) := by decide +kernel
theorem dX0_hear_69 : decode cX0_hear 69 = .ok (.invokevirtual 113, 3) := by decide +kernel
theorem dX0_hear_72 : decode cX0_hear 72 = .ok (.iload_n 3, 1) := by decide +kernel
theorem dX0_hear_73 : decode cX0_hear 73 = .ok (.iload 4, 2) := by decide +kernel
theorem dX0_hear_75 : decode cX0_hear 75 = .ok (.isub, 1) := by decide +kernel
theorem dX0_hear_76 : decode cX0_hear 76 = .ok (.istore_n 3, 1) := by decide +kernel
theorem dX0_hear_77 : decode cX0_hear 77 = .ok (.iload 4, 2) := by decide +kernel
theorem dX0_hear_79 : decode cX0_hear 79 = .ok (.iconst 2, 1) := by decide +kernel
theorem dX0_hear_80 : decode cX0_hear 80 = .ok (.idiv, 1) := by decide +kernel
theorem dX0_hear_81 : decode cX0_hear 81 = .ok (.istore 4, 2) := by decide +kernel
theorem dX0_hear_83 : decode cX0_hear 83 = .ok (.goto (-58), 3) := by decide +kernel
theorem dX0_hear_86 : decode cX0_hear 86 = .ok (.aload_n 0, 1) := by decide +kernel
theorem dX0_hear_87 : decode cX0_hear 87 = .ok (.getfield 15, 3) := by decide +kernel
theorem dX0_hear_90 : decode cX0_hear 90 = .ok (.iconst 0, 1) := by decide +kernel
theorem dX0_hear_91 : decode cX0_hear 91 = .ok (.iaload, 1) := by decide +kernel
theorem dX0_hear_92 : decode cX0_hear 92 = .ok (.ireturn, 1) := by decide +kernel
theorem dX0_pairUnread_0 : decode cX0_pairUnread 0 = .ok (.iconst 0, 1) := by decide +kernel
theorem dX0_pairUnread_1 : decode cX0_pairUnread 1 = .ok (.istore_n 2, 1) := by decide +kernel
theorem dX0_pairUnread_2 : decode cX0_pairUnread 2 = .ok (.iload_n 2, 1) := by decide +kernel
theorem dX0_pairUnread_3 : decode cX0_pairUnread 3 = .ok (.iload_n 1, 1) := by decide +kernel
theorem dX0_pairUnread_4 : decode cX0_pairUnread 4 = .ok (.if_icmp .ge 105, 3) := by decide +kernel
theorem dX0_pairUnread_7 : decode cX0_pairUnread 7 = .ok (.aload_n 0, 1) := by decide +kernel
theorem dX0_pairUnread_8 : decode cX0_pairUnread 8 = .ok (.getfield 15, 3) := by decide +kernel
theorem dX0_pairUnread_11 : decode cX0_pairUnread 11 = .ok (.iload_n 2, 1) := by decide +kernel
theorem dX0_pairUnread_12 : decode cX0_pairUnread 12 = .ok (.iaload, 1) := by decide +kernel
theorem dX0_pairUnread_13 : decode cX0_pairUnread 13 = .ok (.istore_n 3, 1) := by decide +kernel
theorem dX0_pairUnread_14 : decode cX0_pairUnread 14 = .ok (.aload_n 0, 1) := by decide +kernel
theorem dX0_pairUnread_15 : decode cX0_pairUnread 15 = .ok (.getfield 15, 3) := by decide +kernel
theorem dX0_pairUnread_18 : decode cX0_pairUnread 18 = .ok (.iload_n 2, 1) := by decide +kernel
theorem dX0_pairUnread_19 : decode cX0_pairUnread 19 = .ok (.iload_n 1, 1) := by decide +kernel
theorem dX0_pairUnread_20 : decode cX0_pairUnread 20 = .ok (.iadd, 1) := by decide +kernel
theorem dX0_pairUnread_21 : decode cX0_pairUnread 21 = .ok (.iaload, 1) := by decide +kernel
theorem dX0_pairUnread_22 : decode cX0_pairUnread 22 = .ok (.istore 4, 2) := by decide +kernel
theorem dX0_pairUnread_24 : decode cX0_pairUnread 24 = .ok (.iload_n 3, 1) := by decide +kernel
theorem dX0_pairUnread_25 : decode cX0_pairUnread 25 = .ok (.ifCond .ge 8, 3) := by decide +kernel
theorem dX0_pairUnread_28 : decode cX0_pairUnread 28 = .ok (.iload_n 3, 1) := by decide +kernel
theorem dX0_pairUnread_29 : decode cX0_pairUnread 29 = .ok (.ineg, 1) := by decide +kernel
theorem dX0_pairUnread_30 : decode cX0_pairUnread 30 = .ok (.goto 4, 3) := by decide +kernel
theorem dX0_pairUnread_33 : decode cX0_pairUnread 33 = .ok (.iload_n 3, 1) := by decide +kernel
theorem dX0_pairUnread_34 : decode cX0_pairUnread 34 = .ok (.istore 5, 2) := by decide +kernel
theorem dX0_pairUnread_36 : decode cX0_pairUnread 36 = .ok (.iload 4, 2) := by decide +kernel
theorem dX0_pairUnread_38 : decode cX0_pairUnread 38 = .ok (.ifCond .ge 9, 3) := by decide +kernel
theorem dX0_pairUnread_41 : decode cX0_pairUnread 41 = .ok (.iload 4, 2) := by decide +kernel
theorem dX0_pairUnread_43 : decode cX0_pairUnread 43 = .ok (.ineg, 1) := by decide +kernel
theorem dX0_pairUnread_44 : decode cX0_pairUnread 44 = .ok (.goto 5, 3) := by decide +kernel
theorem dX0_pairUnread_47 : decode cX0_pairUnread 47 = .ok (.iload 4, 2) := by decide +kernel
theorem dX0_pairUnread_49 : decode cX0_pairUnread 49 = .ok (.istore 6, 2) := by decide +kernel
theorem dX0_pairUnread_51 : decode cX0_pairUnread 51 = .ok (.iload 5, 2) := by decide +kernel
theorem dX0_pairUnread_53 : decode cX0_pairUnread 53 = .ok (.iload 6, 2) := by decide +kernel
theorem dX0_pairUnread_55 : decode cX0_pairUnread 55 = .ok (.if_icmp .ge 8, 3) := by decide +kernel
theorem dX0_pairUnread_58 : decode cX0_pairUnread 58 = .ok (.iload 5, 2) := by decide +kernel
theorem dX0_pairUnread_60 : decode cX0_pairUnread 60 = .ok (.goto 5, 3) := by decide +kernel
theorem dX0_pairUnread_63 : decode cX0_pairUnread 63 = .ok (.iload 6, 2) := by decide +kernel
theorem dX0_pairUnread_65 : decode cX0_pairUnread 65 = .ok (.istore 7, 2) := by decide +kernel
theorem dX0_pairUnread_67 : decode cX0_pairUnread 67 = .ok (.aload_n 0, 1) := by decide +kernel
theorem dX0_pairUnread_68 : decode cX0_pairUnread 68 = .ok (.getfield 15, 3) := by decide +kernel
theorem dX0_pairUnread_71 : decode cX0_pairUnread 71 = .ok (.iload_n 2, 1) := by decide +kernel
theorem dX0_pairUnread_72 : decode cX0_pairUnread 72 = .ok (.iload_n 3, 1) := by decide +kernel
theorem dX0_pairUnread_73 : decode cX0_pairUnread 73 = .ok (.ifCond .ge 7, 3) := by decide +kernel
theorem dX0_pairUnread_76 : decode cX0_pairUnread 76 = .ok (.iconst 1, 1) := by decide +kernel
theorem dX0_pairUnread_77 : decode cX0_pairUnread 77 = .ok (.goto 4, 3) := by decide +kernel
theorem dX0_pairUnread_80 : decode cX0_pairUnread 80 = .ok (.iconst 0, 1) := by decide +kernel
theorem dX0_pairUnread_81 : decode cX0_pairUnread 81 = .ok (.iload 4, 2) := by decide +kernel
theorem dX0_pairUnread_83 : decode cX0_pairUnread 83 = .ok (.ifCond .ge 7, 3) := by decide +kernel
theorem dX0_pairUnread_86 : decode cX0_pairUnread 86 = .ok (.iconst 1, 1) := by decide +kernel
theorem dX0_pairUnread_87 : decode cX0_pairUnread 87 = .ok (.goto 4, 3) := by decide +kernel
theorem dX0_pairUnread_90 : decode cX0_pairUnread 90 = .ok (.iconst 0, 1) := by decide +kernel
theorem dX0_pairUnread_91 : decode cX0_pairUnread 91 = .ok (.if_icmp .ne 8, 3) := by decide +kernel
theorem dX0_pairUnread_94 : decode cX0_pairUnread 94 = .ok (.iload 7, 2) := by decide +kernel
theorem dX0_pairUnread_96 : decode cX0_pairUnread 96 = .ok (.goto 6, 3) := by decide +kernel
theorem dX0_pairUnread_99 : decode cX0_pairUnread 99 = .ok (.iload 7, 2) := by decide +kernel
theorem dX0_pairUnread_101 : decode cX0_pairUnread 101 = .ok (.ineg, 1) := by decide +kernel
theorem dX0_pairUnread_102 : decode cX0_pairUnread 102 = .ok (.iastore, 1) := by decide +kernel
theorem dX0_pairUnread_103 : decode cX0_pairUnread 103 = .ok (.iinc 2 1, 3) := by decide +kernel
theorem dX0_pairUnread_106 : decode cX0_pairUnread 106 = .ok (.goto (-104), 3) := by decide +kernel
theorem dX0_pairUnread_109 : decode cX0_pairUnread 109 = .ok (.return_, 1) := by decide +kernel
theorem dX0_pairRead_0 : decode cX0_pairRead 0 = .ok (.iconst 0, 1) := by decide +kernel
theorem dX0_pairRead_1 : decode cX0_pairRead 1 = .ok (.istore_n 3, 1) := by decide +kernel
theorem dX0_pairRead_2 : decode cX0_pairRead 2 = .ok (.iload_n 3, 1) := by decide +kernel
theorem dX0_pairRead_3 : decode cX0_pairRead 3 = .ok (.iload_n 1, 1) := by decide +kernel
theorem dX0_pairRead_4 : decode cX0_pairRead 4 = .ok (.if_icmp .ge 69, 3) := by decide +kernel
theorem dX0_pairRead_7 : decode cX0_pairRead 7 = .ok (.iload_n 2, 1) := by decide +kernel
theorem dX0_pairRead_8 : decode cX0_pairRead 8 = .ok (.iload_n 3, 1) := by decide +kernel
theorem dX0_pairRead_9 : decode cX0_pairRead 9 = .ok (.ishr, 1) := by decide +kernel
theorem dX0_pairRead_10 : decode cX0_pairRead 10 = .ok (.iconst 1, 1) := by decide +kernel
theorem dX0_pairRead_11 : decode cX0_pairRead 11 = .ok (.iand, 1) := by decide +kernel
theorem dX0_pairRead_12 : decode cX0_pairRead 12 = .ok (.iconst 1, 1) := by decide +kernel
theorem dX0_pairRead_13 : decode cX0_pairRead 13 = .ok (.if_icmp .ne 7, 3) := by decide +kernel
theorem dX0_pairRead_16 : decode cX0_pairRead 16 = .ok (.iconst 1, 1) := by decide +kernel
theorem dX0_pairRead_17 : decode cX0_pairRead 17 = .ok (.goto 4, 3) := by decide +kernel
theorem dX0_pairRead_20 : decode cX0_pairRead 20 = .ok (.iconst 0, 1) := by decide +kernel
theorem dX0_pairRead_21 : decode cX0_pairRead 21 = .ok (.istore 4, 2) := by decide +kernel
theorem dX0_pairRead_23 : decode cX0_pairRead 23 = .ok (.aload_n 0, 1) := by decide +kernel
theorem dX0_pairRead_24 : decode cX0_pairRead 24 = .ok (.getfield 15, 3) := by decide +kernel
theorem dX0_pairRead_27 : decode cX0_pairRead 27 = .ok (.iload_n 3, 1) := by decide +kernel
theorem dX0_pairRead_28 : decode cX0_pairRead 28 = .ok (.iload 4, 2) := by decide +kernel
theorem dX0_pairRead_30 : decode cX0_pairRead 30 = .ok (.ifCond .eq 21, 3) := by decide +kernel
theorem dX0_pairRead_33 : decode cX0_pairRead 33 = .ok (.aload_n 0, 1) := by decide +kernel
theorem dX0_pairRead_34 : decode cX0_pairRead 34 = .ok (.getfield 15, 3) := by decide +kernel
theorem dX0_pairRead_37 : decode cX0_pairRead 37 = .ok (.iload_n 3, 1) := by decide +kernel
theorem dX0_pairRead_38 : decode cX0_pairRead 38 = .ok (.iload_n 1, 1) := by decide +kernel
theorem dX0_pairRead_39 : decode cX0_pairRead 39 = .ok (.iadd, 1) := by decide +kernel
theorem dX0_pairRead_40 : decode cX0_pairRead 40 = .ok (.iaload, 1) := by decide +kernel
theorem dX0_pairRead_41 : decode cX0_pairRead 41 = .ok (.aload_n 0, 1) := by decide +kernel
theorem dX0_pairRead_42 : decode cX0_pairRead 42 = .ok (.getfield 15, 3) := by decide +kernel
theorem dX0_pairRead_45 : decode cX0_pairRead 45 = .ok (.iload_n 3, 1) := by decide +kernel
theorem dX0_pairRead_46 : decode cX0_pairRead 46 = .ok (.iaload, 1) := by decide +kernel
theorem dX0_pairRead_47 : decode cX0_pairRead 47 = .ok (.isub, 1) := by decide +kernel
theorem dX0_pairRead_48 : decode cX0_pairRead 48 = .ok (.goto 18, 3) := by decide +kernel
theorem dX0_pairRead_51 : decode cX0_pairRead 51 = .ok (.aload_n 0, 1) := by decide +kernel
theorem dX0_pairRead_52 : decode cX0_pairRead 52 = .ok (.getfield 15, 3) := by decide +kernel
theorem dX0_pairRead_55 : decode cX0_pairRead 55 = .ok (.iload_n 3, 1) := by decide +kernel
theorem dX0_pairRead_56 : decode cX0_pairRead 56 = .ok (.iload_n 1, 1) := by decide +kernel
theorem dX0_pairRead_57 : decode cX0_pairRead 57 = .ok (.iadd, 1) := by decide +kernel
theorem dX0_pairRead_58 : decode cX0_pairRead 58 = .ok (.iaload, 1) := by decide +kernel
theorem dX0_pairRead_59 : decode cX0_pairRead 59 = .ok (.aload_n 0, 1) := by decide +kernel
theorem dX0_pairRead_60 : decode cX0_pairRead 60 = .ok (.getfield 15, 3) := by decide +kernel
theorem dX0_pairRead_63 : decode cX0_pairRead 63 = .ok (.iload_n 3, 1) := by decide +kernel
theorem dX0_pairRead_64 : decode cX0_pairRead 64 = .ok (.iaload, 1) := by decide +kernel
theorem dX0_pairRead_65 : decode cX0_pairRead 65 = .ok (.iadd, 1) := by decide +kernel
theorem dX0_pairRead_66 : decode cX0_pairRead 66 = .ok (.iastore, 1) := by decide +kernel
theorem dX0_pairRead_67 : decode cX0_pairRead 67 = .ok (.iinc 3 1, 3) := by decide +kernel
theorem dX0_pairRead_70 : decode cX0_pairRead 70 = .ok (.goto (-68), 3) := by decide +kernel
theorem dX0_pairRead_73 : decode cX0_pairRead 73 = .ok (.return_, 1) := by decide +kernel
set_option maxRecDepth 20000 in
theorem ggX0_heardByFirst_X0_hear : GoodIn wsX0_heardByFirst wsX0_hear := goodIn_r _ [6, 7, 8, 9, 10, 11, 12, 13, 14, 15, 16, 5, 17, 18, 19, 20, 21, 22, 23, 24, 25, 26, 27, 28, 29, 30, 31, 32, 33, 34, 35, 36, 37] (by decide +kernel) (by decide +kernel)
set_option maxRecDepth 20000 in
theorem gX0_heardByFirst_X0_hear : GoodIn wsX0_heardByFirst (wsV RX0 90 RX0 yX0_hear wsX0_hear) := goodIn_app (goodIn_of _ (by decide +kernel)) ggX0_heardByFirst_X0_hear
theorem dX0_heardByFirst_0 : decode cX0_heardByFirst 0 = .ok (.aload_n 0, 1) := by decide +kernel
theorem dX0_heardByFirst_1 : decode cX0_heardByFirst 1 = .ok (.aload_n 0, 1) := by decide +kernel
theorem dX0_heardByFirst_2 : decode cX0_heardByFirst 2 = .ok (.getfield 18, 3) := by decide +kernel
theorem dX0_heardByFirst_5 : decode cX0_heardByFirst 5 = .ok (.iconst 0, 1) := by decide +kernel
theorem dX0_heardByFirst_6 : decode cX0_heardByFirst 6 = .ok (.iaload, 1) := by decide +kernel
theorem dX0_heardByFirst_7 : decode cX0_heardByFirst 7 = .ok (.iload_n 1, 1) := by decide +kernel
theorem dX0_heardByFirst_8 : decode cX0_heardByFirst 8 = .ok (.invokevirtual 90, 3) := by decide +kernel
theorem dX0_heardByFirst_11 : decode cX0_heardByFirst 11 = .ok (.ireturn, 1) := by decide +kernel
theorem dX0_rightPaths_0 : decode cX0_rightPaths 0 = .ok (.iconst 0, 1) := by decide +kernel
theorem dX0_rightPaths_1 : decode cX0_rightPaths 1 = .ok (.istore_n 1, 1) := by decide +kernel
theorem dX0_rightPaths_2 : decode cX0_rightPaths 2 = .ok (.iconst 0, 1) := by decide +kernel
theorem dX0_rightPaths_3 : decode cX0_rightPaths 3 = .ok (.istore_n 2, 1) := by decide +kernel
theorem dX0_rightPaths_4 : decode cX0_rightPaths 4 = .ok (.iload_n 2, 1) := by decide +kernel
theorem dX0_rightPaths_5 : decode cX0_rightPaths 5 = .ok (.aload_n 0, 1) := by decide +kernel
theorem dX0_rightPaths_6 : decode cX0_rightPaths 6 = .ok (.getfield 47, 3) := by decide +kernel
theorem dX0_rightPaths_9 : decode cX0_rightPaths 9 = .ok (.if_icmp .ge 26, 3) := by decide +kernel
theorem dX0_rightPaths_12 : decode cX0_rightPaths 12 = .ok (.iload_n 1, 1) := by decide +kernel
theorem dX0_rightPaths_13 : decode cX0_rightPaths 13 = .ok (.aload_n 0, 1) := by decide +kernel
theorem dX0_rightPaths_14 : decode cX0_rightPaths 14 = .ok (.getfield 27, 3) := by decide +kernel
theorem dX0_rightPaths_17 : decode cX0_rightPaths 17 = .ok (.iload_n 2, 1) := by decide +kernel
theorem dX0_rightPaths_18 : decode cX0_rightPaths 18 = .ok (.baload, 1) := by decide +kernel
theorem dX0_rightPaths_19 : decode cX0_rightPaths 19 = .ok (.ifCond .eq 7, 3) := by decide +kernel
theorem dX0_rightPaths_22 : decode cX0_rightPaths 22 = .ok (.iconst 1, 1) := by decide +kernel
theorem dX0_rightPaths_23 : decode cX0_rightPaths 23 = .ok (.goto 4, 3) := by decide +kernel
theorem dX0_rightPaths_26 : decode cX0_rightPaths 26 = .ok (.iconst 0, 1) := by decide +kernel
theorem dX0_rightPaths_27 : decode cX0_rightPaths 27 = .ok (.iadd, 1) := by decide +kernel
theorem dX0_rightPaths_28 : decode cX0_rightPaths 28 = .ok (.istore_n 1, 1) := by decide +kernel
theorem dX0_rightPaths_29 : decode cX0_rightPaths 29 = .ok (.iinc 2 1, 3) := by decide +kernel
theorem dX0_rightPaths_32 : decode cX0_rightPaths 32 = .ok (.goto (-28), 3) := by decide +kernel
theorem dX0_rightPaths_35 : decode cX0_rightPaths 35 = .ok (.iload_n 1, 1) := by decide +kernel
theorem dX0_rightPaths_36 : decode cX0_rightPaths 36 = .ok (.ireturn, 1) := by decide +kernel
theorem dX1_init_0 : decode cX1_init 0 = .ok (.aload_n 0, 1) := by decide +kernel
theorem dX1_init_1 : decode cX1_init 1 = .ok (.invokespecial 3, 3) := by decide +kernel
theorem dX1_init_4 : decode cX1_init 4 = .ok (.aload_n 0, 1) := by decide +kernel
theorem dX1_init_5 : decode cX1_init 5 = .ok (.bipush 60, 2) := by decide +kernel
theorem dX1_init_7 : decode cX1_init 7 = .ok (.newarray .char, 2) := by decide +kernel
theorem dX1_init_9 : decode cX1_init 9 = .ok (.putfield 9, 3) := by decide +kernel
theorem dX1_init_12 : decode cX1_init 12 = .ok (.aload_n 0, 1) := by decide +kernel
theorem dX1_init_13 : decode cX1_init 13 = .ok (.bipush 16, 2) := by decide +kernel
theorem dX1_init_15 : decode cX1_init 15 = .ok (.newarray .int, 2) := by decide +kernel
theorem dX1_init_17 : decode cX1_init 17 = .ok (.putfield 15, 3) := by decide +kernel
theorem dX1_init_20 : decode cX1_init 20 = .ok (.return_, 1) := by decide +kernel
theorem dX2_init_0 : decode cX2_init 0 = .ok (.aload_n 0, 1) := by decide +kernel
theorem dX2_init_1 : decode cX2_init 1 = .ok (.invokespecial 3, 3) := by decide +kernel
theorem dX2_init_4 : decode cX2_init 4 = .ok (.aload_n 0, 1) := by decide +kernel
theorem dX2_init_5 : decode cX2_init 5 = .ok (.bipush 16, 2) := by decide +kernel
theorem dX2_init_7 : decode cX2_init 7 = .ok (.newarray .int, 2) := by decide +kernel
theorem dX2_init_9 : decode cX2_init 9 = .ok (.putfield 9, 3) := by decide +kernel
theorem dX2_init_12 : decode cX2_init 12 = .ok (.aload_n 0, 1) := by decide +kernel
theorem dX2_init_13 : decode cX2_init 13 = .ok (.iconst 4, 1) := by decide +kernel
theorem dX2_init_14 : decode cX2_init 14 = .ok (.newarray .int, 2) := by decide +kernel
theorem dX2_init_16 : decode cX2_init 16 = .ok (.putfield 15, 3) := by decide +kernel
theorem dX2_init_19 : decode cX2_init 19 = .ok (.aload_n 0, 1) := by decide +kernel
theorem dX2_init_20 : decode cX2_init 20 = .ok (.bipush 8, 2) := by decide +kernel
theorem dX2_init_22 : decode cX2_init 22 = .ok (.putfield 18, 3) := by decide +kernel
theorem dX2_init_25 : decode cX2_init 25 = .ok (.aload_n 0, 1) := by decide +kernel
theorem dX2_init_26 : decode cX2_init 26 = .ok (.getfield 15, 3) := by decide +kernel
theorem dX2_init_29 : decode cX2_init 29 = .ok (.iconst 0, 1) := by decide +kernel
theorem dX2_init_30 : decode cX2_init 30 = .ok (.sipush 500, 3) := by decide +kernel
theorem dX2_init_33 : decode cX2_init 33 = .ok (.iastore, 1) := by decide +kernel
theorem dX2_init_34 : decode cX2_init 34 = .ok (.aload_n 0, 1) := by decide +kernel
theorem dX2_init_35 : decode cX2_init 35 = .ok (.getfield 15, 3) := by decide +kernel
theorem dX2_init_38 : decode cX2_init 38 = .ok (.iconst 1, 1) := by decide +kernel
theorem dX2_init_39 : decode cX2_init 39 = .ok (.iconst 1, 1) := by decide +kernel
theorem dX2_init_40 : decode cX2_init 40 = .ok (.iastore, 1) := by decide +kernel
theorem dX2_init_41 : decode cX2_init 41 = .ok (.aload_n 0, 1) := by decide +kernel
theorem dX2_init_42 : decode cX2_init 42 = .ok (.getfield 15, 3) := by decide +kernel
theorem dX2_init_45 : decode cX2_init 45 = .ok (.iconst 2, 1) := by decide +kernel
theorem dX2_init_46 : decode cX2_init 46 = .ok (.iconst 0, 1) := by decide +kernel
theorem dX2_init_47 : decode cX2_init 47 = .ok (.iastore, 1) := by decide +kernel
theorem dX2_init_48 : decode cX2_init 48 = .ok (.aload_n 0, 1) := by decide +kernel
theorem dX2_init_49 : decode cX2_init 49 = .ok (.getfield 15, 3) := by decide +kernel
theorem dX2_init_52 : decode cX2_init 52 = .ok (.iconst 3, 1) := by decide +kernel
theorem dX2_init_53 : decode cX2_init 53 = .ok (.bipush 10, 2) := by decide +kernel
theorem dX2_init_55 : decode cX2_init 55 = .ok (.iastore, 1) := by decide +kernel
theorem dX2_init_56 : decode cX2_init 56 = .ok (.return_, 1) := by decide +kernel
theorem dX2_copyFrom_0 : decode cX2_copyFrom 0 = .ok (.aload_n 1, 1) := by decide +kernel
theorem dX2_copyFrom_1 : decode cX2_copyFrom 1 = .ok (.getfield 9, 3) := by decide +kernel
theorem dX2_copyFrom_4 : decode cX2_copyFrom 4 = .ok (.iconst 0, 1) := by decide +kernel
theorem dX2_copyFrom_5 : decode cX2_copyFrom 5 = .ok (.aload_n 0, 1) := by decide +kernel
theorem dX2_copyFrom_6 : decode cX2_copyFrom 6 = .ok (.getfield 9, 3) := by decide +kernel
theorem dX2_copyFrom_9 : decode cX2_copyFrom 9 = .ok (.iconst 0, 1) := by decide +kernel
theorem dX2_copyFrom_10 : decode cX2_copyFrom 10 = .ok (.bipush 16, 2) := by decide +kernel
theorem dX2_copyFrom_12 : decode cX2_copyFrom 12 = .ok (.invokestatic 22, 3) := by decide +kernel
theorem dX2_copyFrom_15 : decode cX2_copyFrom 15 = .ok (.aload_n 1, 1) := by decide +kernel
theorem dX2_copyFrom_16 : decode cX2_copyFrom 16 = .ok (.getfield 15, 3) := by decide +kernel
theorem dX2_copyFrom_19 : decode cX2_copyFrom 19 = .ok (.iconst 0, 1) := by decide +kernel
theorem dX2_copyFrom_20 : decode cX2_copyFrom 20 = .ok (.aload_n 0, 1) := by decide +kernel
theorem dX2_copyFrom_21 : decode cX2_copyFrom 21 = .ok (.getfield 15, 3) := by decide +kernel
theorem dX2_copyFrom_24 : decode cX2_copyFrom 24 = .ok (.iconst 0, 1) := by decide +kernel
theorem dX2_copyFrom_25 : decode cX2_copyFrom 25 = .ok (.iconst 4, 1) := by decide +kernel
theorem dX2_copyFrom_26 : decode cX2_copyFrom 26 = .ok (.invokestatic 22, 3) := by decide +kernel
theorem dX2_copyFrom_29 : decode cX2_copyFrom 29 = .ok (.aload_n 0, 1) := by decide +kernel
theorem dX2_copyFrom_30 : decode cX2_copyFrom 30 = .ok (.aload_n 1, 1) := by decide +kernel
theorem dX2_copyFrom_31 : decode cX2_copyFrom 31 = .ok (.getfield 18, 3) := by decide +kernel
theorem dX2_copyFrom_34 : decode cX2_copyFrom 34 = .ok (.putfield 18, 3) := by decide +kernel
theorem dX2_copyFrom_37 : decode cX2_copyFrom 37 = .ok (.aload_n 0, 1) := by decide +kernel
theorem dX2_copyFrom_38 : decode cX2_copyFrom 38 = .ok (.aload_n 1, 1) := by decide +kernel
theorem dX2_copyFrom_39 : decode cX2_copyFrom 39 = .ok (.getfield 28, 3) := by decide +kernel
theorem dX2_copyFrom_42 : decode cX2_copyFrom 42 = .ok (.putfield 28, 3) := by decide +kernel
theorem dX2_copyFrom_45 : decode cX2_copyFrom 45 = .ok (.return_, 1) := by decide +kernel
theorem dX2_hasPlace_0 : decode cX2_hasPlace 0 = .ok (.iload_n 1, 1) := by decide +kernel
theorem dX2_hasPlace_1 : decode cX2_hasPlace 1 = .ok (.ifCond .lt 15, 3) := by decide +kernel
theorem dX2_hasPlace_4 : decode cX2_hasPlace 4 = .ok (.iload_n 1, 1) := by decide +kernel
theorem dX2_hasPlace_5 : decode cX2_hasPlace 5 = .ok (.aload_n 0, 1) := by decide +kernel
theorem dX2_hasPlace_6 : decode cX2_hasPlace 6 = .ok (.getfield 18, 3) := by decide +kernel
theorem dX2_hasPlace_9 : decode cX2_hasPlace 9 = .ok (.if_icmp .ge 7, 3) := by decide +kernel
theorem dX2_hasPlace_12 : decode cX2_hasPlace 12 = .ok (.iconst 1, 1) := by decide +kernel
theorem dX2_hasPlace_13 : decode cX2_hasPlace 13 = .ok (.goto 4, 3) := by decide +kernel
theorem dX2_hasPlace_16 : decode cX2_hasPlace 16 = .ok (.iconst 0, 1) := by decide +kernel
theorem dX2_hasPlace_17 : decode cX2_hasPlace 17 = .ok (.ireturn, 1) := by decide +kernel
theorem dX2_isOpen_0 : decode cX2_isOpen 0 = .ok (.aload_n 0, 1) := by decide +kernel
theorem dX2_isOpen_1 : decode cX2_isOpen 1 = .ok (.getfield 28, 3) := by decide +kernel
theorem dX2_isOpen_4 : decode cX2_isOpen 4 = .ok (.iload_n 1, 1) := by decide +kernel
theorem dX2_isOpen_5 : decode cX2_isOpen 5 = .ok (.ishr, 1) := by decide +kernel
theorem dX2_isOpen_6 : decode cX2_isOpen 6 = .ok (.iconst 1, 1) := by decide +kernel
theorem dX2_isOpen_7 : decode cX2_isOpen 7 = .ok (.iand, 1) := by decide +kernel
theorem dX2_isOpen_8 : decode cX2_isOpen 8 = .ok (.iconst 1, 1) := by decide +kernel
theorem dX2_isOpen_9 : decode cX2_isOpen 9 = .ok (.if_icmp .ne 7, 3) := by decide +kernel
theorem dX2_isOpen_12 : decode cX2_isOpen 12 = .ok (.iconst 1, 1) := by decide +kernel
theorem dX2_isOpen_13 : decode cX2_isOpen 13 = .ok (.goto 4, 3) := by decide +kernel
theorem dX2_isOpen_16 : decode cX2_isOpen 16 = .ok (.iconst 0, 1) := by decide +kernel
theorem dX2_isOpen_17 : decode cX2_isOpen 17 = .ok (.ireturn, 1) := by decide +kernel
set_option maxRecDepth 20000 in
theorem ggX2_openPlaces_J6_bitCount_0f7a4 : GoodIn wsX2_openPlaces wsJ6_bitCount_0f7a4 := goodIn_r _ [5, 6, 7, 8] (by decide +kernel) (by decide +kernel)
set_option maxRecDepth 20000 in
theorem gX2_openPlaces_J6_bitCount_0f7a4 : GoodIn wsX2_openPlaces (va_wsS RX2 31 yJ6_bitCount_0f7a4 wsJ6_bitCount_0f7a4) := goodIn_app (goodIn_of _ (by decide +kernel)) ggX2_openPlaces_J6_bitCount_0f7a4
theorem dX2_openPlaces_0 : decode cX2_openPlaces 0 = .ok (.aload_n 0, 1) := by decide +kernel
theorem dX2_openPlaces_1 : decode cX2_openPlaces 1 = .ok (.getfield 28, 3) := by decide +kernel
theorem dX2_openPlaces_4 : decode cX2_openPlaces 4 = .ok (.invokestatic 31, 3) := by decide +kernel
theorem dX2_openPlaces_7 : decode cX2_openPlaces 7 = .ok (.ireturn, 1) := by decide +kernel
set_option maxRecDepth 20000 in
theorem ggX2_openPlacesBefore_J6_bitCount_0f7a4 : GoodIn wsX2_openPlacesBefore wsJ6_bitCount_0f7a4 := goodIn_r _ [5, 6, 7, 8] (by decide +kernel) (by decide +kernel)
set_option maxRecDepth 20000 in
theorem gX2_openPlacesBefore_J6_bitCount_0f7a4 : GoodIn wsX2_openPlacesBefore (va_wsS RX2 31 yJ6_bitCount_0f7a4 wsJ6_bitCount_0f7a4) := goodIn_app (goodIn_of _ (by decide +kernel)) ggX2_openPlacesBefore_J6_bitCount_0f7a4
theorem dX2_openPlacesBefore_0 : decode cX2_openPlacesBefore 0 = .ok (.aload_n 0, 1) := by decide +kernel
theorem dX2_openPlacesBefore_1 : decode cX2_openPlacesBefore 1 = .ok (.getfield 28, 3) := by decide +kernel
theorem dX2_openPlacesBefore_4 : decode cX2_openPlacesBefore 4 = .ok (.iconst 1, 1) := by decide +kernel
theorem dX2_openPlacesBefore_5 : decode cX2_openPlacesBefore 5 = .ok (.iload_n 1, 1) := by decide +kernel
theorem dX2_openPlacesBefore_6 : decode cX2_openPlacesBefore 6 = .ok (.ishl, 1) := by decide +kernel
theorem dX2_openPlacesBefore_7 : decode cX2_openPlacesBefore 7 = .ok (.iconst 1, 1) := by decide +kernel
theorem dX2_openPlacesBefore_8 : decode cX2_openPlacesBefore 8 = .ok (.isub, 1) := by decide +kernel
theorem dX2_openPlacesBefore_9 : decode cX2_openPlacesBefore 9 = .ok (.iand, 1) := by decide +kernel
theorem dX2_openPlacesBefore_10 : decode cX2_openPlacesBefore 10 = .ok (.invokestatic 31, 3) := by decide +kernel
theorem dX2_openPlacesBefore_13 : decode cX2_openPlacesBefore 13 = .ok (.ireturn, 1) := by decide +kernel
set_option maxRecDepth 20000 in
theorem ggX2_checkBits_X2_openPlaces : GoodIn wsX2_checkBits wsX2_openPlaces := goodIn_r _ [10, 11, 12, 13, 14, 15, 16, 17, 18, 19, 20, 21, 22] (by decide +kernel) (by decide +kernel)
set_option maxRecDepth 20000 in
theorem gX2_checkBits_X2_openPlaces : GoodIn wsX2_checkBits (wsV RX2 37 RX2 yX2_openPlaces wsX2_openPlaces) := goodIn_app (goodIn_of _ (by decide +kernel)) ggX2_checkBits_X2_openPlaces
theorem dX2_checkBits_0 : decode cX2_checkBits 0 = .ok (.aload_n 0, 1) := by decide +kernel
theorem dX2_checkBits_1 : decode cX2_checkBits 1 = .ok (.getfield 15, 3) := by decide +kernel
theorem dX2_checkBits_4 : decode cX2_checkBits 4 = .ok (.iconst 2, 1) := by decide +kernel
theorem dX2_checkBits_5 : decode cX2_checkBits 5 = .ok (.iaload, 1) := by decide +kernel
theorem dX2_checkBits_6 : decode cX2_checkBits 6 = .ok (.aload_n 0, 1) := by decide +kernel
theorem dX2_checkBits_7 : decode cX2_checkBits 7 = .ok (.invokevirtual 37, 3) := by decide +kernel
theorem dX2_checkBits_10 : decode cX2_checkBits 10 = .ok (.invokestatic 41, 3) := by decide +kernel
theorem dX2_checkBits_13 : decode cX2_checkBits 13 = .ok (.ireturn, 1) := by decide +kernel
set_option maxRecDepth 20000 in
theorem ggX2_bodyBits_X2_openPlaces : GoodIn wsX2_bodyBits wsX2_openPlaces := goodIn_r _ [5, 6, 7, 8, 9, 10, 11, 12, 13, 23, 24, 25, 26] (by decide +kernel) (by decide +kernel)
set_option maxRecDepth 20000 in
theorem gX2_bodyBits_X2_openPlaces : GoodIn wsX2_bodyBits (wsV RX2 37 RX2 yX2_openPlaces wsX2_openPlaces) := goodIn_app (goodIn_of _ (by decide +kernel)) ggX2_bodyBits_X2_openPlaces
set_option maxRecDepth 20000 in
theorem ggX2_bodyBits_X2_checkBits : GoodIn wsX2_bodyBits wsX2_checkBits := goodIn_r _ [17, 18, 19, 20, 21, 22, 1, 2, 3, 4, 5, 6, 7, 8, 9, 10, 11, 12, 13, 23, 24, 25, 26] (by decide +kernel) (by decide +kernel)
set_option maxRecDepth 20000 in
theorem gX2_bodyBits_X2_checkBits : GoodIn wsX2_bodyBits (wsV RX2 47 RX2 yX2_checkBits wsX2_checkBits) := goodIn_app (goodIn_of _ (by decide +kernel)) ggX2_bodyBits_X2_checkBits
theorem dX2_bodyBits_0 : decode cX2_bodyBits 0 = .ok (.aload_n 0, 1) := by decide +kernel
theorem dX2_bodyBits_1 : decode cX2_bodyBits 1 = .ok (.invokevirtual 37, 3) := by decide +kernel
theorem dX2_bodyBits_4 : decode cX2_bodyBits 4 = .ok (.aload_n 0, 1) := by decide +kernel
theorem dX2_bodyBits_5 : decode cX2_bodyBits 5 = .ok (.invokevirtual 47, 3) := by decide +kernel
theorem dX2_bodyBits_8 : decode cX2_bodyBits 8 = .ok (.isub, 1) := by decide +kernel
theorem dX2_bodyBits_9 : decode cX2_bodyBits 9 = .ok (.ireturn, 1) := by decide +kernel
set_option maxRecDepth 20000 in
theorem ggX2_isForCheckBit_X2_isOpen : GoodIn wsX2_isForCheckBit wsX2_isOpen := goodIn_r _ [5, 6, 35, 36, 37, 38] (by decide +kernel) (by decide +kernel)
set_option maxRecDepth 20000 in
theorem gX2_isForCheckBit_X2_isOpen : GoodIn wsX2_isForCheckBit (wsV RX2 50 RX2 yX2_isOpen wsX2_isOpen) := goodIn_app (goodIn_of _ (by decide +kernel)) ggX2_isForCheckBit_X2_isOpen
set_option maxRecDepth 20000 in
theorem ggX2_isForCheckBit_X2_openPlacesBefore : GoodIn wsX2_isForCheckBit wsX2_openPlacesBefore := goodIn_r _ [10, 6, 11, 12, 13, 14, 15, 16, 17, 35, 36, 37, 38] (by decide +kernel) (by decide +kernel)
set_option maxRecDepth 20000 in
theorem gX2_isForCheckBit_X2_openPlacesBefore : GoodIn wsX2_isForCheckBit (wsV RX2 54 RX2 yX2_openPlacesBefore wsX2_openPlacesBefore) := goodIn_app (goodIn_of _ (by decide +kernel)) ggX2_isForCheckBit_X2_openPlacesBefore
set_option maxRecDepth 20000 in
theorem ggX2_isForCheckBit_X2_bodyBits : GoodIn wsX2_isForCheckBit wsX2_bodyBits := goodIn_r _ [21, 22, 23, 24, 4, 25, 6, 11, 12, 13, 14, 15, 16, 17, 26, 27, 28, 29, 30, 31, 32, 33, 34, 35, 36, 37, 38] (by decide +kernel) (by decide +kernel)
set_option maxRecDepth 20000 in
theorem gX2_isForCheckBit_X2_bodyBits : GoodIn wsX2_isForCheckBit (wsV RX2 57 RX2 yX2_bodyBits wsX2_bodyBits) := goodIn_app (goodIn_of _ (by decide +kernel)) ggX2_isForCheckBit_X2_bodyBits
theorem dX2_isForCheckBit_0 : decode cX2_isForCheckBit 0 = .ok (.aload_n 0, 1) := by decide +kernel
theorem dX2_isForCheckBit_1 : decode cX2_isForCheckBit 1 = .ok (.iload_n 1, 1) := by decide +kernel
theorem dX2_isForCheckBit_2 : decode cX2_isForCheckBit 2 = .ok (.invokevirtual 50, 3) := by decide +kernel
theorem dX2_isForCheckBit_5 : decode cX2_isForCheckBit 5 = .ok (.ifCond .eq 19, 3) := by decide +kernel
theorem dX2_isForCheckBit_8 : decode cX2_isForCheckBit 8 = .ok (.aload_n 0, 1) := by decide +kernel
theorem dX2_isForCheckBit_9 : decode cX2_isForCheckBit 9 = .ok (.iload_n 1, 1) := by decide +kernel
theorem dX2_isForCheckBit_10 : decode cX2_isForCheckBit 10 = .ok (.invokevirtual 54, 3) := by decide +kernel
theorem dX2_isForCheckBit_13 : decode cX2_isForCheckBit 13 = .ok (.aload_n 0, 1) := by decide +kernel
theorem dX2_isForCheckBit_14 : decode cX2_isForCheckBit 14 = .ok (.invokevirtual 57, 3) := by decide +kernel
theorem dX2_isForCheckBit_17 : decode cX2_isForCheckBit 17 = .ok (.if_icmp .lt 7, 3) := by decide +kernel
theorem dX2_isForCheckBit_20 : decode cX2_isForCheckBit 20 = .ok (.iconst 1, 1) := by decide +kernel
theorem dX2_isForCheckBit_21 : decode cX2_isForCheckBit 21 = .ok (.goto 4, 3) := by decide +kernel
theorem dX2_isForCheckBit_24 : decode cX2_isForCheckBit 24 = .ok (.iconst 0, 1) := by decide +kernel
theorem dX2_isForCheckBit_25 : decode cX2_isForCheckBit 25 = .ok (.ireturn, 1) := by decide +kernel
theorem dX2_unsureness_0 : decode cX2_unsureness 0 = .ok (.aload_n 0, 1) := by decide +kernel
theorem dX2_unsureness_1 : decode cX2_unsureness 1 = .ok (.getfield 15, 3) := by decide +kernel
theorem dX2_unsureness_4 : decode cX2_unsureness 4 = .ok (.iconst 0, 1) := by decide +kernel
theorem dX2_unsureness_5 : decode cX2_unsureness 5 = .ok (.iaload, 1) := by decide +kernel
theorem dX2_unsureness_6 : decode cX2_unsureness 6 = .ok (.i2l, 1) := by decide +kernel
theorem dX2_unsureness_7 : decode cX2_unsureness 7 = .ok (.ldc2_w 60, 3) := by decide +kernel
theorem dX2_unsureness_10 : decode cX2_unsureness 10 = .ok (.lmul, 1) := by decide +kernel
theorem dX2_unsureness_11 : decode cX2_unsureness 11 = .ok (.lstore_n 2, 1) := by decide +kernel
theorem dX2_unsureness_12 : decode cX2_unsureness 12 = .ok (.aload_n 0, 1) := by decide +kernel
theorem dX2_unsureness_13 : decode cX2_unsureness 13 = .ok (.getfield 18, 3) := by decide +kernel
theorem dX2_unsureness_16 : decode cX2_unsureness 16 = .ok (.iconst 2, 1) := by decide +kernel
theorem dX2_unsureness_17 : decode cX2_unsureness 17 = .ok (.idiv, 1) := by decide +kernel
theorem dX2_unsureness_18 : decode cX2_unsureness 18 = .ok (.istore 4, 2) := by decide +kernel
theorem dX2_unsureness_20 : decode cX2_unsureness 20 = .ok (.iload 4, 2) := by decide +kernel
theorem dX2_unsureness_22 : decode cX2_unsureness 22 = .ok (.ifCond .le 42, 3) := by decide +kernel
theorem dX2_unsureness_25 : decode cX2_unsureness 25 = .ok (.lload_n 2, 1) := by decide +kernel
theorem dX2_unsureness_26 : decode cX2_unsureness 26 = .ok (.lload_n 2, 1) := by decide +kernel
theorem dX2_unsureness_27 : decode cX2_unsureness 27 = .ok (.lmul, 1) := by decide +kernel
theorem dX2_unsureness_28 : decode cX2_unsureness 28 = .ok (.ldc2_w 62, 3) := by decide +kernel
theorem dX2_unsureness_31 : decode cX2_unsureness 31 = .ok (.ldiv, 1) := by decide +kernel
theorem dX2_unsureness_32 : decode cX2_unsureness 32 = .ok (.lstore 5, 2) := by decide +kernel
theorem dX2_unsureness_34 : decode cX2_unsureness 34 = .ok (.iload_n 1, 1) := by decide +kernel
theorem dX2_unsureness_35 : decode cX2_unsureness 35 = .ok (.iload 4, 2) := by decide +kernel
theorem dX2_unsureness_37 : decode cX2_unsureness 37 = .ok (.iand, 1) := by decide +kernel
theorem dX2_unsureness_38 : decode cX2_unsureness 38 = .ok (.ifCond .ne 14, 3) := by decide +kernel
theorem dX2_unsureness_41 : decode cX2_unsureness 41 = .ok (.ldc2_w 64, 3) := by decide +kernel
theorem dX2_unsureness_44 : decode cX2_unsureness 44 = .ok (.lload_n 2, 1) := by decide +kernel
theorem dX2_unsureness_45 : decode cX2_unsureness 45 = .ok (.lmul, 1) := by decide +kernel
theorem dX2_unsureness_46 : decode cX2_unsureness 46 = .ok (.lload 5, 2) := by decide +kernel
theorem dX2_unsureness_48 : decode cX2_unsureness 48 = .ok (.lsub, 1) := by decide +kernel
theorem dX2_unsureness_49 : decode cX2_unsureness 49 = .ok (.goto 5, 3) := by decide +kernel
theorem dX2_unsureness_52 : decode cX2_unsureness 52 = .ok (.lload 5, 2) := by decide +kernel
theorem dX2_unsureness_54 : decode cX2_unsureness 54 = .ok (.lstore_n 2, 1) := by decide +kernel
theorem dX2_unsureness_55 : decode cX2_unsureness 55 = .ok (.iload 4, 2) := by decide +kernel
theorem dX2_unsureness_57 : decode cX2_unsureness 57 = .ok (.iconst 2, 1) := by decide +kernel
theorem dX2_unsureness_58 : decode cX2_unsureness 58 = .ok (.idiv, 1) := by decide +kernel
theorem dX2_unsureness_59 : decode cX2_unsureness 59 = .ok (.istore 4, 2) := by decide +kernel
theorem dX2_unsureness_61 : decode cX2_unsureness 61 = .ok (.goto (-41), 3) := by decide +kernel
theorem dX2_unsureness_64 : decode cX2_unsureness 64 = .ok (.lload_n 2, 1) := by decide +kernel
theorem dX2_unsureness_65 : decode cX2_unsureness 65 = .ok (.l2i, 1) := by decide +kernel
theorem dX2_unsureness_66 : decode cX2_unsureness 66 = .ok (.ireturn, 1) := by decide +kernel
set_option maxRecDepth 20000 in
theorem ggX2_sureRank_X2_unsureness : GoodIn wsX2_sureRank wsX2_unsureness := goodIn_r _ [6, 7, 8, 1, 9, 10, 11, 12, 13, 14] (by decide +kernel) (by decide +kernel)
set_option maxRecDepth 20000 in
theorem gX2_sureRank_X2_unsureness : GoodIn wsX2_sureRank (wsV RX2 66 RX2 yX2_unsureness wsX2_unsureness) := goodIn_app (goodIn_of _ (by decide +kernel)) ggX2_sureRank_X2_unsureness
theorem dX2_sureRank_0 : decode cX2_sureRank 0 = .ok (.aload_n 0, 1) := by decide +kernel
theorem dX2_sureRank_1 : decode cX2_sureRank 1 = .ok (.iload_n 1, 1) := by decide +kernel
theorem dX2_sureRank_2 : decode cX2_sureRank 2 = .ok (.invokevirtual 66, 3) := by decide +kernel
theorem dX2_sureRank_5 : decode cX2_sureRank 5 = .ok (.istore_n 2, 1) := by decide +kernel
theorem dX2_sureRank_6 : decode cX2_sureRank 6 = .ok (.iconst 0, 1) := by decide +kernel
theorem dX2_sureRank_7 : decode cX2_sureRank 7 = .ok (.istore_n 3, 1) := by decide +kernel
theorem dX2_sureRank_8 : decode cX2_sureRank 8 = .ok (.iconst 0, 1) := by decide +kernel
theorem dX2_sureRank_9 : decode cX2_sureRank 9 = .ok (.istore 4, 2) := by decide +kernel
theorem dX2_sureRank_11 : decode cX2_sureRank 11 = .ok (.iload 4, 2) := by decide +kernel
theorem dX2_sureRank_13 : decode cX2_sureRank 13 = .ok (.aload_n 0, 1) := by decide +kernel
