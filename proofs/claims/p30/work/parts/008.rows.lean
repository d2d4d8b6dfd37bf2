set_option maxRecDepth 20000 in
theorem gL_act_X3_send : GoodIn wsL_act (wsV RL 45 RX3 yX3_send wsX3_send) := goodIn_app (goodIn_of _ (by decide +kernel)) ggL_act_X3_send
set_option maxRecDepth 20000 in
theorem ggL_act_X3_flip : GoodIn wsL_act wsX3_flip := goodIn_ca (goodIn_r _ [215, 182, 183, 8, 149, 216, 51, 37, 52, 184, 185, 186, 15, 187, 44, 150, 151, 152, 4, 153, 154, 155, 11, 57, 156, 157, 158, 159, 45, 160, 89, 90, 91, 34, 17, 226, 227, 228, 229, 230, 231, 232, 233, 234, 235, 236, 237, 238] (by decide +kernel) (by decide +kernel)) (goodIn_sub (fun _ h => List.mem_cons_of_mem _ (List.mem_append_right _ h)) (by decide +kernel))
set_option maxRecDepth 20000 in
theorem gL_act_X3_flip : GoodIn wsL_act (wsV RL 48 RX3 yX3_flip wsX3_flip) := goodIn_app (goodIn_of _ (by decide +kernel)) ggL_act_X3_flip
set_option maxRecDepth 20000 in
theorem ggL_act_X3_roll : GoodIn wsL_act wsX3_roll := goodIn_ca (goodIn_r _ [220, 6, 7, 8, 9, 221, 149, 150, 151, 152, 4, 153, 154, 155, 11, 57, 156, 157, 158, 15, 159, 45, 160, 89, 90, 91, 34, 44, 17, 226, 227, 228, 229, 230, 231, 232, 233, 234, 235, 236, 237, 238] (by decide +kernel) (by decide +kernel)) (goodIn_sub (fun _ h => List.mem_cons_of_mem _ (List.mem_append_left _ (List.mem_append_left _ (List.mem_append_right _ h)))) (by decide +kernel))
set_option maxRecDepth 20000 in
theorem gL_act_X3_roll : GoodIn wsL_act (wsV RL 51 RX3 yX3_roll wsX3_roll) := goodIn_app (goodIn_of _ (by decide +kernel)) ggL_act_X3_roll
set_option maxRecDepth 20000 in
theorem ggL_act_X3_receive : GoodIn wsL_act wsX3_receive := goodIn_ca (goodIn_ca (goodIn_r _ [225, 182, 183, 6, 7, 8, 149, 184, 185, 186, 15, 187, 44, 150, 151, 152, 4, 153, 154, 155, 11, 57, 156, 157, 158, 159, 45, 160, 89, 90, 91, 34, 17, 226, 227, 228, 229, 230, 231, 232, 233, 234, 235, 236, 237, 238] (by decide +kernel) (by decide +kernel)) (goodIn_sub (fun _ h => List.mem_cons_of_mem _ (List.mem_append_right _ h)) (by decide +kernel))) (goodIn_sub (fun _ h => List.mem_cons_of_mem _ (List.mem_append_left _ (List.mem_append_left _ (List.mem_append_right _ h)))) (by decide +kernel))
set_option maxRecDepth 20000 in
theorem gL_act_X3_receive : GoodIn wsL_act (wsV RL 54 RX3 yX3_receive wsX3_receive) := goodIn_app (goodIn_of _ (by decide +kernel)) ggL_act_X3_receive
theorem dL_act_0 : decode cL_act 0 = .ok (.aload_n 0, 1) := by decide +kernel
theorem dL_act_1 : decode cL_act 1 = .ok (.iconst 0, 1) := by decide +kernel
theorem dL_act_2 : decode cL_act 2 = .ok (.invokevirtual 12, 3) := by decide +kernel
theorem dL_act_5 : decode cL_act 5 = .ok (.istore_n 3, 1) := by decide +kernel
theorem dL_act_6 : decode cL_act 6 = .ok (.iload_n 1, 1) := by decide +kernel
theorem dL_act_7 : decode cL_act 7 = .ok (.iconst 4, 1) := by decide +kernel
theorem dL_act_8 : decode cL_act 8 = .ok (.ishr, 1) := by decide +kernel
theorem dL_act_9 : decode cL_act 9 = .ok (.iload_n 3, 1) := by decide +kernel
theorem dL_act_10 : decode cL_act 10 = .ok (.invokestatic 28, 3) := by decide +kernel
theorem dL_act_13 : decode cL_act 13 = .ok (.istore 4, 2) := by decide +kernel
theorem dL_act_15 : decode cL_act 15 = .ok (.iload_n 1, 1) := by decide +kernel
theorem dL_act_16 : decode cL_act 16 = .ok (.bipush 15, 2) := by decide +kernel
theorem dL_act_18 : decode cL_act 18 = .ok (.iand, 1) := by decide +kernel
theorem dL_act_19 : decode cL_act 19 = .ok (.tableswitch 196 0 10 #[57, 69, 69, 81, 81, 88, 88, 163, 163, 179, 186], 57) := by decide +kernel
theorem dL_act_76 : decode cL_act 76 = .ok (.aload_n 0, 1) := by decide +kernel
theorem dL_act_77 : decode cL_act 77 = .ok (.iconst 1, 1) := by decide +kernel
theorem dL_act_78 : decode cL_act 78 = .ok (.iload_n 2, 1) := by decide +kernel
theorem dL_act_79 : decode cL_act 79 = .ok (.iconst 4, 1) := by decide +kernel
theorem dL_act_80 : decode cL_act 80 = .ok (.invokestatic 28, 3) := by decide +kernel
theorem dL_act_83 : decode cL_act 83 = .ok (.iadd, 1) := by decide +kernel
theorem dL_act_84 : decode cL_act 84 = .ok (.invokevirtual 33, 3) := by decide +kernel
theorem dL_act_87 : decode cL_act 87 = .ok (.ireturn, 1) := by decide +kernel
theorem dL_act_88 : decode cL_act 88 = .ok (.aload_n 0, 1) := by decide +kernel
theorem dL_act_89 : decode cL_act 89 = .ok (.iload_n 2, 1) := by decide +kernel
theorem dL_act_90 : decode cL_act 90 = .ok (.iload_n 3, 1) := by decide +kernel
theorem dL_act_91 : decode cL_act 91 = .ok (.iconst 1, 1) := by decide +kernel
theorem dL_act_92 : decode cL_act 92 = .ok (.iadd, 1) := by decide +kernel
theorem dL_act_93 : decode cL_act 93 = .ok (.invokestatic 28, 3) := by decide +kernel
theorem dL_act_96 : decode cL_act 96 = .ok (.invokevirtual 36, 3) := by decide +kernel
theorem dL_act_99 : decode cL_act 99 = .ok (.ireturn, 1) := by decide +kernel
theorem dL_act_100 : decode cL_act 100 = .ok (.aload_n 0, 1) := by decide +kernel
theorem dL_act_101 : decode cL_act 101 = .ok (.iload 4, 2) := by decide +kernel
theorem dL_act_103 : decode cL_act 103 = .ok (.invokevirtual 39, 3) := by decide +kernel
theorem dL_act_106 : decode cL_act 106 = .ok (.ireturn, 1) := by decide +kernel
theorem dL_act_107 : decode cL_act 107 = .ok (.iload_n 2, 1) := by decide +kernel
theorem dL_act_108 : decode cL_act 108 = .ok (.iconst 4, 1) := by decide +kernel
theorem dL_act_109 : decode cL_act 109 = .ok (.invokestatic 28, 3) := by decide +kernel
theorem dL_act_112 : decode cL_act 112 = .ok (.istore 5, 2) := by decide +kernel
theorem dL_act_114 : decode cL_act 114 = .ok (.aload_n 0, 1) := by decide +kernel
theorem dL_act_115 : decode cL_act 115 = .ok (.iload 5, 2) := by decide +kernel
theorem dL_act_117 : decode cL_act 117 = .ok (.iload 5, 2) := by decide +kernel
theorem dL_act_119 : decode cL_act 119 = .ok (.ifCond .ne 17, 3) := by decide +kernel
theorem dL_act_122 : decode cL_act 122 = .ok (.iconst 1, 1) := by decide +kernel
theorem dL_act_123 : decode cL_act 123 = .ok (.iload_n 2, 1) := by decide +kernel
theorem dL_act_124 : decode cL_act 124 = .ok (.iconst 2, 1) := by decide +kernel
theorem dL_act_125 : decode cL_act 125 = .ok (.ishr, 1) := by decide +kernel
theorem dL_act_126 : decode cL_act 126 = .ok (.sipush 999, 3) := by decide +kernel
theorem dL_act_129 : decode cL_act 129 = .ok (.invokestatic 28, 3) := by decide +kernel
theorem dL_act_132 : decode cL_act 132 = .ok (.iadd, 1) := by decide +kernel
theorem dL_act_133 : decode cL_act 133 = .ok (.goto 45, 3) := by decide +kernel
theorem dL_act_136 : decode cL_act 136 = .ok (.iload 5, 2) := by decide +kernel
theorem dL_act_138 : decode cL_act 138 = .ok (.iconst 1, 1) := by decide +kernel
theorem dL_act_139 : decode cL_act 139 = .ok (.if_icmp .ne 15, 3) := by decide +kernel
theorem dL_act_142 : decode cL_act 142 = .ok (.iconst 1, 1) := by decide +kernel
theorem dL_act_143 : decode cL_act 143 = .ok (.iload_n 2, 1) := by decide +kernel
theorem dL_act_144 : decode cL_act 144 = .ok (.iconst 2, 1) := by decide +kernel
theorem dL_act_145 : decode cL_act 145 = .ok (.ishr, 1) := by decide +kernel
theorem dL_act_146 : decode cL_act 146 = .ok (.iconst 4, 1) := by decide +kernel
theorem dL_act_147 : decode cL_act 147 = .ok (.invokestatic 28, 3) := by decide +kernel
theorem dL_act_150 : decode cL_act 150 = .ok (.iadd, 1) := by decide +kernel
theorem dL_act_151 : decode cL_act 151 = .ok (.goto 27, 3) := by decide +kernel
theorem dL_act_154 : decode cL_act 154 = .ok (.iload 5, 2) := by decide +kernel
theorem dL_act_156 : decode cL_act 156 = .ok (.iconst 2, 1) := by decide +kernel
theorem dL_act_157 : decode cL_act 157 = .ok (.if_icmp .ne 11, 3) := by decide +kernel
theorem dL_act_160 : decode cL_act 160 = .ok (.iload_n 2, 1) := by decide +kernel
theorem dL_act_161 : decode cL_act 161 = .ok (.iconst 2, 1) := by decide +kernel
theorem dL_act_162 : decode cL_act 162 = .ok (.ishr, 1) := by decide +kernel
theorem dL_act_163 : decode cL_act 163 = .ok (.iconst 3, 1) := by decide +kernel
theorem dL_act_164 : decode cL_act 164 = .ok (.iand, 1) := by decide +kernel
theorem dL_act_165 : decode cL_act 165 = .ok (.goto 13, 3) := by decide +kernel
theorem dL_act_168 : decode cL_act 168 = .ok (.iconst 1, 1) := by decide +kernel
theorem dL_act_169 : decode cL_act 169 = .ok (.iload_n 2, 1) := by decide +kernel
theorem dL_act_170 : decode cL_act 170 = .ok (.iconst 2, 1) := by decide +kernel
theorem dL_act_171 : decode cL_act 171 = .ok (.ishr, 1) := by decide +kernel
theorem dL_act_172 : decode cL_act 172 = .ok (.bipush 99, 2) := by decide +kernel
theorem dL_act_174 : decode cL_act 174 = .ok (.invokestatic 28, 3) := by decide +kernel
theorem dL_act_177 : decode cL_act 177 = .ok (.iadd, 1) := by decide +kernel
theorem dL_act_178 : decode cL_act 178 = .ok (.invokevirtual 42, 3) := by decide +kernel
theorem dL_act_181 : decode cL_act 181 = .ok (.ireturn, 1) := by decide +kernel
theorem dL_act_182 : decode cL_act 182 = .ok (.aload_n 0, 1) := by decide +kernel
theorem dL_act_183 : decode cL_act 183 = .ok (.iload_n 2, 1) := by decide +kernel
theorem dL_act_184 : decode cL_act 184 = .ok (.iconst 1, 1) := by decide +kernel
theorem dL_act_185 : decode cL_act 185 = .ok (.aload_n 0, 1) := by decide +kernel
theorem dL_act_186 : decode cL_act 186 = .ok (.iconst 2, 1) := by decide +kernel
theorem dL_act_187 : decode cL_act 187 = .ok (.invokevirtual 12, 3) := by decide +kernel
theorem dL_act_190 : decode cL_act 190 = .ok (.ishl, 1) := by decide +kernel
theorem dL_act_191 : decode cL_act 191 = .ok (.iconst 1, 1) := by decide +kernel
theorem dL_act_192 : decode cL_act 192 = .ok (.isub, 1) := by decide +kernel
theorem dL_act_193 : decode cL_act 193 = .ok (.iand, 1) := by decide +kernel
theorem dL_act_194 : decode cL_act 194 = .ok (.invokevirtual 45, 3) := by decide +kernel
theorem dL_act_197 : decode cL_act 197 = .ok (.ireturn, 1) := by decide +kernel
theorem dL_act_198 : decode cL_act 198 = .ok (.aload_n 0, 1) := by decide +kernel
theorem dL_act_199 : decode cL_act 199 = .ok (.iload 4, 2) := by decide +kernel
theorem dL_act_201 : decode cL_act 201 = .ok (.invokevirtual 48, 3) := by decide +kernel
theorem dL_act_204 : decode cL_act 204 = .ok (.ireturn, 1) := by decide +kernel
theorem dL_act_205 : decode cL_act 205 = .ok (.aload_n 0, 1) := by decide +kernel
theorem dL_act_206 : decode cL_act 206 = .ok (.iload_n 2, 1) := by decide +kernel
theorem dL_act_207 : decode cL_act 207 = .ok (.iload_n 3, 1) := by decide +kernel
theorem dL_act_208 : decode cL_act 208 = .ok (.invokestatic 28, 3) := by decide +kernel
theorem dL_act_211 : decode cL_act 211 = .ok (.invokevirtual 51, 3) := by decide +kernel
theorem dL_act_214 : decode cL_act 214 = .ok (.ireturn, 1) := by decide +kernel
theorem dL_act_215 : decode cL_act 215 = .ok (.aload_n 0, 1) := by decide +kernel
theorem dL_act_216 : decode cL_act 216 = .ok (.iload 4, 2) := by decide +kernel
theorem dL_act_218 : decode cL_act 218 = .ok (.iload_n 2, 1) := by decide +kernel
theorem dL_act_219 : decode cL_act 219 = .ok (.sipush 199, 3) := by decide +kernel
theorem dL_act_222 : decode cL_act 222 = .ok (.invokestatic 28, 3) := by decide +kernel
theorem dL_act_225 : decode cL_act 225 = .ok (.bipush 99, 2) := by decide +kernel
theorem dL_act_227 : decode cL_act 227 = .ok (.isub, 1) := by decide +kernel
theorem dL_act_228 : decode cL_act 228 = .ok (.invokevirtual 54, 3) := by decide +kernel
theorem dL_act_231 : decode cL_act 231 = .ok (.ireturn, 1) := by decide +kernel
def ggL_holds_X3_count_l : List Cond := (Cond.code yX3_count cX3_count 2 (some .int) :: ((wsX3_count_r1 ++ (wsX3_count_r2 ++ (wsX3_count_r3 ++ (wsX3_count_r4 ++ (wsX3_count_r5 ++ wsX3_count_r6))))) ++ wsX30 ++ wsX20 ++ wsX00))
set_option maxRecDepth 40000 in
theorem ggL_holds_X3_count_p0 : GoodIn wsL_holds ((ggL_holds_X3_count_l.drop 0).take 30) := goodIn_r _ [6, 7, 8, 9, 10, 11, 12, 13, 14, 15, 16, 17, 18, 19, 20, 21, 22, 23, 24, 25, 26, 27, 28, 29, 30, 31, 32, 33, 34, 35] (by decide +kernel) (by decide +kernel)
set_option maxRecDepth 40000 in
theorem ggL_holds_X3_count_p1 : GoodIn wsL_holds ((ggL_holds_X3_count_l.drop 30).take 30) := goodIn_r _ [36, 37, 38, 39, 40, 41, 42, 43, 44, 45, 46, 47, 48, 49, 50, 51, 52, 53, 54, 55, 56, 5, 57, 58, 59, 60, 61, 62, 63, 64] (by decide +kernel) (by decide +kernel)
set_option maxRecDepth 40000 in
theorem ggL_holds_X3_count_p2 : GoodIn wsL_holds ((ggL_holds_X3_count_l.drop 60).take 30) := goodIn_r _ [65, 66, 67, 68, 69, 70, 71, 72, 73, 74, 75, 76, 77, 78, 79, 80, 81, 82, 83, 84, 85, 86, 87, 88, 89, 90, 91, 92, 93, 94] (by decide +kernel) (by decide +kernel)
set_option maxRecDepth 40000 in
theorem ggL_holds_X3_count_p3 : GoodIn wsL_holds ((ggL_holds_X3_count_l.drop 90).take 30) := goodIn_r _ [95, 96, 97, 98, 99, 100, 101, 102, 103, 104, 105, 106, 107, 108, 109, 110, 111, 112, 113, 114, 115, 116, 117, 118, 119, 120, 121, 122, 123, 124] (by decide +kernel) (by decide +kernel)
set_option maxRecDepth 40000 in
theorem ggL_holds_X3_count_p4 : GoodIn wsL_holds ((ggL_holds_X3_count_l.drop 120).take 30) := goodIn_r _ [125, 126, 127, 128, 129, 130, 131, 132, 133, 134, 135, 136, 137, 138, 139, 212, 213, 214, 215, 216, 217, 218, 219, 220, 221, 222, 223, 224, 225, 226] (by decide +kernel) (by decide +kernel)
set_option maxRecDepth 40000 in
theorem ggL_holds_X3_count_p5 : GoodIn wsL_holds ((ggL_holds_X3_count_l.drop 150).take 10) := goodIn_r _ [227, 228, 229, 230, 231, 232, 233, 234, 235, 236] (by decide +kernel) (by decide +kernel)
theorem ggL_holds_X3_count_a : GoodIn wsL_holds ggL_holds_X3_count_l := goodIn_all 160 (by decide +kernel) (goodIn_ch 150 10 (goodIn_ch 120 30 (goodIn_ch 90 30 (goodIn_ch 60 30 (goodIn_ch 30 30 (goodIn_ch 0 30 goodIn_0 ggL_holds_X3_count_p0) ggL_holds_X3_count_p1) ggL_holds_X3_count_p2) ggL_holds_X3_count_p3) ggL_holds_X3_count_p4) ggL_holds_X3_count_p5)
set_option maxRecDepth 40000 in
theorem ggL_holds_X3_count : GoodIn wsL_holds wsX3_count := goodIn_ca (ggL_holds_X3_count_a) (goodIn_sub (fun _ h => List.mem_cons_of_mem _ (List.mem_append_left _ (List.mem_append_right _ h))) (by decide +kernel))
set_option maxRecDepth 20000 in
theorem gL_holds_X3_count : GoodIn wsL_holds (wsV RL 12 RX3 yX3_count wsX3_count) := goodIn_app (goodIn_of _ (by decide +kernel)) ggL_holds_X3_count
set_option maxRecDepth 20000 in
theorem ggL_holds_X3_place : GoodIn wsL_holds wsX3_place := goodIn_ca (goodIn_ca (goodIn_r _ [143, 144, 145, 7, 8, 9, 146, 147, 148, 149, 16, 150, 45, 151, 76, 77, 78, 18, 152, 153, 154, 155, 35, 156, 157, 158, 159, 160, 161, 162, 163, 164, 165, 166, 167, 19, 20, 21, 22, 23, 24, 25, 168, 169, 170, 171, 133, 172, 173, 27, 28, 29, 30, 14, 15, 17, 31, 32, 33, 34, 36, 37, 38, 39, 212, 213, 214, 215, 216, 217, 218, 219, 220, 221, 222, 223, 224] (by decide +kernel) (by decide +kernel)) (goodIn_sub (fun _ h => List.mem_cons_of_mem _ (List.mem_append_right _ h)) (by decide +kernel))) (goodIn_sub (fun _ h => List.mem_cons_of_mem _ (List.mem_append_left _ (List.mem_append_right _ h))) (by decide +kernel))
set_option maxRecDepth 20000 in
theorem gL_holds_X3_place : GoodIn wsL_holds (wsV RL 21 RX3 yX3_place wsX3_place) := goodIn_app (goodIn_of _ (by decide +kernel)) ggL_holds_X3_place
def ggL_holds_X3_path_l : List Cond := (Cond.code yX3_path cX3_path 4 (some .int) :: ((wsX3_path_r1 ++ (wsX3_path_r2 ++ (wsX3_path_r3 ++ (wsX3_path_r4 ++ wsX3_path_r5)))) ++ wsX00 ++ wsX30 ++ wsX20))
set_option maxRecDepth 40000 in
theorem ggL_holds_X3_path_p0 : GoodIn wsL_holds ((ggL_holds_X3_path_l.drop 0).take 30) := goodIn_r _ [177, 7, 8, 11, 178, 179, 180, 54, 55, 56, 5, 57, 58, 59, 9, 60, 61, 62, 63, 64, 65, 66, 67, 68, 69, 70, 71, 72, 73, 74] (by decide +kernel) (by decide +kernel)
set_option maxRecDepth 40000 in
theorem ggL_holds_X3_path_p1 : GoodIn wsL_holds ((ggL_holds_X3_path_l.drop 30).take 30) := goodIn_r _ [75, 76, 77, 16, 78, 18, 79, 80, 81, 82, 83, 84, 85, 86, 87, 88, 89, 90, 91, 92, 93, 94, 95, 96, 97, 98, 99, 100, 101, 102] (by decide +kernel) (by decide +kernel)
set_option maxRecDepth 40000 in
theorem ggL_holds_X3_path_p2 : GoodIn wsL_holds ((ggL_holds_X3_path_l.drop 60).take 30) := goodIn_r _ [103, 104, 105, 106, 107, 108, 109, 110, 111, 112, 113, 114, 115, 116, 117, 118, 119, 120, 121, 122, 123, 124, 125, 126, 127, 27, 28, 29, 30, 14] (by decide +kernel) (by decide +kernel)
set_option maxRecDepth 40000 in
theorem ggL_holds_X3_path_p3 : GoodIn wsL_holds ((ggL_holds_X3_path_l.drop 90).take 30) := goodIn_r _ [15, 17, 19, 20, 21, 22, 23, 24, 25, 31, 32, 33, 34, 35, 36, 37, 38, 39, 128, 129, 130, 131, 132, 45, 133, 134, 135, 225, 226, 227] (by decide +kernel) (by decide +kernel)
set_option maxRecDepth 40000 in
theorem ggL_holds_X3_path_p4 : GoodIn wsL_holds ((ggL_holds_X3_path_l.drop 120).take 22) := goodIn_r _ [228, 229, 230, 231, 232, 233, 234, 235, 236, 212, 213, 214, 215, 216, 217, 218, 219, 220, 221, 222, 223, 224] (by decide +kernel) (by decide +kernel)
theorem ggL_holds_X3_path_a : GoodIn wsL_holds ggL_holds_X3_path_l := goodIn_all 142 (by decide +kernel) (goodIn_ch 120 22 (goodIn_ch 90 30 (goodIn_ch 60 30 (goodIn_ch 30 30 (goodIn_ch 0 30 goodIn_0 ggL_holds_X3_path_p0) ggL_holds_X3_path_p1) ggL_holds_X3_path_p2) ggL_holds_X3_path_p3) ggL_holds_X3_path_p4)
set_option maxRecDepth 40000 in
theorem ggL_holds_X3_path : GoodIn wsL_holds wsX3_path := goodIn_ca (ggL_holds_X3_path_a) (goodIn_sub (fun _ h => List.mem_cons_of_mem _ (List.mem_append_left _ (List.mem_append_right _ h))) (by decide +kernel))
set_option maxRecDepth 20000 in
theorem gL_holds_X3_path : GoodIn wsL_holds (wsV RL 57 RX3 yX3_path wsX3_path) := goodIn_app (goodIn_of _ (by decide +kernel)) ggL_holds_X3_path
def ggL_holds_X3_read_l : List Cond := (Cond.code yX3_read cX3_read 5 (some .int) :: ((wsX3_read_r1 ++ (wsX3_read_r2 ++ (wsX3_read_r3 ++ (wsX3_read_r4 ++ (wsX3_read_r5 ++ wsX3_read_r6))))) ++ wsX00 ++ wsX30 ++ wsX20))
set_option maxRecDepth 40000 in
theorem ggL_holds_X3_read_p0 : GoodIn wsL_holds ((ggL_holds_X3_read_l.drop 0).take 30) := goodIn_r _ [184, 7, 8, 185, 178, 9, 179, 54, 55, 56, 5, 57, 58, 59, 60, 61, 62, 63, 64, 65, 66, 67, 68, 69, 70, 71, 72, 73, 74, 75] (by decide +kernel) (by decide +kernel)
set_option maxRecDepth 40000 in
theorem ggL_holds_X3_read_p1 : GoodIn wsL_holds ((ggL_holds_X3_read_l.drop 30).take 30) := goodIn_r _ [76, 77, 16, 78, 18, 79, 80, 81, 82, 83, 84, 85, 86, 87, 88, 89, 90, 91, 92, 93, 94, 95, 96, 97, 98, 99, 100, 101, 102, 103] (by decide +kernel) (by decide +kernel)
set_option maxRecDepth 40000 in
theorem ggL_holds_X3_read_p2 : GoodIn wsL_holds ((ggL_holds_X3_read_l.drop 60).take 30) := goodIn_r _ [104, 105, 106, 107, 108, 109, 110, 111, 112, 113, 114, 115, 116, 117, 118, 119, 120, 121, 122, 123, 124, 125, 126, 127, 27, 28, 29, 30, 14, 15] (by decide +kernel) (by decide +kernel)
set_option maxRecDepth 40000 in
theorem ggL_holds_X3_read_p3 : GoodIn wsL_holds ((ggL_holds_X3_read_l.drop 90).take 30) := goodIn_r _ [17, 19, 20, 21, 22, 23, 24, 25, 31, 32, 33, 34, 35, 36, 37, 38, 39, 128, 129, 130, 131, 132, 45, 133, 134, 135, 186, 187, 188, 189] (by decide +kernel) (by decide +kernel)
set_option maxRecDepth 40000 in
theorem ggL_holds_X3_read_p4 : GoodIn wsL_holds ((ggL_holds_X3_read_l.drop 120).take 30) := goodIn_r _ [173, 190, 191, 192, 193, 194, 195, 196, 197, 46, 225, 226, 227, 228, 229, 230, 231, 232, 233, 234, 235, 236, 212, 213, 214, 215, 216, 217, 218, 219] (by decide +kernel) (by decide +kernel)
set_option maxRecDepth 40000 in
theorem ggL_holds_X3_read_p5 : GoodIn wsL_holds ((ggL_holds_X3_read_l.drop 150).take 5) := goodIn_r _ [220, 221, 222, 223, 224] (by decide +kernel) (by decide +kernel)
theorem ggL_holds_X3_read_a : GoodIn wsL_holds ggL_holds_X3_read_l := goodIn_all 155 (by decide +kernel) (goodIn_ch 150 5 (goodIn_ch 120 30 (goodIn_ch 90 30 (goodIn_ch 60 30 (goodIn_ch 30 30 (goodIn_ch 0 30 goodIn_0 ggL_holds_X3_read_p0) ggL_holds_X3_read_p1) ggL_holds_X3_read_p2) ggL_holds_X3_read_p3) ggL_holds_X3_read_p4) ggL_holds_X3_read_p5)
set_option maxRecDepth 40000 in
theorem ggL_holds_X3_read : GoodIn wsL_holds wsX3_read := goodIn_ca (ggL_holds_X3_read_a) (goodIn_sub (fun _ h => List.mem_cons_of_mem _ (List.mem_append_left _ (List.mem_append_right _ h))) (by decide +kernel))
set_option maxRecDepth 20000 in
theorem gL_holds_X3_read : GoodIn wsL_holds (wsV RL 25 RX3 yX3_read wsX3_read) := goodIn_app (goodIn_of _ (by decide +kernel)) ggL_holds_X3_read
set_option maxRecDepth 20000 in
theorem ggL_holds_X3_unsureShare : GoodIn wsL_holds wsX3_unsureShare := goodIn_r _ [201, 9, 10, 202, 13, 14, 15, 16, 17, 18, 19, 20, 21, 22, 23, 24, 25, 151, 76, 77, 78, 152, 153, 154, 155, 35, 156, 45, 157, 158, 212, 213, 214, 215, 216, 217, 218, 219, 220, 221, 222, 223, 224] (by decide +kernel) (by decide +kernel)
set_option maxRecDepth 20000 in
theorem gL_holds_X3_unsureShare : GoodIn wsL_holds (wsV RL 60 RX3 yX3_unsureShare wsX3_unsureShare) := goodIn_app (goodIn_of _ (by decide +kernel)) ggL_holds_X3_unsureShare
set_option maxRecDepth 20000 in
theorem ggL_holds_X3_setting : GoodIn wsL_holds wsX3_setting := goodIn_ca (goodIn_r _ [206, 144, 145, 9, 60, 212, 213, 214, 215, 216, 217, 218, 219, 220, 221, 222, 223, 224] (by decide +kernel) (by decide +kernel)) (goodIn_sub (fun _ h => List.mem_cons_of_mem _ (List.mem_append_right _ h)) (by decide +kernel))
set_option maxRecDepth 20000 in
theorem gL_holds_X3_setting : GoodIn wsL_holds (wsV RL 18 RX3 yX3_setting wsX3_setting) := goodIn_app (goodIn_of _ (by decide +kernel)) ggL_holds_X3_setting
def ggL_holds_X3_ifPaths_l : List Cond := (Cond.code yX3_ifPaths cX3_ifPaths 2 (some .int) :: ((wsX3_ifPaths_r1 ++ (wsX3_ifPaths_r2 ++ (wsX3_ifPaths_r3 ++ (wsX3_ifPaths_r4 ++ wsX3_ifPaths_r5)))) ++ wsX30 ++ wsX20 ++ wsX00))
set_option maxRecDepth 40000 in
theorem ggL_holds_X3_ifPaths_p0 : GoodIn wsL_holds ((ggL_holds_X3_ifPaths_l.drop 0).take 30) := goodIn_r _ [210, 7, 8, 211, 9, 61, 62, 63, 64, 65, 66, 67, 68, 69, 70, 71, 72, 73, 74, 75, 76, 77, 16, 78, 18, 79, 80, 81, 82, 83] (by decide +kernel) (by decide +kernel)
set_option maxRecDepth 40000 in
theorem ggL_holds_X3_ifPaths_p1 : GoodIn wsL_holds ((ggL_holds_X3_ifPaths_l.drop 30).take 30) := goodIn_r _ [84, 85, 86, 87, 88, 89, 90, 91, 92, 93, 94, 95, 96, 97, 5, 98, 99, 100, 101, 102, 103, 104, 105, 106, 107, 108, 109, 110, 111, 112] (by decide +kernel) (by decide +kernel)
set_option maxRecDepth 40000 in
theorem ggL_holds_X3_ifPaths_p2 : GoodIn wsL_holds ((ggL_holds_X3_ifPaths_l.drop 60).take 30) := goodIn_r _ [113, 114, 115, 116, 117, 118, 119, 120, 121, 122, 123, 124, 125, 126, 127, 27, 28, 29, 30, 14, 15, 17, 19, 20, 21, 22, 23, 24, 25, 31] (by decide +kernel) (by decide +kernel)
set_option maxRecDepth 40000 in
theorem ggL_holds_X3_ifPaths_p3 : GoodIn wsL_holds ((ggL_holds_X3_ifPaths_l.drop 90).take 30) := goodIn_r _ [32, 33, 34, 35, 36, 37, 38, 39, 128, 129, 130, 131, 132, 45, 133, 134, 135, 212, 213, 214, 215, 216, 217, 218, 219, 220, 221, 222, 223, 224] (by decide +kernel) (by decide +kernel)
set_option maxRecDepth 40000 in
theorem ggL_holds_X3_ifPaths_p4 : GoodIn wsL_holds ((ggL_holds_X3_ifPaths_l.drop 120).take 12) := goodIn_r _ [225, 226, 227, 228, 229, 230, 231, 232, 233, 234, 235, 236] (by decide +kernel) (by decide +kernel)
theorem ggL_holds_X3_ifPaths_a : GoodIn wsL_holds ggL_holds_X3_ifPaths_l := goodIn_all 132 (by decide +kernel) (goodIn_ch 120 12 (goodIn_ch 90 30 (goodIn_ch 60 30 (goodIn_ch 30 30 (goodIn_ch 0 30 goodIn_0 ggL_holds_X3_ifPaths_p0) ggL_holds_X3_ifPaths_p1) ggL_holds_X3_ifPaths_p2) ggL_holds_X3_ifPaths_p3) ggL_holds_X3_ifPaths_p4)
set_option maxRecDepth 40000 in
theorem ggL_holds_X3_ifPaths : GoodIn wsL_holds wsX3_ifPaths := goodIn_ca (ggL_holds_X3_ifPaths_a) (goodIn_sub (fun _ h => List.mem_cons_of_mem _ (List.mem_append_left _ (List.mem_append_right _ h))) (by decide +kernel))
set_option maxRecDepth 20000 in
theorem gL_holds_X3_ifPaths : GoodIn wsL_holds (wsV RL 66 RX3 yX3_ifPaths wsX3_ifPaths) := goodIn_app (goodIn_of _ (by decide +kernel)) ggL_holds_X3_ifPaths
theorem dL_holds_0 : decode cL_holds 0 = .ok (.aload_n 0, 1) := by decide +kernel
theorem dL_holds_1 : decode cL_holds 1 = .ok (.iconst 0, 1) := by decide +kernel
theorem dL_holds_2 : decode cL_holds 2 = .ok (.invokevirtual 12, 3) := by decide +kernel
theorem dL_holds_5 : decode cL_holds 5 = .ok (.istore_n 1, 1) := by decide +kernel
theorem dL_holds_6 : decode cL_holds 6 = .ok (.iconst 0, 1) := by decide +kernel
theorem dL_holds_7 : decode cL_holds 7 = .ok (.istore_n 2, 1) := by decide +kernel
theorem dL_holds_8 : decode cL_holds 8 = .ok (.iconst 0, 1) := by decide +kernel
theorem dL_holds_9 : decode cL_holds 9 = .ok (.istore_n 3, 1) := by decide +kernel
theorem dL_holds_10 : decode cL_holds 10 = .ok (.iconst 0, 1) := by decide +kernel
theorem dL_holds_11 : decode cL_holds 11 = .ok (.istore 4, 2) := by decide +kernel
theorem dL_holds_13 : decode cL_holds 13 = .ok (.iconst 0, 1) := by decide +kernel
theorem dL_holds_14 : decode cL_holds 14 = .ok (.istore 5, 2) := by decide +kernel
theorem dL_holds_16 : decode cL_holds 16 = .ok (.iconst 0, 1) := by decide +kernel
theorem dL_holds_17 : decode cL_holds 17 = .ok (.istore 6, 2) := by decide +kernel
theorem dL_holds_19 : decode cL_holds 19 = .ok (.iconst 0, 1) := by decide +kernel
theorem dL_holds_20 : decode cL_holds 20 = .ok (.istore 7, 2) := by decide +kernel
theorem dL_holds_22 : decode cL_holds 22 = .ok (.iload 7, 2) := by decide +kernel
theorem dL_holds_24 : decode cL_holds 24 = .ok (.iload_n 1, 1) := by decide +kernel
theorem dL_holds_25 : decode cL_holds 25 = .ok (.if_icmp .ge 151, 3) := by decide +kernel
theorem dL_holds_28 : decode cL_holds 28 = .ok (.aload_n 0, 1) := by decide +kernel
theorem dL_holds_29 : decode cL_holds 29 = .ok (.iload 7, 2) := by decide +kernel
theorem dL_holds_31 : decode cL_holds 31 = .ok (.iconst 0, 1) := by decide +kernel
theorem dL_holds_32 : decode cL_holds 32 = .ok (.invokevirtual 21, 3) := by decide +kernel
theorem dL_holds_35 : decode cL_holds 35 = .ok (.iconst 1, 1) := by decide +kernel
theorem dL_holds_36 : decode cL_holds 36 = .ok (.if_icmp .ne 7, 3) := by decide +kernel
theorem dL_holds_39 : decode cL_holds 39 = .ok (.iconst 1, 1) := by decide +kernel
theorem dL_holds_40 : decode cL_holds 40 = .ok (.goto 4, 3) := by decide +kernel
theorem dL_holds_43 : decode cL_holds 43 = .ok (.iconst 0, 1) := by decide +kernel
theorem dL_holds_44 : decode cL_holds 44 = .ok (.istore 8, 2) := by decide +kernel
theorem dL_holds_46 : decode cL_holds 46 = .ok (.iload 5, 2) := by decide +kernel
theorem dL_holds_48 : decode cL_holds 48 = .ok (.aload_n 0, 1) := by decide +kernel
theorem dL_holds_49 : decode cL_holds 49 = .ok (.iload 7, 2) := by decide +kernel
theorem dL_holds_51 : decode cL_holds 51 = .ok (.iconst 1, 1) := by decide +kernel
theorem dL_holds_52 : decode cL_holds 52 = .ok (.invokevirtual 21, 3) := by decide +kernel
theorem dL_holds_55 : decode cL_holds 55 = .ok (.iadd, 1) := by decide +kernel
theorem dL_holds_56 : decode cL_holds 56 = .ok (.istore 5, 2) := by decide +kernel
theorem dL_holds_58 : decode cL_holds 58 = .ok (.iload 6, 2) := by decide +kernel
theorem dL_holds_60 : decode cL_holds 60 = .ok (.iload 8, 2) := by decide +kernel
theorem dL_holds_62 : decode cL_holds 62 = .ok (.ifCond .eq 13, 3) := by decide +kernel
theorem dL_holds_65 : decode cL_holds 65 = .ok (.aload_n 0, 1) := by decide +kernel
theorem dL_holds_66 : decode cL_holds 66 = .ok (.iload 7, 2) := by decide +kernel
theorem dL_holds_68 : decode cL_holds 68 = .ok (.iconst 1, 1) := by decide +kernel
theorem dL_holds_69 : decode cL_holds 69 = .ok (.invokevirtual 21, 3) := by decide +kernel
theorem dL_holds_72 : decode cL_holds 72 = .ok (.goto 4, 3) := by decide +kernel
theorem dL_holds_75 : decode cL_holds 75 = .ok (.iconst 0, 1) := by decide +kernel
theorem dL_holds_76 : decode cL_holds 76 = .ok (.iadd, 1) := by decide +kernel
