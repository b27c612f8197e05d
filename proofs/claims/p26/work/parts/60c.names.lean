set_option maxRecDepth 20000 in
theorem ggL_answers_L_due : GoodIn wsL_answers wsL_due := goodIn_ca (goodIn_ca (goodIn_r _ [4, 5, 6, 7, 8, 9, 10, 11, 12, 13, 14, 15, 16, 17, 18, 19, 20, 21, 22, 23, 24, 25, 26, 27, 28, 29, 30, 31, 32, 33, 34, 35, 36, 37, 38, 39, 40, 41, 42, 43, 44, 45, 46, 47, 48, 49, 50, 51, 52, 53, 54, 55, 56, 57, 198, 199, 200, 201, 202, 203, 204, 205, 206, 207, 208, 209, 210, 211, 212, 213, 214, 215, 216, 217, 218, 219, 220, 221, 222, 223] (by decide +kernel) (by decide +kernel)) (goodIn_sub (fun _ h => List.mem_cons_of_mem _ (List.mem_append_left _ (List.mem_append_left _ (List.mem_append_left _ (List.mem_append_right _ h))))) (by decide +kernel))) (goodIn_sub (fun _ h => List.mem_cons_of_mem _ (List.mem_append_left _ (List.mem_append_left _ (List.mem_append_right _ h)))) (by decide +kernel))
set_option maxRecDepth 20000 in
theorem gL_answers_L_due : GoodIn wsL_answers (va_wsS RL 97 yL_due wsL_due) := goodIn_app (goodIn_of _ (by decide +kernel)) ggL_answers_L_due
set_option maxRecDepth 20000 in
theorem ggL_answers_X4_judge : GoodIn wsL_answers wsX4_judge := goodIn_ca (goodIn_ca (goodIn_r _ [61, 62, 63, 64, 8, 65, 14, 15, 66, 67, 26, 27, 28, 29, 30, 31, 32, 33, 68, 69, 70, 71, 72, 73, 74, 75, 76, 77, 78, 79, 80, 81, 16, 17, 82, 83, 84, 85, 34, 35, 36, 37, 38, 39, 40, 41, 42, 43, 44, 45, 46, 47, 48, 49, 50, 51, 52, 53, 54, 55, 56, 57, 86, 87, 88, 89, 90, 91, 92, 93, 94, 95, 96, 97, 98, 99, 100, 101, 102, 103, 104, 105, 106, 107, 108, 109, 110, 111, 112, 113, 114, 115, 116, 117, 118, 119, 120, 121, 122, 123, 124, 125, 126, 127, 128, 129, 130, 208, 209, 210, 211, 212, 213, 214, 215, 216, 217, 218, 219, 224, 225, 226, 227, 228, 229, 230, 198, 199, 200, 201, 202, 203, 204, 205, 206, 207, 220, 221, 222, 223, 231, 232, 233] (by decide +kernel) (by decide +kernel)) (goodIn_sub (fun _ h => List.mem_cons_of_mem _ (List.mem_append_left _ (List.mem_append_left _ (List.mem_append_left _ (List.mem_append_right _ h))))) (by decide +kernel))) (goodIn_sub (fun _ h => List.mem_cons_of_mem _ (List.mem_append_left _ (List.mem_append_left _ (List.mem_append_right _ h)))) (by decide +kernel))
set_option maxRecDepth 20000 in
theorem gL_answers_X4_judge : GoodIn wsL_answers (wsV RL 101 RX4 yX4_judge wsX4_judge) := goodIn_app (goodIn_of _ (by decide +kernel)) ggL_answers_X4_judge
set_option maxRecDepth 20000 in
theorem ggL_answers_X4_judgeByReading : GoodIn wsL_answers wsX4_judgeByReading := goodIn_ca (goodIn_r _ [134, 26, 27, 8, 28, 29, 30, 31, 32, 33, 68, 69, 70, 78, 79, 80, 81, 16, 17, 82, 83, 84, 85, 34, 35, 36, 37, 38, 39, 40, 41, 42, 43, 44, 45, 46, 47, 48, 49, 50, 51, 52, 53, 54, 55, 56, 57, 86, 87, 88, 89, 90, 91, 92, 93, 94, 95, 96, 97, 98, 99, 100, 101, 102, 103, 104, 105, 106, 107, 208, 209, 210, 211, 212, 213, 214, 215, 216, 217, 218, 219, 198, 199, 200, 201, 202, 203, 204, 205, 206, 207, 220, 221, 222, 223] (by decide +kernel) (by decide +kernel)) (goodIn_sub (fun _ h => List.mem_cons_of_mem _ (List.mem_append_left _ (List.mem_append_left _ (List.mem_append_right _ h)))) (by decide +kernel))
set_option maxRecDepth 20000 in
theorem gL_answers_X4_judgeByReading : GoodIn wsL_answers (wsV RL 105 RX4 yX4_judgeByReading wsX4_judgeByReading) := goodIn_app (goodIn_of _ (by decide +kernel)) ggL_answers_X4_judgeByReading
set_option maxRecDepth 20000 in
theorem ggL_answers_X4_answer : GoodIn wsL_answers wsX4_answer := goodIn_ca (goodIn_ca (goodIn_ca (goodIn_ca (goodIn_r _ [138, 139, 140, 16, 62, 63, 64, 8, 65, 14, 15, 66, 67, 26, 27, 28, 29, 30, 31, 32, 33, 68, 69, 70, 71, 72, 73, 74, 75, 76, 77, 78, 79, 80, 81, 17, 82, 83, 84, 85, 34, 35, 36, 37, 38, 39, 40, 41, 42, 43, 44, 45, 46, 47, 48, 49, 50, 51, 52, 53, 54, 55, 56, 57, 86, 87, 88, 89, 90, 91, 92, 93, 94, 95, 96, 97, 98, 99, 100, 101, 102, 103, 104, 105, 106, 107, 108, 109, 110, 111, 112, 113, 114, 115, 116, 117, 118, 119, 120, 121, 122, 123, 124, 125, 126, 127, 128, 129, 130, 141, 142, 143, 144, 145, 146, 147, 148, 149, 150, 151, 152, 153, 154, 155, 156, 157, 158, 159, 160, 161, 162, 163, 164, 165, 166, 167, 168, 169, 170, 171, 172, 173, 174, 175, 176, 177, 178, 179, 180, 181, 182, 183, 184, 185, 208, 209, 210, 211, 212, 213, 214, 215, 216, 217, 218, 219, 224, 225, 226, 227, 228, 229, 230, 198, 199, 200, 201, 202, 203, 204, 205, 206, 207, 220, 221, 222, 223, 231, 232, 233] (by decide +kernel) (by decide +kernel)) (goodIn_sub (fun _ h => List.mem_cons_of_mem _ (List.mem_append_left _ (List.mem_append_left _ (List.mem_append_left _ (List.mem_append_right _ h))))) (by decide +kernel))) (goodIn_sub (fun _ h => List.mem_cons_of_mem _ (List.mem_append_left _ (List.mem_append_left _ (List.mem_append_right _ h)))) (by decide +kernel))) (goodIn_sub (fun _ h => List.mem_cons_of_mem _ (List.mem_append_left _ (List.mem_append_right _ h))) (by decide +kernel))) (goodIn_sub (fun _ h => List.mem_cons_of_mem _ (List.mem_append_right _ h)) (by decide +kernel))
set_option maxRecDepth 20000 in
theorem gL_answers_X4_answer : GoodIn wsL_answers (wsV RL 108 RX4 yX4_answer wsX4_answer) := goodIn_app (goodIn_of _ (by decide +kernel)) ggL_answers_X4_answer
set_option maxRecDepth 20000 in
theorem ggL_answers_X4_lines : GoodIn wsL_answers wsX4_lines := goodIn_r _ [189, 16, 208, 209, 210, 211, 212, 213, 214, 215, 216, 217, 218, 219] (by decide +kernel) (by decide +kernel)
set_option maxRecDepth 20000 in
theorem gL_answers_X4_lines : GoodIn wsL_answers (wsV RL 20 RX4 yX4_lines wsX4_lines) := goodIn_app (goodIn_of _ (by decide +kernel)) ggL_answers_X4_lines
set_option maxRecDepth 20000 in
theorem ggL_answers_X4_waiting : GoodIn wsL_answers wsX4_waiting := goodIn_r _ [193, 139, 208, 209, 210, 211, 212, 213, 214, 215, 216, 217, 218, 219] (by decide +kernel) (by decide +kernel)
set_option maxRecDepth 20000 in
theorem gL_answers_X4_waiting : GoodIn wsL_answers (wsV RL 111 RX4 yX4_waiting wsX4_waiting) := goodIn_app (goodIn_of _ (by decide +kernel)) ggL_answers_X4_waiting
set_option maxRecDepth 20000 in
theorem ggL_answers_X4_keyOf : GoodIn wsL_answers wsX4_keyOf := goodIn_ca (goodIn_r _ [9, 10, 11, 12, 8, 13, 14, 15, 16, 17, 198, 199, 200, 201, 202, 203, 204, 205, 206, 207, 208, 209, 210, 211, 212, 213, 214, 215, 216, 217, 218, 219] (by decide +kernel) (by decide +kernel)) (goodIn_sub (fun _ h => List.mem_cons_of_mem _ (List.mem_append_left _ (List.mem_append_left _ (List.mem_append_left _ (List.mem_append_right _ h))))) (by decide +kernel))
set_option maxRecDepth 20000 in
theorem gL_answers_X4_keyOf : GoodIn wsL_answers (wsV RL 38 RX4 yX4_keyOf wsX4_keyOf) := goodIn_app (goodIn_of _ (by decide +kernel)) ggL_answers_X4_keyOf
set_option maxRecDepth 20000 in
theorem ggL_answers_X4_seen : GoodIn wsL_answers wsX4_seen := goodIn_ca (goodIn_r _ [197, 10, 11, 12, 8, 13, 14, 15, 16, 17, 198, 199, 200, 201, 202, 203, 204, 205, 206, 207, 208, 209, 210, 211, 212, 213, 214, 215, 216, 217, 218, 219] (by decide +kernel) (by decide +kernel)) (goodIn_sub (fun _ h => List.mem_cons_of_mem _ (List.mem_append_left _ (List.mem_append_left _ (List.mem_append_left _ (List.mem_append_right _ h))))) (by decide +kernel))
set_option maxRecDepth 20000 in
theorem gL_answers_X4_seen : GoodIn wsL_answers (wsV RL 75 RX4 yX4_seen wsX4_seen) := goodIn_app (goodIn_of _ (by decide +kernel)) ggL_answers_X4_seen
set_option maxRecDepth 20000 in
theorem ggL_answers_X4_end : GoodIn wsL_answers wsX4_end := goodIn_ca (goodIn_r _ [21, 10, 11, 12, 8, 13, 14, 15, 16, 17, 198, 199, 200, 201, 202, 203, 204, 205, 206, 207, 208, 209, 210, 211, 212, 213, 214, 215, 216, 217, 218, 219] (by decide +kernel) (by decide +kernel)) (goodIn_sub (fun _ h => List.mem_cons_of_mem _ (List.mem_append_left _ (List.mem_append_left _ (List.mem_append_left _ (List.mem_append_right _ h))))) (by decide +kernel))
set_option maxRecDepth 20000 in
theorem gL_answers_X4_end : GoodIn wsL_answers (wsV RL 78 RX4 yX4_end wsX4_end) := goodIn_app (goodIn_of _ (by decide +kernel)) ggL_answers_X4_end
set_option maxRecDepth 20000 in
theorem ggL_answers_X4_matches : GoodIn wsL_answers wsX4_matches := goodIn_ca (goodIn_ca (goodIn_r _ [25, 10, 11, 12, 8, 13, 14, 15, 16, 17, 26, 27, 28, 29, 30, 31, 32, 33, 34, 35, 36, 37, 38, 39, 40, 41, 42, 43, 44, 45, 46, 47, 48, 49, 50, 51, 52, 53, 54, 55, 56, 57, 208, 209, 210, 211, 212, 213, 214, 215, 216, 217, 218, 219, 198, 199, 200, 201, 202, 203, 204, 205, 206, 207, 220, 221, 222, 223] (by decide +kernel) (by decide +kernel)) (goodIn_sub (fun _ h => List.mem_cons_of_mem _ (List.mem_append_left _ (List.mem_append_left _ (List.mem_append_left _ (List.mem_append_right _ h))))) (by decide +kernel))) (goodIn_sub (fun _ h => List.mem_cons_of_mem _ (List.mem_append_left _ (List.mem_append_left _ (List.mem_append_right _ h)))) (by decide +kernel))
set_option maxRecDepth 20000 in
theorem gL_answers_X4_matches : GoodIn wsL_answers (wsV RL 30 RX4 yX4_matches wsX4_matches) := goodIn_app (goodIn_of _ (by decide +kernel)) ggL_answers_X4_matches
theorem dL_answers_0 : decode cL_answers 0 = .ok (.aload_n 0, 1) := by decide +kernel
theorem dL_answers_1 : decode cL_answers 1 = .ok (.aload_n 1, 1) := by decide +kernel
theorem dL_answers_2 : decode cL_answers 2 = .ok (.iload_n 2, 1) := by decide +kernel
theorem dL_answers_3 : decode cL_answers 3 = .ok (.iload_n 3, 1) := by decide +kernel
theorem dL_answers_4 : decode cL_answers 4 = .ok (.iload 4, 2) := by decide +kernel
theorem dL_answers_6 : decode cL_answers 6 = .ok (.invokestatic 97, 3) := by decide +kernel
theorem dL_answers_9 : decode cL_answers 9 = .ok (.istore 6, 2) := by decide +kernel
theorem dL_answers_11 : decode cL_answers 11 = .ok (.aload_n 0, 1) := by decide +kernel
theorem dL_answers_12 : decode cL_answers 12 = .ok (.iload_n 2, 1) := by decide +kernel
theorem dL_answers_13 : decode cL_answers 13 = .ok (.iload_n 3, 1) := by decide +kernel
theorem dL_answers_14 : decode cL_answers 14 = .ok (.iload 4, 2) := by decide +kernel
theorem dL_answers_16 : decode cL_answers 16 = .ok (.iload 5, 2) := by decide +kernel
theorem dL_answers_18 : decode cL_answers 18 = .ok (.invokevirtual 101, 3) := by decide +kernel
theorem dL_answers_21 : decode cL_answers 21 = .ok (.istore 7, 2) := by decide +kernel
theorem dL_answers_23 : decode cL_answers 23 = .ok (.iload 7, 2) := by decide +kernel
theorem dL_answers_25 : decode cL_answers 25 = .ok (.iload 6, 2) := by decide +kernel
theorem dL_answers_27 : decode cL_answers 27 = .ok (.if_icmp .eq 37, 3) := by decide +kernel
theorem dL_answers_30 : decode cL_answers 30 = .ok (.iload 5, 2) := by decide +kernel
theorem dL_answers_32 : decode cL_answers 32 = .ok (.iconst (-1), 1) := by decide +kernel
theorem dL_answers_33 : decode cL_answers 33 = .ok (.if_icmp .eq 35, 3) := by decide +kernel
theorem dL_answers_36 : decode cL_answers 36 = .ok (.iload 7, 2) := by decide +kernel
theorem dL_answers_38 : decode cL_answers 38 = .ok (.ifCond .eq 26, 3) := by decide +kernel
theorem dL_answers_41 : decode cL_answers 41 = .ok (.iload 7, 2) := by decide +kernel
theorem dL_answers_43 : decode cL_answers 43 = .ok (.iconst 1, 1) := by decide +kernel
theorem dL_answers_44 : decode cL_answers 44 = .ok (.if_icmp .ne 24, 3) := by decide +kernel
theorem dL_answers_47 : decode cL_answers 47 = .ok (.iload 6, 2) := by decide +kernel
theorem dL_answers_49 : decode cL_answers 49 = .ok (.ifCond .eq 19, 3) := by decide +kernel
theorem dL_answers_52 : decode cL_answers 52 = .ok (.aload_n 1, 1) := by decide +kernel
theorem dL_answers_53 : decode cL_answers 53 = .ok (.bipush 28, 2) := by decide +kernel
theorem dL_answers_55 : decode cL_answers 55 = .ok (.iload 5, 2) := by decide +kernel
theorem dL_answers_57 : decode cL_answers 57 = .ok (.iadd, 1) := by decide +kernel
theorem dL_answers_58 : decode cL_answers 58 = .ok (.iaload, 1) := by decide +kernel
theorem dL_answers_59 : decode cL_answers 59 = .ok (.iload 4, 2) := by decide +kernel
theorem dL_answers_61 : decode cL_answers 61 = .ok (.if_icmp .ne 7, 3) := by decide +kernel
theorem dL_answers_64 : decode cL_answers 64 = .ok (.iconst 1, 1) := by decide +kernel
theorem dL_answers_65 : decode cL_answers 65 = .ok (.goto 4, 3) := by decide +kernel
theorem dL_answers_68 : decode cL_answers 68 = .ok (.iconst 0, 1) := by decide +kernel
theorem dL_answers_69 : decode cL_answers 69 = .ok (.istore 8, 2) := by decide +kernel
theorem dL_answers_71 : decode cL_answers 71 = .ok (.aload_n 1, 1) := by decide +kernel
theorem dL_answers_72 : decode cL_answers 72 = .ok (.iconst 1, 1) := by decide +kernel
theorem dL_answers_73 : decode cL_answers 73 = .ok (.iaload, 1) := by decide +kernel
theorem dL_answers_74 : decode cL_answers 74 = .ok (.istore 9, 2) := by decide +kernel
theorem dL_answers_76 : decode cL_answers 76 = .ok (.iload 7, 2) := by decide +kernel
theorem dL_answers_78 : decode cL_answers 78 = .ok (.iconst 5, 1) := by decide +kernel
theorem dL_answers_79 : decode cL_answers 79 = .ok (.if_icmp .ne 20, 3) := by decide +kernel
theorem dL_answers_82 : decode cL_answers 82 = .ok (.aload_n 1, 1) := by decide +kernel
theorem dL_answers_83 : decode cL_answers 83 = .ok (.iconst 4, 1) := by decide +kernel
theorem dL_answers_84 : decode cL_answers 84 = .ok (.iaload, 1) := by decide +kernel
theorem dL_answers_85 : decode cL_answers 85 = .ok (.ifCond .ne 14, 3) := by decide +kernel
theorem dL_answers_88 : decode cL_answers 88 = .ok (.iload 9, 2) := by decide +kernel
theorem dL_answers_90 : decode cL_answers 90 = .ok (.bipush 40, 2) := by decide +kernel
theorem dL_answers_92 : decode cL_answers 92 = .ok (.if_icmp .ge 7, 3) := by decide +kernel
theorem dL_answers_95 : decode cL_answers 95 = .ok (.iconst 1, 1) := by decide +kernel
theorem dL_answers_96 : decode cL_answers 96 = .ok (.goto 4, 3) := by decide +kernel
theorem dL_answers_99 : decode cL_answers 99 = .ok (.iconst 0, 1) := by decide +kernel
theorem dL_answers_100 : decode cL_answers 100 = .ok (.istore 10, 2) := by decide +kernel
theorem dL_answers_102 : decode cL_answers 102 = .ok (.iload 7, 2) := by decide +kernel
theorem dL_answers_104 : decode cL_answers 104 = .ok (.iconst 4, 1) := by decide +kernel
theorem dL_answers_105 : decode cL_answers 105 = .ok (.if_icmp .eq 16, 3) := by decide +kernel
theorem dL_answers_108 : decode cL_answers 108 = .ok (.iload 7, 2) := by decide +kernel
theorem dL_answers_110 : decode cL_answers 110 = .ok (.iconst 5, 1) := by decide +kernel
theorem dL_answers_111 : decode cL_answers 111 = .ok (.if_icmp .ne 14, 3) := by decide +kernel
theorem dL_answers_114 : decode cL_answers 114 = .ok (.aload_n 1, 1) := by decide +kernel
theorem dL_answers_115 : decode cL_answers 115 = .ok (.iconst 4, 1) := by decide +kernel
theorem dL_answers_116 : decode cL_answers 116 = .ok (.iaload, 1) := by decide +kernel
theorem dL_answers_117 : decode cL_answers 117 = .ok (.iconst 1, 1) := by decide +kernel
theorem dL_answers_118 : decode cL_answers 118 = .ok (.if_icmp .ne 7, 3) := by decide +kernel
theorem dL_answers_121 : decode cL_answers 121 = .ok (.iconst 1, 1) := by decide +kernel
theorem dL_answers_122 : decode cL_answers 122 = .ok (.goto 4, 3) := by decide +kernel
theorem dL_answers_125 : decode cL_answers 125 = .ok (.iconst 0, 1) := by decide +kernel
theorem dL_answers_126 : decode cL_answers 126 = .ok (.istore 11, 2) := by decide +kernel
theorem dL_answers_128 : decode cL_answers 128 = .ok (.aload_n 1, 1) := by decide +kernel
theorem dL_answers_129 : decode cL_answers 129 = .ok (.iconst 1, 1) := by decide +kernel
theorem dL_answers_130 : decode cL_answers 130 = .ok (.dup2, 1) := by decide +kernel
theorem dL_answers_131 : decode cL_answers 131 = .ok (.iaload, 1) := by decide +kernel
theorem dL_answers_132 : decode cL_answers 132 = .ok (.iload 10, 2) := by decide +kernel
theorem dL_answers_134 : decode cL_answers 134 = .ok (.ifCond .eq 7, 3) := by decide +kernel
theorem dL_answers_137 : decode cL_answers 137 = .ok (.iconst 1, 1) := by decide +kernel
theorem dL_answers_138 : decode cL_answers 138 = .ok (.goto 4, 3) := by decide +kernel
theorem dL_answers_141 : decode cL_answers 141 = .ok (.iconst 0, 1) := by decide +kernel
theorem dL_answers_142 : decode cL_answers 142 = .ok (.iadd, 1) := by decide +kernel
theorem dL_answers_143 : decode cL_answers 143 = .ok (.iastore, 1) := by decide +kernel
theorem dL_answers_144 : decode cL_answers 144 = .ok (.aload_n 1, 1) := by decide +kernel
theorem dL_answers_145 : decode cL_answers 145 = .ok (.bipush 6, 2) := by decide +kernel
theorem dL_answers_147 : decode cL_answers 147 = .ok (.iload 11, 2) := by decide +kernel
theorem dL_answers_149 : decode cL_answers 149 = .ok (.ifCond .eq 10, 3) := by decide +kernel
theorem dL_answers_152 : decode cL_answers 152 = .ok (.iload 4, 2) := by decide +kernel
theorem dL_answers_154 : decode cL_answers 154 = .ok (.iconst 1, 1) := by decide +kernel
theorem dL_answers_155 : decode cL_answers 155 = .ok (.iadd, 1) := by decide +kernel
theorem dL_answers_156 : decode cL_answers 156 = .ok (.goto 4, 3) := by decide +kernel
theorem dL_answers_159 : decode cL_answers 159 = .ok (.iconst 0, 1) := by decide +kernel
theorem dL_answers_160 : decode cL_answers 160 = .ok (.iastore, 1) := by decide +kernel
theorem dL_answers_161 : decode cL_answers 161 = .ok (.aload_n 0, 1) := by decide +kernel
theorem dL_answers_162 : decode cL_answers 162 = .ok (.iload_n 2, 1) := by decide +kernel
theorem dL_answers_163 : decode cL_answers 163 = .ok (.iload_n 3, 1) := by decide +kernel
theorem dL_answers_164 : decode cL_answers 164 = .ok (.iload 4, 2) := by decide +kernel
theorem dL_answers_166 : decode cL_answers 166 = .ok (.invokevirtual 105, 3) := by decide +kernel
theorem dL_answers_169 : decode cL_answers 169 = .ok (.iload 6, 2) := by decide +kernel
theorem dL_answers_171 : decode cL_answers 171 = .ok (.if_icmp .ne 59, 3) := by decide +kernel
theorem dL_answers_174 : decode cL_answers 174 = .ok (.aload_n 0, 1) := by decide +kernel
theorem dL_answers_175 : decode cL_answers 175 = .ok (.iload_n 2, 1) := by decide +kernel
theorem dL_answers_176 : decode cL_answers 176 = .ok (.iload_n 3, 1) := by decide +kernel
theorem dL_answers_177 : decode cL_answers 177 = .ok (.iload 4, 2) := by decide +kernel
theorem dL_answers_179 : decode cL_answers 179 = .ok (.iconst (-1), 1) := by decide +kernel
theorem dL_answers_180 : decode cL_answers 180 = .ok (.invokevirtual 101, 3) := by decide +kernel
theorem dL_answers_183 : decode cL_answers 183 = .ok (.iload 6, 2) := by decide +kernel
theorem dL_answers_185 : decode cL_answers 185 = .ok (.if_icmp .ne 45, 3) := by decide +kernel
theorem dL_answers_188 : decode cL_answers 188 = .ok (.aload_n 0, 1) := by decide +kernel
theorem dL_answers_189 : decode cL_answers 189 = .ok (.iload_n 2, 1) := by decide +kernel
theorem dL_answers_190 : decode cL_answers 190 = .ok (.iload_n 3, 1) := by decide +kernel
theorem dL_answers_191 : decode cL_answers 191 = .ok (.iload 4, 2) := by decide +kernel
theorem dL_answers_193 : decode cL_answers 193 = .ok (.iload 5, 2) := by decide +kernel
theorem dL_answers_195 : decode cL_answers 195 = .ok (.invokevirtual 108, 3) := by decide +kernel
theorem dL_answers_198 : decode cL_answers 198 = .ok (.iload 7, 2) := by decide +kernel
theorem dL_answers_200 : decode cL_answers 200 = .ok (.if_icmp .ne 30, 3) := by decide +kernel
theorem dL_answers_203 : decode cL_answers 203 = .ok (.aload_n 0, 1) := by decide +kernel
theorem dL_answers_204 : decode cL_answers 204 = .ok (.invokevirtual 20, 3) := by decide +kernel
theorem dL_answers_207 : decode cL_answers 207 = .ok (.aload_n 1, 1) := by decide +kernel
theorem dL_answers_208 : decode cL_answers 208 = .ok (.iconst 1, 1) := by decide +kernel
theorem dL_answers_209 : decode cL_answers 209 = .ok (.iaload, 1) := by decide +kernel
theorem dL_answers_210 : decode cL_answers 210 = .ok (.if_icmp .ne 20, 3) := by decide +kernel
theorem dL_answers_213 : decode cL_answers 213 = .ok (.aload_n 0, 1) := by decide +kernel
theorem dL_answers_214 : decode cL_answers 214 = .ok (.invokevirtual 111, 3) := by decide +kernel
theorem dL_answers_217 : decode cL_answers 217 = .ok (.aload_n 1, 1) := by decide +kernel
theorem dL_answers_218 : decode cL_answers 218 = .ok (.bipush 6, 2) := by decide +kernel
theorem dL_answers_220 : decode cL_answers 220 = .ok (.iaload, 1) := by decide +kernel
theorem dL_answers_221 : decode cL_answers 221 = .ok (.iconst 1, 1) := by decide +kernel
theorem dL_answers_222 : decode cL_answers 222 = .ok (.isub, 1) := by decide +kernel
theorem dL_answers_223 : decode cL_answers 223 = .ok (.if_icmp .ne 7, 3) := by decide +kernel
theorem dL_answers_226 : decode cL_answers 226 = .ok (.iconst 1, 1) := by decide +kernel
theorem dL_answers_227 : decode cL_answers 227 = .ok (.goto 4, 3) := by decide +kernel
theorem dL_answers_230 : decode cL_answers 230 = .ok (.iconst 0, 1) := by decide +kernel
theorem dL_answers_231 : decode cL_answers 231 = .ok (.istore 12, 2) := by decide +kernel
theorem dL_answers_233 : decode cL_answers 233 = .ok (.iload 12, 2) := by decide +kernel
theorem dL_answers_235 : decode cL_answers 235 = .ok (.ifCond .eq 69, 3) := by decide +kernel
theorem dL_answers_238 : decode cL_answers 238 = .ok (.iload 10, 2) := by decide +kernel
theorem dL_answers_240 : decode cL_answers 240 = .ok (.ifCond .eq 60, 3) := by decide +kernel
theorem dL_answers_243 : decode cL_answers 243 = .ok (.aload_n 0, 1) := by decide +kernel
theorem dL_answers_244 : decode cL_answers 244 = .ok (.iload 9, 2) := by decide +kernel
theorem dL_answers_246 : decode cL_answers 246 = .ok (.invokevirtual 38, 3) := by decide +kernel
theorem dL_answers_249 : decode cL_answers 249 = .ok (.iload 4, 2) := by decide +kernel
theorem dL_answers_251 : decode cL_answers 251 = .ok (.if_icmp .ne 53, 3) := by decide +kernel
theorem dL_answers_254 : decode cL_answers 254 = .ok (.aload_n 0, 1) := by decide +kernel
theorem dL_answers_255 : decode cL_answers 255 = .ok (.iload 9, 2) := by decide +kernel
theorem dL_answers_257 : decode cL_answers 257 = .ok (.invokevirtual 75, 3) := by decide +kernel
theorem dL_answers_260 : decode cL_answers 260 = .ok (.aload_n 1, 1) := by decide +kernel
theorem dL_answers_261 : decode cL_answers 261 = .ok (.iconst 0, 1) := by decide +kernel
theorem dL_answers_262 : decode cL_answers 262 = .ok (.iaload, 1) := by decide +kernel
theorem dL_answers_263 : decode cL_answers 263 = .ok (.if_icmp .ne 41, 3) := by decide +kernel
theorem dL_answers_266 : decode cL_answers 266 = .ok (.aload_n 0, 1) := by decide +kernel
theorem dL_answers_267 : decode cL_answers 267 = .ok (.iload 9, 2) := by decide +kernel
theorem dL_answers_269 : decode cL_answers 269 = .ok (.invokevirtual 78, 3) := by decide +kernel
theorem dL_answers_272 : decode cL_answers 272 = .ok (.iconst (-1), 1) := by decide +kernel
theorem dL_answers_273 : decode cL_answers 273 = .ok (.if_icmp .ne 31, 3) := by decide +kernel
theorem dL_answers_276 : decode cL_answers 276 = .ok (.aload_n 0, 1) := by decide +kernel
theorem dL_answers_277 : decode cL_answers 277 = .ok (.iload 9, 2) := by decide +kernel
theorem dL_answers_279 : decode cL_answers 279 = .ok (.iload_n 2, 1) := by decide +kernel
theorem dL_answers_280 : decode cL_answers 280 = .ok (.iload_n 3, 1) := by decide +kernel
theorem dL_answers_281 : decode cL_answers 281 = .ok (.invokevirtual 30, 3) := by decide +kernel
theorem dL_answers_284 : decode cL_answers 284 = .ok (.ifCond .eq 20, 3) := by decide +kernel
theorem dL_answers_287 : decode cL_answers 287 = .ok (.aload_n 0, 1) := by decide +kernel
theorem dL_answers_288 : decode cL_answers 288 = .ok (.iload_n 2, 1) := by decide +kernel
theorem dL_answers_289 : decode cL_answers 289 = .ok (.iload_n 3, 1) := by decide +kernel
theorem dL_answers_290 : decode cL_answers 290 = .ok (.iload 4, 2) := by decide +kernel
theorem dL_answers_292 : decode cL_answers 292 = .ok (.iconst (-1), 1) := by decide +kernel
theorem dL_answers_293 : decode cL_answers 293 = .ok (.invokevirtual 101, 3) := by decide +kernel
theorem dL_answers_296 : decode cL_answers 296 = .ok (.iconst 2, 1) := by decide +kernel
theorem dL_answers_297 : decode cL_answers 297 = .ok (.if_icmp .ne 7, 3) := by decide +kernel
theorem dL_answers_300 : decode cL_answers 300 = .ok (.iconst 1, 1) := by decide +kernel
theorem dL_answers_301 : decode cL_answers 301 = .ok (.goto 4, 3) := by decide +kernel
theorem dL_answers_304 : decode cL_answers 304 = .ok (.iconst 0, 1) := by decide +kernel
theorem dL_answers_305 : decode cL_answers 305 = .ok (.istore 12, 2) := by decide +kernel
theorem dL_answers_307 : decode cL_answers 307 = .ok (.iconst 0, 1) := by decide +kernel
theorem dL_answers_308 : decode cL_answers 308 = .ok (.istore 13, 2) := by decide +kernel
theorem dL_answers_310 : decode cL_answers 310 = .ok (.iload 13, 2) := by decide +kernel
theorem dL_answers_312 : decode cL_answers 312 = .ok (.aload_n 1, 1) := by decide +kernel
theorem dL_answers_313 : decode cL_answers 313 = .ok (.iconst 1, 1) := by decide +kernel
theorem dL_answers_314 : decode cL_answers 314 = .ok (.iaload, 1) := by decide +kernel
theorem dL_answers_315 : decode cL_answers 315 = .ok (.if_icmp .ge 95, 3) := by decide +kernel
theorem dL_answers_318 : decode cL_answers 318 = .ok (.iload 12, 2) := by decide +kernel
theorem dL_answers_320 : decode cL_answers 320 = .ok (.ifCond .eq 90, 3) := by decide +kernel
theorem dL_answers_323 : decode cL_answers 323 = .ok (.iload 7, 2) := by decide +kernel
theorem dL_answers_325 : decode cL_answers 325 = .ok (.iconst 2, 1) := by decide +kernel
theorem dL_answers_326 : decode cL_answers 326 = .ok (.if_icmp .ne 84, 3) := by decide +kernel
theorem dL_answers_329 : decode cL_answers 329 = .ok (.aload_n 0, 1) := by decide +kernel
theorem dL_answers_330 : decode cL_answers 330 = .ok (.iload 13, 2) := by decide +kernel
theorem dL_answers_332 : decode cL_answers 332 = .ok (.invokevirtual 78, 3) := by decide +kernel
theorem dL_answers_335 : decode cL_answers 335 = .ok (.iconst (-1), 1) := by decide +kernel
theorem dL_answers_336 : decode cL_answers 336 = .ok (.if_icmp .eq 19, 3) := by decide +kernel
theorem dL_answers_339 : decode cL_answers 339 = .ok (.aload_n 0, 1) := by decide +kernel
theorem dL_answers_340 : decode cL_answers 340 = .ok (.iload 13, 2) := by decide +kernel
theorem dL_answers_342 : decode cL_answers 342 = .ok (.invokevirtual 78, 3) := by decide +kernel
theorem dL_answers_345 : decode cL_answers 345 = .ok (.aload_n 1, 1) := by decide +kernel
theorem dL_answers_346 : decode cL_answers 346 = .ok (.iconst 0, 1) := by decide +kernel
theorem dL_answers_347 : decode cL_answers 347 = .ok (.iaload, 1) := by decide +kernel
theorem dL_answers_348 : decode cL_answers 348 = .ok (.if_icmp .gt 7, 3) := by decide +kernel
theorem dL_answers_351 : decode cL_answers 351 = .ok (.iconst 1, 1) := by decide +kernel
theorem dL_answers_352 : decode cL_answers 352 = .ok (.goto 4, 3) := by decide +kernel
theorem dL_answers_355 : decode cL_answers 355 = .ok (.iconst 0, 1) := by decide +kernel
theorem dL_answers_356 : decode cL_answers 356 = .ok (.istore 14, 2) := by decide +kernel
theorem dL_answers_358 : decode cL_answers 358 = .ok (.aload_n 0, 1) := by decide +kernel
theorem dL_answers_359 : decode cL_answers 359 = .ok (.iload 13, 2) := by decide +kernel
theorem dL_answers_361 : decode cL_answers 361 = .ok (.invokevirtual 38, 3) := by decide +kernel
theorem dL_answers_364 : decode cL_answers 364 = .ok (.iload 4, 2) := by decide +kernel
theorem dL_answers_366 : decode cL_answers 366 = .ok (.if_icmp .ne 31, 3) := by decide +kernel
theorem dL_answers_369 : decode cL_answers 369 = .ok (.iload 14, 2) := by decide +kernel
theorem dL_answers_371 : decode cL_answers 371 = .ok (.ifCond .ne 26, 3) := by decide +kernel
theorem dL_answers_374 : decode cL_answers 374 = .ok (.aload_n 0, 1) := by decide +kernel
theorem dL_answers_375 : decode cL_answers 375 = .ok (.iload 13, 2) := by decide +kernel
theorem dL_answers_377 : decode cL_answers 377 = .ok (.iload_n 2, 1) := by decide +kernel
theorem dL_answers_378 : decode cL_answers 378 = .ok (.iload_n 3, 1) := by decide +kernel
theorem dL_answers_379 : decode cL_answers 379 = .ok (.invokevirtual 30, 3) := by decide +kernel
theorem dL_answers_382 : decode cL_answers 382 = .ok (.ifCond .eq 15, 3) := by decide +kernel
theorem dL_answers_385 : decode cL_answers 385 = .ok (.aload_n 0, 1) := by decide +kernel
theorem dL_answers_386 : decode cL_answers 386 = .ok (.iload 13, 2) := by decide +kernel
theorem dL_answers_388 : decode cL_answers 388 = .ok (.invokevirtual 75, 3) := by decide +kernel
theorem dL_answers_391 : decode cL_answers 391 = .ok (.aload_n 1, 1) := by decide +kernel
theorem dL_answers_392 : decode cL_answers 392 = .ok (.iconst 0, 1) := by decide +kernel
theorem dL_answers_393 : decode cL_answers 393 = .ok (.iaload, 1) := by decide +kernel
theorem dL_answers_394 : decode cL_answers 394 = .ok (.if_icmp .ne 7, 3) := by decide +kernel
theorem dL_answers_397 : decode cL_answers 397 = .ok (.iconst 1, 1) := by decide +kernel
theorem dL_answers_398 : decode cL_answers 398 = .ok (.goto 4, 3) := by decide +kernel
theorem dL_answers_401 : decode cL_answers 401 = .ok (.iconst 0, 1) := by decide +kernel
theorem dL_answers_402 : decode cL_answers 402 = .ok (.istore 12, 2) := by decide +kernel
theorem dL_answers_404 : decode cL_answers 404 = .ok (.iinc 13 1, 3) := by decide +kernel
theorem dL_answers_407 : decode cL_answers 407 = .ok (.goto (-97), 3) := by decide +kernel
theorem dL_answers_410 : decode cL_answers 410 = .ok (.iload 12, 2) := by decide +kernel
theorem dL_answers_412 : decode cL_answers 412 = .ok (.ifCond .eq 12, 3) := by decide +kernel
theorem dL_answers_415 : decode cL_answers 415 = .ok (.iload 8, 2) := by decide +kernel
theorem dL_answers_417 : decode cL_answers 417 = .ok (.ifCond .eq 7, 3) := by decide +kernel
theorem dL_answers_420 : decode cL_answers 420 = .ok (.iconst 1, 1) := by decide +kernel
theorem dL_answers_421 : decode cL_answers 421 = .ok (.goto 4, 3) := by decide +kernel
theorem dL_answers_424 : decode cL_answers 424 = .ok (.iconst 0, 1) := by decide +kernel
theorem dL_answers_425 : decode cL_answers 425 = .ok (.ireturn, 1) := by decide +kernel
