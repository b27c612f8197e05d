set_option maxRecDepth 20000 in
theorem ggL_turns_X4_judge : GoodIn wsL_turns wsX4_judge := goodIn_ca (goodIn_ca (goodIn_r _ [5, 6, 7, 8, 4, 9, 10, 11, 12, 13, 14, 15, 16, 17, 18, 19, 20, 21, 22, 23, 24, 25, 26, 27, 28, 29, 30, 31, 32, 33, 34, 35, 36, 37, 38, 39, 40, 41, 42, 43, 44, 45, 46, 47, 48, 49, 50, 51, 52, 53, 54, 55, 56, 57, 58, 59, 60, 61, 62, 63, 64, 65, 66, 67, 68, 69, 70, 71, 72, 73, 74, 75, 76, 77, 78, 79, 80, 81, 82, 83, 84, 85, 86, 87, 88, 89, 90, 91, 92, 93, 94, 95, 96, 97, 98, 99, 100, 101, 102, 103, 104, 105, 106, 107, 108, 109, 110, 167, 168, 169, 170, 171, 172, 173, 174, 175, 176, 177, 178, 179, 180, 181, 182, 183, 184, 185, 186, 187, 188, 189, 190, 191, 192, 193, 194, 195, 196, 197, 198, 199, 200, 201, 202] (by decide +kernel) (by decide +kernel)) (goodIn_sub (fun _ h => List.mem_cons_of_mem _ (List.mem_append_left _ (List.mem_append_left _ (List.mem_append_right _ h)))) (by decide +kernel))) (goodIn_sub (fun _ h => List.mem_cons_of_mem _ (List.mem_append_left _ (List.mem_append_right _ h))) (by decide +kernel))
set_option maxRecDepth 20000 in
theorem gL_turns_X4_judge : GoodIn wsL_turns (wsV RL 101 RX4 yX4_judge wsX4_judge) := goodIn_app (goodIn_of _ (by decide +kernel)) ggL_turns_X4_judge
set_option maxRecDepth 20000 in
theorem ggL_turns_X4_judgeByReading : GoodIn wsL_turns wsX4_judgeByReading := goodIn_ca (goodIn_r _ [114, 14, 15, 4, 16, 17, 18, 19, 20, 21, 22, 23, 24, 32, 33, 34, 35, 36, 37, 38, 39, 40, 41, 42, 43, 44, 45, 46, 47, 48, 49, 50, 51, 52, 53, 54, 55, 56, 57, 58, 59, 60, 61, 62, 63, 64, 65, 66, 67, 68, 69, 70, 71, 72, 73, 74, 75, 76, 77, 78, 79, 80, 81, 82, 83, 84, 85, 86, 87, 167, 168, 169, 170, 171, 172, 173, 174, 175, 176, 177, 178, 186, 187, 188, 189, 190, 191, 192, 193, 194, 195, 196, 197, 198, 199] (by decide +kernel) (by decide +kernel)) (goodIn_sub (fun _ h => List.mem_cons_of_mem _ (List.mem_append_left _ (List.mem_append_right _ h))) (by decide +kernel))
set_option maxRecDepth 20000 in
theorem gL_turns_X4_judgeByReading : GoodIn wsL_turns (wsV RL 105 RX4 yX4_judgeByReading wsX4_judgeByReading) := goodIn_app (goodIn_of _ (by decide +kernel)) ggL_turns_X4_judgeByReading
set_option maxRecDepth 20000 in
theorem ggL_turns_X4_end : GoodIn wsL_turns wsX4_end := goodIn_ca (goodIn_r _ [118, 119, 120, 121, 4, 122, 10, 11, 36, 37, 186, 187, 188, 189, 190, 191, 192, 193, 194, 195, 167, 168, 169, 170, 171, 172, 173, 174, 175, 176, 177, 178] (by decide +kernel) (by decide +kernel)) (goodIn_sub (fun _ h => List.mem_cons_of_mem _ (List.mem_append_left _ (List.mem_append_left _ (List.mem_append_right _ h)))) (by decide +kernel))
set_option maxRecDepth 20000 in
theorem gL_turns_X4_end : GoodIn wsL_turns (wsV RL 78 RX4 yX4_end wsX4_end) := goodIn_app (goodIn_of _ (by decide +kernel)) ggL_turns_X4_end
set_option maxRecDepth 20000 in
theorem ggL_turns_X4_keyOf : GoodIn wsL_turns wsX4_keyOf := goodIn_ca (goodIn_r _ [126, 119, 120, 121, 4, 122, 10, 11, 36, 37, 186, 187, 188, 189, 190, 191, 192, 193, 194, 195, 167, 168, 169, 170, 171, 172, 173, 174, 175, 176, 177, 178] (by decide +kernel) (by decide +kernel)) (goodIn_sub (fun _ h => List.mem_cons_of_mem _ (List.mem_append_left _ (List.mem_append_left _ (List.mem_append_right _ h)))) (by decide +kernel))
set_option maxRecDepth 20000 in
theorem gL_turns_X4_keyOf : GoodIn wsL_turns (wsV RL 38 RX4 yX4_keyOf wsX4_keyOf) := goodIn_app (goodIn_of _ (by decide +kernel)) ggL_turns_X4_keyOf
set_option maxRecDepth 20000 in
theorem ggL_turns_X4_matches : GoodIn wsL_turns wsX4_matches := goodIn_ca (goodIn_ca (goodIn_r _ [130, 119, 120, 121, 4, 122, 10, 11, 36, 37, 14, 15, 16, 17, 18, 19, 20, 21, 42, 43, 44, 45, 46, 47, 48, 49, 50, 51, 52, 53, 54, 55, 56, 57, 58, 59, 60, 61, 62, 63, 64, 65, 167, 168, 169, 170, 171, 172, 173, 174, 175, 176, 177, 178, 186, 187, 188, 189, 190, 191, 192, 193, 194, 195, 196, 197, 198, 199] (by decide +kernel) (by decide +kernel)) (goodIn_sub (fun _ h => List.mem_cons_of_mem _ (List.mem_append_left _ (List.mem_append_left _ (List.mem_append_right _ h)))) (by decide +kernel))) (goodIn_sub (fun _ h => List.mem_cons_of_mem _ (List.mem_append_left _ (List.mem_append_right _ h))) (by decide +kernel))
set_option maxRecDepth 20000 in
theorem gL_turns_X4_matches : GoodIn wsL_turns (wsV RL 30 RX4 yX4_matches wsX4_matches) := goodIn_app (goodIn_of _ (by decide +kernel)) ggL_turns_X4_matches
set_option maxRecDepth 20000 in
theorem ggL_turns_X4_turn : GoodIn wsL_turns wsX4_turn := goodIn_ca (goodIn_ca (goodIn_r _ [134, 20, 21, 135, 136, 14, 15, 4, 16, 17, 18, 19, 22, 23, 24, 32, 33, 34, 35, 36, 37, 38, 39, 40, 41, 42, 43, 44, 45, 46, 47, 48, 49, 50, 51, 52, 53, 54, 55, 56, 57, 58, 59, 60, 61, 62, 63, 64, 65, 66, 67, 68, 69, 70, 71, 72, 73, 74, 75, 76, 77, 78, 79, 80, 81, 82, 83, 84, 85, 86, 87, 137, 138, 139, 140, 141, 142, 143, 144, 145, 146, 147, 148, 149, 150, 151, 152, 153, 154, 155, 156, 157, 158, 167, 168, 169, 170, 171, 172, 173, 174, 175, 176, 177, 178, 186, 187, 188, 189, 190, 191, 192, 193, 194, 195, 196, 197, 198, 199] (by decide +kernel) (by decide +kernel)) (goodIn_sub (fun _ h => List.mem_cons_of_mem _ (List.mem_append_left _ (List.mem_append_right _ h))) (by decide +kernel))) (goodIn_sub (fun _ h => List.mem_cons_of_mem _ (List.mem_append_right _ h)) (by decide +kernel))
set_option maxRecDepth 20000 in
theorem gL_turns_X4_turn : GoodIn wsL_turns (wsV RL 114 RX4 yX4_turn wsX4_turn) := goodIn_app (goodIn_of _ (by decide +kernel)) ggL_turns_X4_turn
set_option maxRecDepth 20000 in
theorem ggL_turns_X4_lines : GoodIn wsL_turns wsX4_lines := goodIn_r _ [162, 36, 167, 168, 169, 170, 171, 172, 173, 174, 175, 176, 177, 178] (by decide +kernel) (by decide +kernel)
set_option maxRecDepth 20000 in
theorem gL_turns_X4_lines : GoodIn wsL_turns (wsV RL 20 RX4 yX4_lines wsX4_lines) := goodIn_app (goodIn_of _ (by decide +kernel)) ggL_turns_X4_lines
set_option maxRecDepth 20000 in
theorem ggL_turns_X4_seen : GoodIn wsL_turns wsX4_seen := goodIn_ca (goodIn_r _ [166, 119, 120, 121, 4, 122, 10, 11, 36, 37, 186, 187, 188, 189, 190, 191, 192, 193, 194, 195, 167, 168, 169, 170, 171, 172, 173, 174, 175, 176, 177, 178] (by decide +kernel) (by decide +kernel)) (goodIn_sub (fun _ h => List.mem_cons_of_mem _ (List.mem_append_left _ (List.mem_append_left _ (List.mem_append_right _ h)))) (by decide +kernel))
set_option maxRecDepth 20000 in
theorem gL_turns_X4_seen : GoodIn wsL_turns (wsV RL 75 RX4 yX4_seen wsX4_seen) := goodIn_app (goodIn_of _ (by decide +kernel)) ggL_turns_X4_seen
theorem dL_turns_0 : decode cL_turns 0 = .ok (.iload 4, 2) := by decide +kernel
theorem dL_turns_2 : decode cL_turns 2 = .ok (.iload 5, 2) := by decide +kernel
theorem dL_turns_4 : decode cL_turns 4 = .ok (.if_icmp .eq 28, 3) := by decide +kernel
theorem dL_turns_7 : decode cL_turns 7 = .ok (.aload_n 0, 1) := by decide +kernel
theorem dL_turns_8 : decode cL_turns 8 = .ok (.iload_n 2, 1) := by decide +kernel
theorem dL_turns_9 : decode cL_turns 9 = .ok (.iload_n 3, 1) := by decide +kernel
theorem dL_turns_10 : decode cL_turns 10 = .ok (.iload 4, 2) := by decide +kernel
theorem dL_turns_12 : decode cL_turns 12 = .ok (.iconst (-1), 1) := by decide +kernel
theorem dL_turns_13 : decode cL_turns 13 = .ok (.invokevirtual 101, 3) := by decide +kernel
theorem dL_turns_16 : decode cL_turns 16 = .ok (.iconst 2, 1) := by decide +kernel
theorem dL_turns_17 : decode cL_turns 17 = .ok (.if_icmp .ne 15, 3) := by decide +kernel
theorem dL_turns_20 : decode cL_turns 20 = .ok (.aload_n 0, 1) := by decide +kernel
theorem dL_turns_21 : decode cL_turns 21 = .ok (.iload_n 2, 1) := by decide +kernel
theorem dL_turns_22 : decode cL_turns 22 = .ok (.iload_n 3, 1) := by decide +kernel
theorem dL_turns_23 : decode cL_turns 23 = .ok (.iload 5, 2) := by decide +kernel
theorem dL_turns_25 : decode cL_turns 25 = .ok (.iconst (-1), 1) := by decide +kernel
theorem dL_turns_26 : decode cL_turns 26 = .ok (.invokevirtual 101, 3) := by decide +kernel
theorem dL_turns_29 : decode cL_turns 29 = .ok (.ifCond .ne 29, 3) := by decide +kernel
theorem dL_turns_32 : decode cL_turns 32 = .ok (.aload_n 0, 1) := by decide +kernel
theorem dL_turns_33 : decode cL_turns 33 = .ok (.iload_n 2, 1) := by decide +kernel
theorem dL_turns_34 : decode cL_turns 34 = .ok (.iload_n 3, 1) := by decide +kernel
theorem dL_turns_35 : decode cL_turns 35 = .ok (.iload 4, 2) := by decide +kernel
theorem dL_turns_37 : decode cL_turns 37 = .ok (.iconst (-1), 1) := by decide +kernel
theorem dL_turns_38 : decode cL_turns 38 = .ok (.invokevirtual 101, 3) := by decide +kernel
theorem dL_turns_41 : decode cL_turns 41 = .ok (.aload_n 0, 1) := by decide +kernel
theorem dL_turns_42 : decode cL_turns 42 = .ok (.iload_n 2, 1) := by decide +kernel
theorem dL_turns_43 : decode cL_turns 43 = .ok (.iload_n 3, 1) := by decide +kernel
theorem dL_turns_44 : decode cL_turns 44 = .ok (.iload 4, 2) := by decide +kernel
theorem dL_turns_46 : decode cL_turns 46 = .ok (.invokevirtual 105, 3) := by decide +kernel
theorem dL_turns_49 : decode cL_turns 49 = .ok (.if_icmp .ne 7, 3) := by decide +kernel
theorem dL_turns_52 : decode cL_turns 52 = .ok (.iconst 1, 1) := by decide +kernel
theorem dL_turns_53 : decode cL_turns 53 = .ok (.goto 4, 3) := by decide +kernel
theorem dL_turns_56 : decode cL_turns 56 = .ok (.iconst 0, 1) := by decide +kernel
theorem dL_turns_57 : decode cL_turns 57 = .ok (.ireturn, 1) := by decide +kernel
theorem dL_turns_58 : decode cL_turns 58 = .ok (.iconst 0, 1) := by decide +kernel
theorem dL_turns_59 : decode cL_turns 59 = .ok (.istore 7, 2) := by decide +kernel
theorem dL_turns_61 : decode cL_turns 61 = .ok (.iconst 0, 1) := by decide +kernel
theorem dL_turns_62 : decode cL_turns 62 = .ok (.istore 8, 2) := by decide +kernel
theorem dL_turns_64 : decode cL_turns 64 = .ok (.iload 8, 2) := by decide +kernel
theorem dL_turns_66 : decode cL_turns 66 = .ok (.aload_n 1, 1) := by decide +kernel
theorem dL_turns_67 : decode cL_turns 67 = .ok (.iconst 1, 1) := by decide +kernel
theorem dL_turns_68 : decode cL_turns 68 = .ok (.iaload, 1) := by decide +kernel
theorem dL_turns_69 : decode cL_turns 69 = .ok (.if_icmp .ge 75, 3) := by decide +kernel
theorem dL_turns_72 : decode cL_turns 72 = .ok (.aload_n 0, 1) := by decide +kernel
theorem dL_turns_73 : decode cL_turns 73 = .ok (.iload 8, 2) := by decide +kernel
theorem dL_turns_75 : decode cL_turns 75 = .ok (.invokevirtual 78, 3) := by decide +kernel
theorem dL_turns_78 : decode cL_turns 78 = .ok (.iconst (-1), 1) := by decide +kernel
theorem dL_turns_79 : decode cL_turns 79 = .ok (.if_icmp .eq 19, 3) := by decide +kernel
theorem dL_turns_82 : decode cL_turns 82 = .ok (.aload_n 0, 1) := by decide +kernel
theorem dL_turns_83 : decode cL_turns 83 = .ok (.iload 8, 2) := by decide +kernel
theorem dL_turns_85 : decode cL_turns 85 = .ok (.invokevirtual 78, 3) := by decide +kernel
theorem dL_turns_88 : decode cL_turns 88 = .ok (.aload_n 1, 1) := by decide +kernel
theorem dL_turns_89 : decode cL_turns 89 = .ok (.iconst 0, 1) := by decide +kernel
theorem dL_turns_90 : decode cL_turns 90 = .ok (.iaload, 1) := by decide +kernel
theorem dL_turns_91 : decode cL_turns 91 = .ok (.if_icmp .gt 7, 3) := by decide +kernel
theorem dL_turns_94 : decode cL_turns 94 = .ok (.iconst 1, 1) := by decide +kernel
theorem dL_turns_95 : decode cL_turns 95 = .ok (.goto 4, 3) := by decide +kernel
theorem dL_turns_98 : decode cL_turns 98 = .ok (.iconst 0, 1) := by decide +kernel
theorem dL_turns_99 : decode cL_turns 99 = .ok (.istore 9, 2) := by decide +kernel
theorem dL_turns_101 : decode cL_turns 101 = .ok (.iload 7, 2) := by decide +kernel
theorem dL_turns_103 : decode cL_turns 103 = .ok (.aload_n 0, 1) := by decide +kernel
theorem dL_turns_104 : decode cL_turns 104 = .ok (.iload 8, 2) := by decide +kernel
theorem dL_turns_106 : decode cL_turns 106 = .ok (.invokevirtual 38, 3) := by decide +kernel
theorem dL_turns_109 : decode cL_turns 109 = .ok (.iload 4, 2) := by decide +kernel
theorem dL_turns_111 : decode cL_turns 111 = .ok (.if_icmp .ne 23, 3) := by decide +kernel
theorem dL_turns_114 : decode cL_turns 114 = .ok (.iload 9, 2) := by decide +kernel
theorem dL_turns_116 : decode cL_turns 116 = .ok (.ifCond .ne 18, 3) := by decide +kernel
theorem dL_turns_119 : decode cL_turns 119 = .ok (.aload_n 0, 1) := by decide +kernel
theorem dL_turns_120 : decode cL_turns 120 = .ok (.iload 8, 2) := by decide +kernel
theorem dL_turns_122 : decode cL_turns 122 = .ok (.iload_n 2, 1) := by decide +kernel
theorem dL_turns_123 : decode cL_turns 123 = .ok (.iload_n 3, 1) := by decide +kernel
theorem dL_turns_124 : decode cL_turns 124 = .ok (.invokevirtual 30, 3) := by decide +kernel
theorem dL_turns_127 : decode cL_turns 127 = .ok (.ifCond .eq 7, 3) := by decide +kernel
theorem dL_turns_130 : decode cL_turns 130 = .ok (.iconst 1, 1) := by decide +kernel
theorem dL_turns_131 : decode cL_turns 131 = .ok (.goto 4, 3) := by decide +kernel
theorem dL_turns_134 : decode cL_turns 134 = .ok (.iconst 0, 1) := by decide +kernel
theorem dL_turns_135 : decode cL_turns 135 = .ok (.iadd, 1) := by decide +kernel
theorem dL_turns_136 : decode cL_turns 136 = .ok (.istore 7, 2) := by decide +kernel
theorem dL_turns_138 : decode cL_turns 138 = .ok (.iinc 8 1, 3) := by decide +kernel
theorem dL_turns_141 : decode cL_turns 141 = .ok (.goto (-77), 3) := by decide +kernel
theorem dL_turns_144 : decode cL_turns 144 = .ok (.aload_n 1, 1) := by decide +kernel
theorem dL_turns_145 : decode cL_turns 145 = .ok (.iconst 1, 1) := by decide +kernel
theorem dL_turns_146 : decode cL_turns 146 = .ok (.iaload, 1) := by decide +kernel
theorem dL_turns_147 : decode cL_turns 147 = .ok (.istore 8, 2) := by decide +kernel
theorem dL_turns_149 : decode cL_turns 149 = .ok (.iload 7, 2) := by decide +kernel
theorem dL_turns_151 : decode cL_turns 151 = .ok (.bipush 40, 2) := by decide +kernel
theorem dL_turns_153 : decode cL_turns 153 = .ok (.iload 8, 2) := by decide +kernel
theorem dL_turns_155 : decode cL_turns 155 = .ok (.isub, 1) := by decide +kernel
theorem dL_turns_156 : decode cL_turns 156 = .ok (.if_icmp .le 11, 3) := by decide +kernel
theorem dL_turns_159 : decode cL_turns 159 = .ok (.bipush 40, 2) := by decide +kernel
theorem dL_turns_161 : decode cL_turns 161 = .ok (.iload 8, 2) := by decide +kernel
theorem dL_turns_163 : decode cL_turns 163 = .ok (.isub, 1) := by decide +kernel
theorem dL_turns_164 : decode cL_turns 164 = .ok (.goto 5, 3) := by decide +kernel
theorem dL_turns_167 : decode cL_turns 167 = .ok (.iload 7, 2) := by decide +kernel
theorem dL_turns_169 : decode cL_turns 169 = .ok (.istore 7, 2) := by decide +kernel
theorem dL_turns_171 : decode cL_turns 171 = .ok (.aload_n 1, 1) := by decide +kernel
theorem dL_turns_172 : decode cL_turns 172 = .ok (.iconst 1, 1) := by decide +kernel
theorem dL_turns_173 : decode cL_turns 173 = .ok (.dup2, 1) := by decide +kernel
theorem dL_turns_174 : decode cL_turns 174 = .ok (.iaload, 1) := by decide +kernel
theorem dL_turns_175 : decode cL_turns 175 = .ok (.iload 7, 2) := by decide +kernel
theorem dL_turns_177 : decode cL_turns 177 = .ok (.iadd, 1) := by decide +kernel
theorem dL_turns_178 : decode cL_turns 178 = .ok (.iastore, 1) := by decide +kernel
theorem dL_turns_179 : decode cL_turns 179 = .ok (.aload_n 0, 1) := by decide +kernel
theorem dL_turns_180 : decode cL_turns 180 = .ok (.iload_n 2, 1) := by decide +kernel
theorem dL_turns_181 : decode cL_turns 181 = .ok (.iload_n 3, 1) := by decide +kernel
theorem dL_turns_182 : decode cL_turns 182 = .ok (.iload 4, 2) := by decide +kernel
theorem dL_turns_184 : decode cL_turns 184 = .ok (.iload 5, 2) := by decide +kernel
theorem dL_turns_186 : decode cL_turns 186 = .ok (.iload 6, 2) := by decide +kernel
theorem dL_turns_188 : decode cL_turns 188 = .ok (.invokevirtual 114, 3) := by decide +kernel
theorem dL_turns_191 : decode cL_turns 191 = .ok (.iload 7, 2) := by decide +kernel
theorem dL_turns_193 : decode cL_turns 193 = .ok (.if_icmp .ne 35, 3) := by decide +kernel
theorem dL_turns_196 : decode cL_turns 196 = .ok (.aload_n 0, 1) := by decide +kernel
theorem dL_turns_197 : decode cL_turns 197 = .ok (.invokevirtual 20, 3) := by decide +kernel
theorem dL_turns_200 : decode cL_turns 200 = .ok (.aload_n 1, 1) := by decide +kernel
theorem dL_turns_201 : decode cL_turns 201 = .ok (.iconst 1, 1) := by decide +kernel
theorem dL_turns_202 : decode cL_turns 202 = .ok (.iaload, 1) := by decide +kernel
theorem dL_turns_203 : decode cL_turns 203 = .ok (.if_icmp .ne 25, 3) := by decide +kernel
theorem dL_turns_206 : decode cL_turns 206 = .ok (.iload 7, 2) := by decide +kernel
theorem dL_turns_208 : decode cL_turns 208 = .ok (.ifCond .eq 16, 3) := by decide +kernel
theorem dL_turns_211 : decode cL_turns 211 = .ok (.aload_n 0, 1) := by decide +kernel
theorem dL_turns_212 : decode cL_turns 212 = .ok (.iload_n 2, 1) := by decide +kernel
theorem dL_turns_213 : decode cL_turns 213 = .ok (.iload_n 3, 1) := by decide +kernel
theorem dL_turns_214 : decode cL_turns 214 = .ok (.iload 5, 2) := by decide +kernel
theorem dL_turns_216 : decode cL_turns 216 = .ok (.iconst (-1), 1) := by decide +kernel
theorem dL_turns_217 : decode cL_turns 217 = .ok (.invokevirtual 101, 3) := by decide +kernel
theorem dL_turns_220 : decode cL_turns 220 = .ok (.iconst 2, 1) := by decide +kernel
theorem dL_turns_221 : decode cL_turns 221 = .ok (.if_icmp .ne 7, 3) := by decide +kernel
theorem dL_turns_224 : decode cL_turns 224 = .ok (.iconst 1, 1) := by decide +kernel
theorem dL_turns_225 : decode cL_turns 225 = .ok (.goto 4, 3) := by decide +kernel
theorem dL_turns_228 : decode cL_turns 228 = .ok (.iconst 0, 1) := by decide +kernel
theorem dL_turns_229 : decode cL_turns 229 = .ok (.istore 9, 2) := by decide +kernel
theorem dL_turns_231 : decode cL_turns 231 = .ok (.iload 8, 2) := by decide +kernel
theorem dL_turns_233 : decode cL_turns 233 = .ok (.istore 10, 2) := by decide +kernel
theorem dL_turns_235 : decode cL_turns 235 = .ok (.iload 10, 2) := by decide +kernel
theorem dL_turns_237 : decode cL_turns 237 = .ok (.aload_n 1, 1) := by decide +kernel
theorem dL_turns_238 : decode cL_turns 238 = .ok (.iconst 1, 1) := by decide +kernel
theorem dL_turns_239 : decode cL_turns 239 = .ok (.iaload, 1) := by decide +kernel
theorem dL_turns_240 : decode cL_turns 240 = .ok (.if_icmp .ge 65, 3) := by decide +kernel
theorem dL_turns_243 : decode cL_turns 243 = .ok (.iload 9, 2) := by decide +kernel
theorem dL_turns_245 : decode cL_turns 245 = .ok (.ifCond .eq 60, 3) := by decide +kernel
theorem dL_turns_248 : decode cL_turns 248 = .ok (.aload_n 0, 1) := by decide +kernel
theorem dL_turns_249 : decode cL_turns 249 = .ok (.iload 10, 2) := by decide +kernel
theorem dL_turns_251 : decode cL_turns 251 = .ok (.invokevirtual 38, 3) := by decide +kernel
theorem dL_turns_254 : decode cL_turns 254 = .ok (.iload 5, 2) := by decide +kernel
theorem dL_turns_256 : decode cL_turns 256 = .ok (.if_icmp .ne 40, 3) := by decide +kernel
theorem dL_turns_259 : decode cL_turns 259 = .ok (.aload_n 0, 1) := by decide +kernel
theorem dL_turns_260 : decode cL_turns 260 = .ok (.iload 10, 2) := by decide +kernel
theorem dL_turns_262 : decode cL_turns 262 = .ok (.invokevirtual 75, 3) := by decide +kernel
theorem dL_turns_265 : decode cL_turns 265 = .ok (.aload_n 1, 1) := by decide +kernel
theorem dL_turns_266 : decode cL_turns 266 = .ok (.iconst 0, 1) := by decide +kernel
theorem dL_turns_267 : decode cL_turns 267 = .ok (.iaload, 1) := by decide +kernel
theorem dL_turns_268 : decode cL_turns 268 = .ok (.if_icmp .ne 28, 3) := by decide +kernel
theorem dL_turns_271 : decode cL_turns 271 = .ok (.aload_n 0, 1) := by decide +kernel
theorem dL_turns_272 : decode cL_turns 272 = .ok (.iload 10, 2) := by decide +kernel
theorem dL_turns_274 : decode cL_turns 274 = .ok (.invokevirtual 78, 3) := by decide +kernel
theorem dL_turns_277 : decode cL_turns 277 = .ok (.iconst (-1), 1) := by decide +kernel
theorem dL_turns_278 : decode cL_turns 278 = .ok (.if_icmp .ne 18, 3) := by decide +kernel
theorem dL_turns_281 : decode cL_turns 281 = .ok (.aload_n 0, 1) := by decide +kernel
theorem dL_turns_282 : decode cL_turns 282 = .ok (.iload 10, 2) := by decide +kernel
theorem dL_turns_284 : decode cL_turns 284 = .ok (.iload_n 2, 1) := by decide +kernel
theorem dL_turns_285 : decode cL_turns 285 = .ok (.iload_n 3, 1) := by decide +kernel
theorem dL_turns_286 : decode cL_turns 286 = .ok (.invokevirtual 30, 3) := by decide +kernel
theorem dL_turns_289 : decode cL_turns 289 = .ok (.ifCond .eq 7, 3) := by decide +kernel
theorem dL_turns_292 : decode cL_turns 292 = .ok (.iconst 1, 1) := by decide +kernel
theorem dL_turns_293 : decode cL_turns 293 = .ok (.goto 4, 3) := by decide +kernel
theorem dL_turns_296 : decode cL_turns 296 = .ok (.iconst 0, 1) := by decide +kernel
theorem dL_turns_297 : decode cL_turns 297 = .ok (.istore 9, 2) := by decide +kernel
theorem dL_turns_299 : decode cL_turns 299 = .ok (.iinc 10 1, 3) := by decide +kernel
theorem dL_turns_302 : decode cL_turns 302 = .ok (.goto (-67), 3) := by decide +kernel
theorem dL_turns_305 : decode cL_turns 305 = .ok (.iload 9, 2) := by decide +kernel
theorem dL_turns_307 : decode cL_turns 307 = .ok (.ifCond .eq 35, 3) := by decide +kernel
theorem dL_turns_310 : decode cL_turns 310 = .ok (.iload 8, 2) := by decide +kernel
theorem dL_turns_312 : decode cL_turns 312 = .ok (.iload 7, 2) := by decide +kernel
theorem dL_turns_314 : decode cL_turns 314 = .ok (.iadd, 1) := by decide +kernel
theorem dL_turns_315 : decode cL_turns 315 = .ok (.bipush 40, 2) := by decide +kernel
theorem dL_turns_317 : decode cL_turns 317 = .ok (.if_icmp .eq 21, 3) := by decide +kernel
theorem dL_turns_320 : decode cL_turns 320 = .ok (.iload 6, 2) := by decide +kernel
theorem dL_turns_322 : decode cL_turns 322 = .ok (.ifCond .gt 16, 3) := by decide +kernel
theorem dL_turns_325 : decode cL_turns 325 = .ok (.aload_n 0, 1) := by decide +kernel
theorem dL_turns_326 : decode cL_turns 326 = .ok (.iload_n 2, 1) := by decide +kernel
theorem dL_turns_327 : decode cL_turns 327 = .ok (.iload_n 3, 1) := by decide +kernel
theorem dL_turns_328 : decode cL_turns 328 = .ok (.iload 4, 2) := by decide +kernel
theorem dL_turns_330 : decode cL_turns 330 = .ok (.iconst (-1), 1) := by decide +kernel
theorem dL_turns_331 : decode cL_turns 331 = .ok (.invokevirtual 101, 3) := by decide +kernel
theorem dL_turns_334 : decode cL_turns 334 = .ok (.iconst 2, 1) := by decide +kernel
theorem dL_turns_335 : decode cL_turns 335 = .ok (.if_icmp .eq 7, 3) := by decide +kernel
theorem dL_turns_338 : decode cL_turns 338 = .ok (.iconst 1, 1) := by decide +kernel
theorem dL_turns_339 : decode cL_turns 339 = .ok (.goto 4, 3) := by decide +kernel
theorem dL_turns_342 : decode cL_turns 342 = .ok (.iconst 0, 1) := by decide +kernel
theorem dL_turns_343 : decode cL_turns 343 = .ok (.ireturn, 1) := by decide +kernel
set_option maxRecDepth 20000 in
theorem ggL_isBook_L_name : GoodIn wsL_isBook wsL_name := goodIn_r _ [4] (by decide +kernel) (by decide +kernel)
set_option maxRecDepth 20000 in
theorem gL_isBook_L_name : GoodIn wsL_isBook (va_wsS RL 10 yL_name wsL_name) := goodIn_app (goodIn_of _ (by decide +kernel)) ggL_isBook_L_name
set_option maxRecDepth 20000 in
theorem ggL_isBook_X4_lines : GoodIn wsL_isBook wsX4_lines := goodIn_r _ [9, 10, 123, 124, 125, 126, 127, 128, 129, 130, 131, 132, 133, 134] (by decide +kernel) (by decide +kernel)
set_option maxRecDepth 20000 in
theorem gL_isBook_X4_lines : GoodIn wsL_isBook (wsV RL 20 RX4 yX4_lines wsX4_lines) := goodIn_app (goodIn_of _ (by decide +kernel)) ggL_isBook_X4_lines
set_option maxRecDepth 20000 in
theorem ggL_isBook_X4_day : GoodIn wsL_isBook wsX4_day := goodIn_r _ [14, 15, 123, 124, 125, 126, 127, 128, 129, 130, 131, 132, 133, 134] (by decide +kernel) (by decide +kernel)
set_option maxRecDepth 20000 in
theorem gL_isBook_X4_day : GoodIn wsL_isBook (wsV RL 58 RX4 yX4_day wsX4_day) := goodIn_app (goodIn_of _ (by decide +kernel)) ggL_isBook_X4_day
set_option maxRecDepth 20000 in
theorem ggL_isBook_X4_waiting : GoodIn wsL_isBook wsX4_waiting := goodIn_r _ [19, 20, 123, 124, 125, 126, 127, 128, 129, 130, 131, 132, 133, 134] (by decide +kernel) (by decide +kernel)
set_option maxRecDepth 20000 in
theorem gL_isBook_X4_waiting : GoodIn wsL_isBook (wsV RL 111 RX4 yX4_waiting wsX4_waiting) := goodIn_app (goodIn_of _ (by decide +kernel)) ggL_isBook_X4_waiting
set_option maxRecDepth 20000 in
theorem ggL_isBook_X4_matches : GoodIn wsL_isBook wsX4_matches := goodIn_ca (goodIn_ca (goodIn_r _ [24, 25, 26, 27, 8, 28, 29, 30, 10, 31, 32, 33, 34, 35, 36, 37, 38, 39, 40, 41, 42, 43, 44, 45, 46, 47, 48, 49, 50, 51, 52, 53, 54, 55, 56, 57, 58, 59, 60, 61, 62, 63, 123, 124, 125, 126, 127, 128, 129, 130, 131, 132, 133, 134, 135, 136, 137, 138, 139, 140, 141, 142, 143, 144, 145, 146, 147, 148] (by decide +kernel) (by decide +kernel)) (goodIn_sub (fun _ h => List.mem_cons_of_mem _ (List.mem_append_left _ (List.mem_append_right _ h))) (by decide +kernel))) (goodIn_sub (fun _ h => List.mem_cons_of_mem _ (List.mem_append_right _ h)) (by decide +kernel))
set_option maxRecDepth 20000 in
theorem gL_isBook_X4_matches : GoodIn wsL_isBook (wsV RL 30 RX4 yX4_matches wsX4_matches) := goodIn_app (goodIn_of _ (by decide +kernel)) ggL_isBook_X4_matches
set_option maxRecDepth 20000 in
theorem ggL_isBook_X4_keyOf : GoodIn wsL_isBook wsX4_keyOf := goodIn_ca (goodIn_r _ [67, 25, 26, 27, 8, 28, 29, 30, 10, 31, 135, 136, 137, 138, 139, 140, 141, 142, 143, 144, 123, 124, 125, 126, 127, 128, 129, 130, 131, 132, 133, 134] (by decide +kernel) (by decide +kernel)) (goodIn_sub (fun _ h => List.mem_cons_of_mem _ (List.mem_append_left _ (List.mem_append_right _ h))) (by decide +kernel))
set_option maxRecDepth 20000 in
theorem gL_isBook_X4_keyOf : GoodIn wsL_isBook (wsV RL 38 RX4 yX4_keyOf wsX4_keyOf) := goodIn_app (goodIn_of _ (by decide +kernel)) ggL_isBook_X4_keyOf
set_option maxRecDepth 20000 in
theorem ggL_isBook_X4_seen : GoodIn wsL_isBook wsX4_seen := goodIn_ca (goodIn_r _ [71, 25, 26, 27, 8, 28, 29, 30, 10, 31, 135, 136, 137, 138, 139, 140, 141, 142, 143, 144, 123, 124, 125, 126, 127, 128, 129, 130, 131, 132, 133, 134] (by decide +kernel) (by decide +kernel)) (goodIn_sub (fun _ h => List.mem_cons_of_mem _ (List.mem_append_left _ (List.mem_append_right _ h))) (by decide +kernel))
set_option maxRecDepth 20000 in
theorem gL_isBook_X4_seen : GoodIn wsL_isBook (wsV RL 75 RX4 yX4_seen wsX4_seen) := goodIn_app (goodIn_of _ (by decide +kernel)) ggL_isBook_X4_seen
set_option maxRecDepth 20000 in
theorem ggL_isBook_X4_end : GoodIn wsL_isBook wsX4_end := goodIn_ca (goodIn_r _ [75, 25, 26, 27, 8, 28, 29, 30, 10, 31, 135, 136, 137, 138, 139, 140, 141, 142, 143, 144, 123, 124, 125, 126, 127, 128, 129, 130, 131, 132, 133, 134] (by decide +kernel) (by decide +kernel)) (goodIn_sub (fun _ h => List.mem_cons_of_mem _ (List.mem_append_left _ (List.mem_append_right _ h))) (by decide +kernel))
set_option maxRecDepth 20000 in
theorem gL_isBook_X4_end : GoodIn wsL_isBook (wsV RL 78 RX4 yX4_end wsX4_end) := goodIn_app (goodIn_of _ (by decide +kernel)) ggL_isBook_X4_end
set_option maxRecDepth 20000 in
theorem ggL_isBook_X4_find : GoodIn wsL_isBook wsX4_find := goodIn_ca (goodIn_r _ [79, 10, 31, 32, 33, 8, 34, 35, 36, 37, 38, 39, 40, 41, 42, 43, 44, 45, 46, 47, 48, 49, 50, 51, 52, 53, 54, 55, 56, 57, 58, 59, 60, 61, 62, 63, 123, 124, 125, 126, 127, 128, 129, 130, 131, 132, 133, 134, 135, 136, 137, 138, 139, 140, 141, 142, 143, 144, 145, 146, 147, 148] (by decide +kernel) (by decide +kernel)) (goodIn_sub (fun _ h => List.mem_cons_of_mem _ (List.mem_append_right _ h)) (by decide +kernel))
set_option maxRecDepth 20000 in
theorem gL_isBook_X4_find : GoodIn wsL_isBook (wsV RL 34 RX4 yX4_find wsX4_find) := goodIn_app (goodIn_of _ (by decide +kernel)) ggL_isBook_X4_find
set_option maxRecDepth 20000 in
theorem ggL_isBook_X4_linesOf : GoodIn wsL_isBook wsX4_linesOf := goodIn_ca (goodIn_r _ [83, 10, 31, 84, 85, 8, 86, 35, 36, 37, 38, 39, 123, 124, 125, 126, 127, 128, 129, 130, 131, 132, 133, 134, 135, 136, 137, 138, 139, 140, 141, 142, 143, 144] (by decide +kernel) (by decide +kernel)) (goodIn_sub (fun _ h => List.mem_cons_of_mem _ (List.mem_append_right _ h)) (by decide +kernel))
set_option maxRecDepth 20000 in
theorem gL_isBook_X4_linesOf : GoodIn wsL_isBook (wsV RL 81 RX4 yX4_linesOf wsX4_linesOf) := goodIn_app (goodIn_of _ (by decide +kernel)) ggL_isBook_X4_linesOf
set_option maxRecDepth 20000 in
theorem ggL_isBook_X4_judgeByReading : GoodIn wsL_isBook wsX4_judgeByReading := goodIn_ca (goodIn_r _ [90, 32, 33, 8, 34, 35, 36, 37, 38, 39, 84, 85, 86, 91, 92, 93, 94, 10, 31, 95, 96, 97, 98, 40, 41, 42, 43, 44, 45, 46, 47, 48, 49, 50, 51, 52, 53, 54, 55, 56, 57, 58, 59, 60, 61, 62, 63, 99, 100, 101, 102, 103, 104, 105, 106, 107, 108, 109, 110, 111, 15, 112, 113, 114, 115, 116, 117, 118, 119, 123, 124, 125, 126, 127, 128, 129, 130, 131, 132, 133, 134, 135, 136, 137, 138, 139, 140, 141, 142, 143, 144, 145, 146, 147, 148] (by decide +kernel) (by decide +kernel)) (goodIn_sub (fun _ h => List.mem_cons_of_mem _ (List.mem_append_right _ h)) (by decide +kernel))
set_option maxRecDepth 20000 in
theorem gL_isBook_X4_judgeByReading : GoodIn wsL_isBook (wsV RL 105 RX4 yX4_judgeByReading wsX4_judgeByReading) := goodIn_app (goodIn_of _ (by decide +kernel)) ggL_isBook_X4_judgeByReading
set_option maxRecDepth 20000 in
theorem ggL_isBook_L_due : GoodIn wsL_isBook wsL_due := goodIn_ca (goodIn_ca (goodIn_r _ [122, 64, 65, 66, 8, 67, 25, 26, 27, 28, 29, 30, 10, 31, 72, 73, 74, 75, 21, 22, 23, 24, 32, 33, 34, 35, 36, 37, 38, 39, 40, 41, 42, 43, 44, 45, 46, 47, 48, 49, 50, 51, 52, 53, 54, 55, 56, 57, 58, 59, 60, 61, 62, 63, 135, 136, 137, 138, 139, 140, 141, 142, 143, 144, 123, 124, 125, 126, 127, 128, 129, 130, 131, 132, 133, 134, 145, 146, 147, 148] (by decide +kernel) (by decide +kernel)) (goodIn_sub (fun _ h => List.mem_cons_of_mem _ (List.mem_append_left _ (List.mem_append_right _ h))) (by decide +kernel))) (goodIn_sub (fun _ h => List.mem_cons_of_mem _ (List.mem_append_right _ h)) (by decide +kernel))
set_option maxRecDepth 20000 in
theorem gL_isBook_L_due : GoodIn wsL_isBook (va_wsS RL 97 yL_due wsL_due) := goodIn_app (goodIn_of _ (by decide +kernel)) ggL_isBook_L_due
theorem dL_isBook_0 : decode cL_isBook 0 = .ok (.iload_n 2, 1) := by decide +kernel
theorem dL_isBook_1 : decode cL_isBook 1 = .ok (.invokestatic 10, 3) := by decide +kernel
theorem dL_isBook_4 : decode cL_isBook 4 = .ok (.istore 4, 2) := by decide +kernel
theorem dL_isBook_6 : decode cL_isBook 6 = .ok (.iload_n 3, 1) := by decide +kernel
theorem dL_isBook_7 : decode cL_isBook 7 = .ok (.iconst 2, 1) := by decide +kernel
theorem dL_isBook_8 : decode cL_isBook 8 = .ok (.irem, 1) := by decide +kernel
theorem dL_isBook_9 : decode cL_isBook 9 = .ok (.istore 5, 2) := by decide +kernel
theorem dL_isBook_11 : decode cL_isBook 11 = .ok (.iconst (-1), 1) := by decide +kernel
theorem dL_isBook_12 : decode cL_isBook 12 = .ok (.istore 6, 2) := by decide +kernel
theorem dL_isBook_14 : decode cL_isBook 14 = .ok (.lconst 0, 1) := by decide +kernel
theorem dL_isBook_15 : decode cL_isBook 15 = .ok (.lstore 7, 2) := by decide +kernel
theorem dL_isBook_17 : decode cL_isBook 17 = .ok (.iload_n 3, 1) := by decide +kernel
theorem dL_isBook_18 : decode cL_isBook 18 = .ok (.iconst 2, 1) := by decide +kernel
theorem dL_isBook_19 : decode cL_isBook 19 = .ok (.idiv, 1) := by decide +kernel
theorem dL_isBook_20 : decode cL_isBook 20 = .ok (.bipush 6, 2) := by decide +kernel
theorem dL_isBook_22 : decode cL_isBook 22 = .ok (.irem, 1) := by decide +kernel
theorem dL_isBook_23 : decode cL_isBook 23 = .ok (.istore 9, 2) := by decide +kernel
theorem dL_isBook_25 : decode cL_isBook 25 = .ok (.aload_n 0, 1) := by decide +kernel
theorem dL_isBook_26 : decode cL_isBook 26 = .ok (.invokevirtual 20, 3) := by decide +kernel
theorem dL_isBook_29 : decode cL_isBook 29 = .ok (.aload_n 1, 1) := by decide +kernel
theorem dL_isBook_30 : decode cL_isBook 30 = .ok (.iconst 1, 1) := by decide +kernel
theorem dL_isBook_31 : decode cL_isBook 31 = .ok (.iaload, 1) := by decide +kernel
theorem dL_isBook_32 : decode cL_isBook 32 = .ok (.if_icmp .ne 30, 3) := by decide +kernel
theorem dL_isBook_35 : decode cL_isBook 35 = .ok (.aload_n 0, 1) := by decide +kernel
theorem dL_isBook_36 : decode cL_isBook 36 = .ok (.invokevirtual 58, 3) := by decide +kernel
theorem dL_isBook_39 : decode cL_isBook 39 = .ok (.aload_n 1, 1) := by decide +kernel
theorem dL_isBook_40 : decode cL_isBook 40 = .ok (.iconst 0, 1) := by decide +kernel
theorem dL_isBook_41 : decode cL_isBook 41 = .ok (.iaload, 1) := by decide +kernel
theorem dL_isBook_42 : decode cL_isBook 42 = .ok (.if_icmp .ne 20, 3) := by decide +kernel
theorem dL_isBook_45 : decode cL_isBook 45 = .ok (.aload_n 0, 1) := by decide +kernel
theorem dL_isBook_46 : decode cL_isBook 46 = .ok (.invokevirtual 111, 3) := by decide +kernel
theorem dL_isBook_49 : decode cL_isBook 49 = .ok (.aload_n 1, 1) := by decide +kernel
theorem dL_isBook_50 : decode cL_isBook 50 = .ok (.bipush 6, 2) := by decide +kernel
theorem dL_isBook_52 : decode cL_isBook 52 = .ok (.iaload, 1) := by decide +kernel
theorem dL_isBook_53 : decode cL_isBook 53 = .ok (.iconst 1, 1) := by decide +kernel
theorem dL_isBook_54 : decode cL_isBook 54 = .ok (.isub, 1) := by decide +kernel
theorem dL_isBook_55 : decode cL_isBook 55 = .ok (.if_icmp .ne 7, 3) := by decide +kernel
theorem dL_isBook_58 : decode cL_isBook 58 = .ok (.iconst 1, 1) := by decide +kernel
theorem dL_isBook_59 : decode cL_isBook 59 = .ok (.goto 4, 3) := by decide +kernel
theorem dL_isBook_62 : decode cL_isBook 62 = .ok (.iconst 0, 1) := by decide +kernel
theorem dL_isBook_63 : decode cL_isBook 63 = .ok (.istore 10, 2) := by decide +kernel
theorem dL_isBook_65 : decode cL_isBook 65 = .ok (.aload_n 1, 1) := by decide +kernel
theorem dL_isBook_66 : decode cL_isBook 66 = .ok (.iconst 1, 1) := by decide +kernel
theorem dL_isBook_67 : decode cL_isBook 67 = .ok (.iaload, 1) := by decide +kernel
theorem dL_isBook_68 : decode cL_isBook 68 = .ok (.iconst 1, 1) := by decide +kernel
theorem dL_isBook_69 : decode cL_isBook 69 = .ok (.isub, 1) := by decide +kernel
theorem dL_isBook_70 : decode cL_isBook 70 = .ok (.istore 11, 2) := by decide +kernel
theorem dL_isBook_72 : decode cL_isBook 72 = .ok (.iload 11, 2) := by decide +kernel
theorem dL_isBook_74 : decode cL_isBook 74 = .ok (.ifCond .lt 102, 3) := by decide +kernel
theorem dL_isBook_77 : decode cL_isBook 77 = .ok (.iload 10, 2) := by decide +kernel
theorem dL_isBook_79 : decode cL_isBook 79 = .ok (.ifCond .eq 97, 3) := by decide +kernel
theorem dL_isBook_82 : decode cL_isBook 82 = .ok (.aload_n 0, 1) := by decide +kernel
theorem dL_isBook_83 : decode cL_isBook 83 = .ok (.iload 11, 2) := by decide +kernel
theorem dL_isBook_85 : decode cL_isBook 85 = .ok (.iload 4, 2) := by decide +kernel
theorem dL_isBook_87 : decode cL_isBook 87 = .ok (.iload 5, 2) := by decide +kernel
theorem dL_isBook_89 : decode cL_isBook 89 = .ok (.invokevirtual 30, 3) := by decide +kernel
theorem dL_isBook_92 : decode cL_isBook 92 = .ok (.ifCond .eq 8, 3) := by decide +kernel
theorem dL_isBook_95 : decode cL_isBook 95 = .ok (.iload 11, 2) := by decide +kernel
theorem dL_isBook_97 : decode cL_isBook 97 = .ok (.goto 5, 3) := by decide +kernel
theorem dL_isBook_100 : decode cL_isBook 100 = .ok (.iload 6, 2) := by decide +kernel
theorem dL_isBook_102 : decode cL_isBook 102 = .ok (.istore 6, 2) := by decide +kernel
theorem dL_isBook_104 : decode cL_isBook 104 = .ok (.lload 7, 2) := by decide +kernel
theorem dL_isBook_106 : decode cL_isBook 106 = .ok (.aload_n 0, 1) := by decide +kernel
theorem dL_isBook_107 : decode cL_isBook 107 = .ok (.iload 11, 2) := by decide +kernel
theorem dL_isBook_109 : decode cL_isBook 109 = .ok (.invokevirtual 38, 3) := by decide +kernel
theorem dL_isBook_112 : decode cL_isBook 112 = .ok (.sipush 1000, 3) := by decide +kernel
theorem dL_isBook_115 : decode cL_isBook 115 = .ok (.irem, 1) := by decide +kernel
theorem dL_isBook_116 : decode cL_isBook 116 = .ok (.iload 9, 2) := by decide +kernel
theorem dL_isBook_118 : decode cL_isBook 118 = .ok (.if_icmp .ne 10, 3) := by decide +kernel
theorem dL_isBook_121 : decode cL_isBook 121 = .ok (.lconst 1, 1) := by decide +kernel
theorem dL_isBook_122 : decode cL_isBook 122 = .ok (.iload 11, 2) := by decide +kernel
theorem dL_isBook_124 : decode cL_isBook 124 = .ok (.lshl, 1) := by decide +kernel
theorem dL_isBook_125 : decode cL_isBook 125 = .ok (.goto 4, 3) := by decide +kernel
theorem dL_isBook_128 : decode cL_isBook 128 = .ok (.lconst 0, 1) := by decide +kernel
theorem dL_isBook_129 : decode cL_isBook 129 = .ok (.lor, 1) := by decide +kernel
theorem dL_isBook_130 : decode cL_isBook 130 = .ok (.lstore 7, 2) := by decide +kernel
theorem dL_isBook_132 : decode cL_isBook 132 = .ok (.aload_n 0, 1) := by decide +kernel
theorem dL_isBook_133 : decode cL_isBook 133 = .ok (.iload 11, 2) := by decide +kernel
theorem dL_isBook_135 : decode cL_isBook 135 = .ok (.invokevirtual 75, 3) := by decide +kernel
theorem dL_isBook_138 : decode cL_isBook 138 = .ok (.ifCond .lt 29, 3) := by decide +kernel
theorem dL_isBook_141 : decode cL_isBook 141 = .ok (.aload_n 0, 1) := by decide +kernel
theorem dL_isBook_142 : decode cL_isBook 142 = .ok (.iload 11, 2) := by decide +kernel
theorem dL_isBook_144 : decode cL_isBook 144 = .ok (.invokevirtual 75, 3) := by decide +kernel
theorem dL_isBook_147 : decode cL_isBook 147 = .ok (.aload_n 1, 1) := by decide +kernel
theorem dL_isBook_148 : decode cL_isBook 148 = .ok (.iconst 0, 1) := by decide +kernel
theorem dL_isBook_149 : decode cL_isBook 149 = .ok (.iaload, 1) := by decide +kernel
theorem dL_isBook_150 : decode cL_isBook 150 = .ok (.if_icmp .gt 17, 3) := by decide +kernel
theorem dL_isBook_153 : decode cL_isBook 153 = .ok (.aload_n 0, 1) := by decide +kernel
theorem dL_isBook_154 : decode cL_isBook 154 = .ok (.iload 11, 2) := by decide +kernel
theorem dL_isBook_156 : decode cL_isBook 156 = .ok (.invokevirtual 78, 3) := by decide +kernel
theorem dL_isBook_159 : decode cL_isBook 159 = .ok (.iconst (-1), 1) := by decide +kernel
theorem dL_isBook_160 : decode cL_isBook 160 = .ok (.if_icmp .lt 7, 3) := by decide +kernel
theorem dL_isBook_163 : decode cL_isBook 163 = .ok (.iconst 1, 1) := by decide +kernel
theorem dL_isBook_164 : decode cL_isBook 164 = .ok (.goto 4, 3) := by decide +kernel
theorem dL_isBook_167 : decode cL_isBook 167 = .ok (.iconst 0, 1) := by decide +kernel
theorem dL_isBook_168 : decode cL_isBook 168 = .ok (.istore 10, 2) := by decide +kernel
theorem dL_isBook_170 : decode cL_isBook 170 = .ok (.iinc 11 (-1), 3) := by decide +kernel
theorem dL_isBook_173 : decode cL_isBook 173 = .ok (.goto (-101), 3) := by decide +kernel
theorem dL_isBook_176 : decode cL_isBook 176 = .ok (.iload 10, 2) := by decide +kernel
theorem dL_isBook_178 : decode cL_isBook 178 = .ok (.ifCond .eq 56, 3) := by decide +kernel
theorem dL_isBook_181 : decode cL_isBook 181 = .ok (.aload_n 0, 1) := by decide +kernel
theorem dL_isBook_182 : decode cL_isBook 182 = .ok (.iload 4, 2) := by decide +kernel
theorem dL_isBook_184 : decode cL_isBook 184 = .ok (.iload 5, 2) := by decide +kernel
theorem dL_isBook_186 : decode cL_isBook 186 = .ok (.invokevirtual 34, 3) := by decide +kernel
theorem dL_isBook_189 : decode cL_isBook 189 = .ok (.iload 6, 2) := by decide +kernel
theorem dL_isBook_191 : decode cL_isBook 191 = .ok (.if_icmp .ne 43, 3) := by decide +kernel
theorem dL_isBook_194 : decode cL_isBook 194 = .ok (.aload_n 0, 1) := by decide +kernel
theorem dL_isBook_195 : decode cL_isBook 195 = .ok (.iload 9, 2) := by decide +kernel
theorem dL_isBook_197 : decode cL_isBook 197 = .ok (.invokevirtual 81, 3) := by decide +kernel
theorem dL_isBook_200 : decode cL_isBook 200 = .ok (.lload 7, 2) := by decide +kernel
theorem dL_isBook_202 : decode cL_isBook 202 = .ok (.lcmp, 1) := by decide +kernel
theorem dL_isBook_203 : decode cL_isBook 203 = .ok (.ifCond .ne 31, 3) := by decide +kernel
theorem dL_isBook_206 : decode cL_isBook 206 = .ok (.aload_n 0, 1) := by decide +kernel
theorem dL_isBook_207 : decode cL_isBook 207 = .ok (.iload 4, 2) := by decide +kernel
theorem dL_isBook_209 : decode cL_isBook 209 = .ok (.iload 5, 2) := by decide +kernel
theorem dL_isBook_211 : decode cL_isBook 211 = .ok (.iload 9, 2) := by decide +kernel
theorem dL_isBook_213 : decode cL_isBook 213 = .ok (.invokevirtual 105, 3) := by decide +kernel
theorem dL_isBook_216 : decode cL_isBook 216 = .ok (.aload_n 0, 1) := by decide +kernel
theorem dL_isBook_217 : decode cL_isBook 217 = .ok (.aload_n 1, 1) := by decide +kernel
theorem dL_isBook_218 : decode cL_isBook 218 = .ok (.iload 4, 2) := by decide +kernel
theorem dL_isBook_220 : decode cL_isBook 220 = .ok (.iload 5, 2) := by decide +kernel
theorem dL_isBook_222 : decode cL_isBook 222 = .ok (.iload 9, 2) := by decide +kernel
theorem dL_isBook_224 : decode cL_isBook 224 = .ok (.invokestatic 97, 3) := by decide +kernel
theorem dL_isBook_227 : decode cL_isBook 227 = .ok (.if_icmp .ne 7, 3) := by decide +kernel
theorem dL_isBook_230 : decode cL_isBook 230 = .ok (.iconst 1, 1) := by decide +kernel
theorem dL_isBook_231 : decode cL_isBook 231 = .ok (.goto 4, 3) := by decide +kernel
theorem dL_isBook_234 : decode cL_isBook 234 = .ok (.iconst 0, 1) := by decide +kernel
theorem dL_isBook_235 : decode cL_isBook 235 = .ok (.ireturn, 1) := by decide +kernel
