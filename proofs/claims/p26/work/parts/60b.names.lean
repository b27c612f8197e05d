set_option maxRecDepth 20000 in
theorem ggL_adds_X4_addLine : GoodIn wsL_adds wsX4_addLine := goodIn_ca (goodIn_ca (goodIn_r _ [5, 6, 7, 8, 4, 9, 10, 11, 12, 13, 14, 15, 16, 17, 18, 19, 20, 21, 22, 23, 24, 25, 26, 27, 28, 29, 30, 31, 32, 33, 106, 107, 108, 109, 110, 111, 112, 113, 114, 115, 116, 117, 118, 119, 120, 121, 122, 123, 124, 125, 126, 127] (by decide +kernel) (by decide +kernel)) (goodIn_sub (fun _ h => List.mem_cons_of_mem _ (List.mem_append_left _ (List.mem_append_left _ (List.mem_append_left _ (List.mem_append_right _ h))))) (by decide +kernel))) (goodIn_sub (fun _ h => List.mem_cons_of_mem _ (List.mem_append_left _ (List.mem_append_left _ (List.mem_append_right _ h)))) (by decide +kernel))
set_option maxRecDepth 20000 in
theorem gL_adds_X4_addLine : GoodIn wsL_adds (wsV RL 72 RX4 yX4_addLine wsX4_addLine) := goodIn_app (goodIn_of _ (by decide +kernel)) ggL_adds_X4_addLine
set_option maxRecDepth 20000 in
theorem ggL_adds_X4_keyOf : GoodIn wsL_adds wsX4_keyOf := goodIn_ca (goodIn_r _ [37, 38, 39, 40, 4, 41, 42, 43, 6, 21, 118, 119, 120, 121, 122, 123, 124, 125, 126, 127, 106, 107, 108, 109, 110, 111, 112, 113, 114, 115, 116, 117] (by decide +kernel) (by decide +kernel)) (goodIn_sub (fun _ h => List.mem_cons_of_mem _ (List.mem_append_left _ (List.mem_append_right _ h))) (by decide +kernel))
set_option maxRecDepth 20000 in
theorem gL_adds_X4_keyOf : GoodIn wsL_adds (wsV RL 38 RX4 yX4_keyOf wsX4_keyOf) := goodIn_app (goodIn_of _ (by decide +kernel)) ggL_adds_X4_keyOf
set_option maxRecDepth 20000 in
theorem ggL_adds_X4_seen : GoodIn wsL_adds wsX4_seen := goodIn_ca (goodIn_r _ [47, 38, 39, 40, 4, 41, 42, 43, 6, 21, 118, 119, 120, 121, 122, 123, 124, 125, 126, 127, 106, 107, 108, 109, 110, 111, 112, 113, 114, 115, 116, 117] (by decide +kernel) (by decide +kernel)) (goodIn_sub (fun _ h => List.mem_cons_of_mem _ (List.mem_append_left _ (List.mem_append_right _ h))) (by decide +kernel))
set_option maxRecDepth 20000 in
theorem gL_adds_X4_seen : GoodIn wsL_adds (wsV RL 75 RX4 yX4_seen wsX4_seen) := goodIn_app (goodIn_of _ (by decide +kernel)) ggL_adds_X4_seen
set_option maxRecDepth 20000 in
theorem ggL_adds_X4_end : GoodIn wsL_adds wsX4_end := goodIn_ca (goodIn_r _ [51, 38, 39, 40, 4, 41, 42, 43, 6, 21, 118, 119, 120, 121, 122, 123, 124, 125, 126, 127, 106, 107, 108, 109, 110, 111, 112, 113, 114, 115, 116, 117] (by decide +kernel) (by decide +kernel)) (goodIn_sub (fun _ h => List.mem_cons_of_mem _ (List.mem_append_left _ (List.mem_append_right _ h))) (by decide +kernel))
set_option maxRecDepth 20000 in
theorem gL_adds_X4_end : GoodIn wsL_adds (wsV RL 78 RX4 yX4_end wsX4_end) := goodIn_app (goodIn_of _ (by decide +kernel)) ggL_adds_X4_end
set_option maxRecDepth 20000 in
theorem ggL_adds_X4_matches : GoodIn wsL_adds wsX4_matches := goodIn_ca (goodIn_ca (goodIn_r _ [55, 38, 39, 40, 4, 41, 42, 43, 6, 21, 56, 57, 58, 7, 8, 9, 10, 11, 59, 60, 61, 26, 62, 33, 63, 64, 65, 32, 66, 67, 68, 69, 70, 71, 72, 73, 74, 75, 76, 77, 78, 79, 106, 107, 108, 109, 110, 111, 112, 113, 114, 115, 116, 117, 118, 119, 120, 121, 122, 123, 124, 125, 126, 127, 128, 129, 130, 131] (by decide +kernel) (by decide +kernel)) (goodIn_sub (fun _ h => List.mem_cons_of_mem _ (List.mem_append_left _ (List.mem_append_right _ h))) (by decide +kernel))) (goodIn_sub (fun _ h => List.mem_cons_of_mem _ (List.mem_append_left _ (List.mem_append_left _ (List.mem_append_left _ (List.mem_append_right _ h))))) (by decide +kernel))
set_option maxRecDepth 20000 in
theorem gL_adds_X4_matches : GoodIn wsL_adds (wsV RL 30 RX4 yX4_matches wsX4_matches) := goodIn_app (goodIn_of _ (by decide +kernel)) ggL_adds_X4_matches
set_option maxRecDepth 20000 in
theorem ggL_adds_X4_linesOf : GoodIn wsL_adds wsX4_linesOf := goodIn_ca (goodIn_r _ [83, 6, 21, 12, 13, 4, 14, 7, 8, 9, 10, 11, 106, 107, 108, 109, 110, 111, 112, 113, 114, 115, 116, 117, 118, 119, 120, 121, 122, 123, 124, 125, 126, 127] (by decide +kernel) (by decide +kernel)) (goodIn_sub (fun _ h => List.mem_cons_of_mem _ (List.mem_append_left _ (List.mem_append_left _ (List.mem_append_left _ (List.mem_append_right _ h))))) (by decide +kernel))
set_option maxRecDepth 20000 in
theorem gL_adds_X4_linesOf : GoodIn wsL_adds (wsV RL 81 RX4 yX4_linesOf wsX4_linesOf) := goodIn_app (goodIn_of _ (by decide +kernel)) ggL_adds_X4_linesOf
set_option maxRecDepth 20000 in
theorem ggL_adds_X4_addPattern : GoodIn wsL_adds wsX4_addPattern := goodIn_ca (goodIn_ca (goodIn_ca (goodIn_r _ [87, 38, 39, 40, 4, 41, 42, 43, 6, 21, 56, 57, 58, 7, 8, 9, 10, 11, 88, 89, 90, 26, 91, 92, 20, 33, 32, 66, 93, 94, 73, 95, 96, 97, 98, 99, 100, 77, 76, 75, 101, 106, 107, 108, 109, 110, 111, 112, 113, 114, 115, 116, 117, 118, 119, 120, 121, 122, 123, 124, 125, 126, 127, 128, 129, 130, 131] (by decide +kernel) (by decide +kernel)) (goodIn_sub (fun _ h => List.mem_cons_of_mem _ (List.mem_append_left _ (List.mem_append_right _ h))) (by decide +kernel))) (goodIn_sub (fun _ h => List.mem_cons_of_mem _ (List.mem_append_left _ (List.mem_append_left _ (List.mem_append_left _ (List.mem_append_right _ h))))) (by decide +kernel))) (goodIn_sub (fun _ h => List.mem_cons_of_mem _ (List.mem_append_right _ h)) (by decide +kernel))
set_option maxRecDepth 20000 in
theorem gL_adds_X4_addPattern : GoodIn wsL_adds (wsV RL 85 RX4 yX4_addPattern wsX4_addPattern) := goodIn_app (goodIn_of _ (by decide +kernel)) ggL_adds_X4_addPattern
set_option maxRecDepth 20000 in
theorem ggL_adds_L_name : GoodIn wsL_adds wsL_name := goodIn_r _ [105] (by decide +kernel) (by decide +kernel)
set_option maxRecDepth 20000 in
theorem gL_adds_L_name : GoodIn wsL_adds (va_wsS RL 10 yL_name wsL_name) := goodIn_app (goodIn_of _ (by decide +kernel)) ggL_adds_L_name
theorem dL_adds_0 : decode cL_adds 0 = .ok (.aload_n 1, 1) := by decide +kernel
theorem dL_adds_1 : decode cL_adds 1 = .ok (.iconst 1, 1) := by decide +kernel
theorem dL_adds_2 : decode cL_adds 2 = .ok (.iaload, 1) := by decide +kernel
theorem dL_adds_3 : decode cL_adds 3 = .ok (.istore 7, 2) := by decide +kernel
theorem dL_adds_5 : decode cL_adds 5 = .ok (.iload_n 3, 1) := by decide +kernel
theorem dL_adds_6 : decode cL_adds 6 = .ok (.bipush 7, 2) := by decide +kernel
theorem dL_adds_8 : decode cL_adds 8 = .ok (.irem, 1) := by decide +kernel
theorem dL_adds_9 : decode cL_adds 9 = .ok (.ifCond .ne 7, 3) := by decide +kernel
theorem dL_adds_12 : decode cL_adds 12 = .ok (.iconst 1, 1) := by decide +kernel
theorem dL_adds_13 : decode cL_adds 13 = .ok (.goto 16, 3) := by decide +kernel
theorem dL_adds_16 : decode cL_adds 16 = .ok (.iload_n 3, 1) := by decide +kernel
theorem dL_adds_17 : decode cL_adds 17 = .ok (.bipush 7, 2) := by decide +kernel
theorem dL_adds_19 : decode cL_adds 19 = .ok (.irem, 1) := by decide +kernel
theorem dL_adds_20 : decode cL_adds 20 = .ok (.iconst 1, 1) := by decide +kernel
theorem dL_adds_21 : decode cL_adds 21 = .ok (.if_icmp .ne 7, 3) := by decide +kernel
theorem dL_adds_24 : decode cL_adds 24 = .ok (.iconst 2, 1) := by decide +kernel
theorem dL_adds_25 : decode cL_adds 25 = .ok (.goto 4, 3) := by decide +kernel
theorem dL_adds_28 : decode cL_adds 28 = .ok (.iconst 0, 1) := by decide +kernel
theorem dL_adds_29 : decode cL_adds 29 = .ok (.istore 8, 2) := by decide +kernel
theorem dL_adds_31 : decode cL_adds 31 = .ok (.iload_n 3, 1) := by decide +kernel
theorem dL_adds_32 : decode cL_adds 32 = .ok (.bipush 14, 2) := by decide +kernel
theorem dL_adds_34 : decode cL_adds 34 = .ok (.idiv, 1) := by decide +kernel
theorem dL_adds_35 : decode cL_adds 35 = .ok (.bipush 16, 2) := by decide +kernel
theorem dL_adds_37 : decode cL_adds 37 = .ok (.irem, 1) := by decide +kernel
theorem dL_adds_38 : decode cL_adds 38 = .ok (.istore 9, 2) := by decide +kernel
theorem dL_adds_40 : decode cL_adds 40 = .ok (.aload_n 1, 1) := by decide +kernel
theorem dL_adds_41 : decode cL_adds 41 = .ok (.iconst 1, 1) := by decide +kernel
theorem dL_adds_42 : decode cL_adds 42 = .ok (.dup2, 1) := by decide +kernel
theorem dL_adds_43 : decode cL_adds 43 = .ok (.iaload, 1) := by decide +kernel
theorem dL_adds_44 : decode cL_adds 44 = .ok (.iconst 1, 1) := by decide +kernel
theorem dL_adds_45 : decode cL_adds 45 = .ok (.iadd, 1) := by decide +kernel
theorem dL_adds_46 : decode cL_adds 46 = .ok (.iastore, 1) := by decide +kernel
theorem dL_adds_47 : decode cL_adds 47 = .ok (.aload_n 0, 1) := by decide +kernel
theorem dL_adds_48 : decode cL_adds 48 = .ok (.iload 8, 2) := by decide +kernel
theorem dL_adds_50 : decode cL_adds 50 = .ok (.iload 6, 2) := by decide +kernel
theorem dL_adds_52 : decode cL_adds 52 = .ok (.invokevirtual 72, 3) := by decide +kernel
theorem dL_adds_55 : decode cL_adds 55 = .ok (.iload 7, 2) := by decide +kernel
theorem dL_adds_57 : decode cL_adds 57 = .ok (.if_icmp .ne 76, 3) := by decide +kernel
theorem dL_adds_60 : decode cL_adds 60 = .ok (.aload_n 0, 1) := by decide +kernel
theorem dL_adds_61 : decode cL_adds 61 = .ok (.iload 7, 2) := by decide +kernel
theorem dL_adds_63 : decode cL_adds 63 = .ok (.invokevirtual 38, 3) := by decide +kernel
theorem dL_adds_66 : decode cL_adds 66 = .ok (.sipush 1000, 3) := by decide +kernel
theorem dL_adds_69 : decode cL_adds 69 = .ok (.iload 8, 2) := by decide +kernel
theorem dL_adds_71 : decode cL_adds 71 = .ok (.imul, 1) := by decide +kernel
theorem dL_adds_72 : decode cL_adds 72 = .ok (.iload 6, 2) := by decide +kernel
theorem dL_adds_74 : decode cL_adds 74 = .ok (.iadd, 1) := by decide +kernel
theorem dL_adds_75 : decode cL_adds 75 = .ok (.if_icmp .ne 58, 3) := by decide +kernel
theorem dL_adds_78 : decode cL_adds 78 = .ok (.aload_n 0, 1) := by decide +kernel
theorem dL_adds_79 : decode cL_adds 79 = .ok (.iload 7, 2) := by decide +kernel
theorem dL_adds_81 : decode cL_adds 81 = .ok (.invokevirtual 75, 3) := by decide +kernel
theorem dL_adds_84 : decode cL_adds 84 = .ok (.aload_n 1, 1) := by decide +kernel
theorem dL_adds_85 : decode cL_adds 85 = .ok (.iconst 0, 1) := by decide +kernel
theorem dL_adds_86 : decode cL_adds 86 = .ok (.iaload, 1) := by decide +kernel
theorem dL_adds_87 : decode cL_adds 87 = .ok (.if_icmp .ne 46, 3) := by decide +kernel
theorem dL_adds_90 : decode cL_adds 90 = .ok (.aload_n 0, 1) := by decide +kernel
theorem dL_adds_91 : decode cL_adds 91 = .ok (.iload 7, 2) := by decide +kernel
theorem dL_adds_93 : decode cL_adds 93 = .ok (.invokevirtual 78, 3) := by decide +kernel
theorem dL_adds_96 : decode cL_adds 96 = .ok (.iconst (-1), 1) := by decide +kernel
theorem dL_adds_97 : decode cL_adds 97 = .ok (.if_icmp .ne 36, 3) := by decide +kernel
theorem dL_adds_100 : decode cL_adds 100 = .ok (.aload_n 0, 1) := by decide +kernel
theorem dL_adds_101 : decode cL_adds 101 = .ok (.iload 7, 2) := by decide +kernel
theorem dL_adds_103 : decode cL_adds 103 = .ok (.iload 4, 2) := by decide +kernel
theorem dL_adds_105 : decode cL_adds 105 = .ok (.iload 5, 2) := by decide +kernel
theorem dL_adds_107 : decode cL_adds 107 = .ok (.invokevirtual 30, 3) := by decide +kernel
theorem dL_adds_110 : decode cL_adds 110 = .ok (.ifCond .ne 23, 3) := by decide +kernel
theorem dL_adds_113 : decode cL_adds 113 = .ok (.aload_n 0, 1) := by decide +kernel
theorem dL_adds_114 : decode cL_adds 114 = .ok (.iload 6, 2) := by decide +kernel
theorem dL_adds_116 : decode cL_adds 116 = .ok (.invokevirtual 81, 3) := by decide +kernel
theorem dL_adds_119 : decode cL_adds 119 = .ok (.iload 7, 2) := by decide +kernel
theorem dL_adds_121 : decode cL_adds 121 = .ok (.lshr, 1) := by decide +kernel
theorem dL_adds_122 : decode cL_adds 122 = .ok (.lconst 1, 1) := by decide +kernel
theorem dL_adds_123 : decode cL_adds 123 = .ok (.land, 1) := by decide +kernel
theorem dL_adds_124 : decode cL_adds 124 = .ok (.lconst 1, 1) := by decide +kernel
theorem dL_adds_125 : decode cL_adds 125 = .ok (.lcmp, 1) := by decide +kernel
theorem dL_adds_126 : decode cL_adds 126 = .ok (.ifCond .ne 7, 3) := by decide +kernel
theorem dL_adds_129 : decode cL_adds 129 = .ok (.iconst 1, 1) := by decide +kernel
theorem dL_adds_130 : decode cL_adds 130 = .ok (.goto 4, 3) := by decide +kernel
theorem dL_adds_133 : decode cL_adds 133 = .ok (.iconst 0, 1) := by decide +kernel
theorem dL_adds_134 : decode cL_adds 134 = .ok (.istore 10, 2) := by decide +kernel
theorem dL_adds_136 : decode cL_adds 136 = .ok (.iload 10, 2) := by decide +kernel
theorem dL_adds_138 : decode cL_adds 138 = .ok (.ifCond .eq 73, 3) := by decide +kernel
theorem dL_adds_141 : decode cL_adds 141 = .ok (.aload_n 0, 1) := by decide +kernel
theorem dL_adds_142 : decode cL_adds 142 = .ok (.iload 7, 2) := by decide +kernel
theorem dL_adds_144 : decode cL_adds 144 = .ok (.iload 4, 2) := by decide +kernel
theorem dL_adds_146 : decode cL_adds 146 = .ok (.iload 9, 2) := by decide +kernel
theorem dL_adds_148 : decode cL_adds 148 = .ok (.iload 5, 2) := by decide +kernel
theorem dL_adds_150 : decode cL_adds 150 = .ok (.iconst 0, 1) := by decide +kernel
theorem dL_adds_151 : decode cL_adds 151 = .ok (.invokevirtual 85, 3) := by decide +kernel
theorem dL_adds_154 : decode cL_adds 154 = .ok (.iconst 1, 1) := by decide +kernel
theorem dL_adds_155 : decode cL_adds 155 = .ok (.if_icmp .ne 56, 3) := by decide +kernel
theorem dL_adds_158 : decode cL_adds 158 = .ok (.aload_n 0, 1) := by decide +kernel
theorem dL_adds_159 : decode cL_adds 159 = .ok (.iload 7, 2) := by decide +kernel
theorem dL_adds_161 : decode cL_adds 161 = .ok (.iload 4, 2) := by decide +kernel
theorem dL_adds_163 : decode cL_adds 163 = .ok (.iload 5, 2) := by decide +kernel
theorem dL_adds_165 : decode cL_adds 165 = .ok (.invokevirtual 30, 3) := by decide +kernel
theorem dL_adds_168 : decode cL_adds 168 = .ok (.ifCond .eq 43, 3) := by decide +kernel
theorem dL_adds_171 : decode cL_adds 171 = .ok (.aload_n 0, 1) := by decide +kernel
theorem dL_adds_172 : decode cL_adds 172 = .ok (.iload 7, 2) := by decide +kernel
theorem dL_adds_174 : decode cL_adds 174 = .ok (.iload 4, 2) := by decide +kernel
theorem dL_adds_176 : decode cL_adds 176 = .ok (.iload 5, 2) := by decide +kernel
theorem dL_adds_178 : decode cL_adds 178 = .ok (.iconst 2, 1) := by decide +kernel
theorem dL_adds_179 : decode cL_adds 179 = .ok (.iadd, 1) := by decide +kernel
theorem dL_adds_180 : decode cL_adds 180 = .ok (.invokevirtual 30, 3) := by decide +kernel
theorem dL_adds_183 : decode cL_adds 183 = .ok (.ifCond .ne 28, 3) := by decide +kernel
theorem dL_adds_186 : decode cL_adds 186 = .ok (.iload 9, 2) := by decide +kernel
theorem dL_adds_188 : decode cL_adds 188 = .ok (.ifCond .gt 19, 3) := by decide +kernel
theorem dL_adds_191 : decode cL_adds 191 = .ok (.aload_n 0, 1) := by decide +kernel
theorem dL_adds_192 : decode cL_adds 192 = .ok (.iload 7, 2) := by decide +kernel
theorem dL_adds_194 : decode cL_adds 194 = .ok (.iload_n 2, 1) := by decide +kernel
theorem dL_adds_195 : decode cL_adds 195 = .ok (.sipush 10000, 3) := by decide +kernel
theorem dL_adds_198 : decode cL_adds 198 = .ok (.irem, 1) := by decide +kernel
theorem dL_adds_199 : decode cL_adds 199 = .ok (.iload 5, 2) := by decide +kernel
theorem dL_adds_201 : decode cL_adds 201 = .ok (.invokevirtual 30, 3) := by decide +kernel
theorem dL_adds_204 : decode cL_adds 204 = .ok (.ifCond .eq 7, 3) := by decide +kernel
theorem dL_adds_207 : decode cL_adds 207 = .ok (.iconst 1, 1) := by decide +kernel
theorem dL_adds_208 : decode cL_adds 208 = .ok (.goto 4, 3) := by decide +kernel
theorem dL_adds_211 : decode cL_adds 211 = .ok (.iconst 0, 1) := by decide +kernel
theorem dL_adds_212 : decode cL_adds 212 = .ok (.istore 10, 2) := by decide +kernel
theorem dL_adds_214 : decode cL_adds 214 = .ok (.iload_n 2, 1) := by decide +kernel
theorem dL_adds_215 : decode cL_adds 215 = .ok (.iconst 4, 1) := by decide +kernel
theorem dL_adds_216 : decode cL_adds 216 = .ok (.irem, 1) := by decide +kernel
theorem dL_adds_217 : decode cL_adds 217 = .ok (.ifCond .ne 105, 3) := by decide +kernel
theorem dL_adds_220 : decode cL_adds 220 = .ok (.iload_n 2, 1) := by decide +kernel
theorem dL_adds_221 : decode cL_adds 221 = .ok (.iconst 4, 1) := by decide +kernel
theorem dL_adds_222 : decode cL_adds 222 = .ok (.idiv, 1) := by decide +kernel
theorem dL_adds_223 : decode cL_adds 223 = .ok (.invokestatic 10, 3) := by decide +kernel
theorem dL_adds_226 : decode cL_adds 226 = .ok (.istore 11, 2) := by decide +kernel
theorem dL_adds_228 : decode cL_adds 228 = .ok (.aload_n 0, 1) := by decide +kernel
theorem dL_adds_229 : decode cL_adds 229 = .ok (.iload 7, 2) := by decide +kernel
theorem dL_adds_231 : decode cL_adds 231 = .ok (.iload 11, 2) := by decide +kernel
theorem dL_adds_233 : decode cL_adds 233 = .ok (.iload 5, 2) := by decide +kernel
theorem dL_adds_235 : decode cL_adds 235 = .ok (.invokevirtual 30, 3) := by decide +kernel
theorem dL_adds_238 : decode cL_adds 238 = .ok (.istore 12, 2) := by decide +kernel
theorem dL_adds_240 : decode cL_adds 240 = .ok (.iload 10, 2) := by decide +kernel
theorem dL_adds_242 : decode cL_adds 242 = .ok (.ifCond .eq 77, 3) := by decide +kernel
theorem dL_adds_245 : decode cL_adds 245 = .ok (.aload_n 0, 1) := by decide +kernel
theorem dL_adds_246 : decode cL_adds 246 = .ok (.iload 7, 2) := by decide +kernel
theorem dL_adds_248 : decode cL_adds 248 = .ok (.iload 4, 2) := by decide +kernel
theorem dL_adds_250 : decode cL_adds 250 = .ok (.bipush 15, 2) := by decide +kernel
theorem dL_adds_252 : decode cL_adds 252 = .ok (.iload 5, 2) := by decide +kernel
theorem dL_adds_254 : decode cL_adds 254 = .ok (.iconst 1, 1) := by decide +kernel
theorem dL_adds_255 : decode cL_adds 255 = .ok (.invokevirtual 85, 3) := by decide +kernel
theorem dL_adds_258 : decode cL_adds 258 = .ok (.iconst 2, 1) := by decide +kernel
theorem dL_adds_259 : decode cL_adds 259 = .ok (.if_icmp .ne 60, 3) := by decide +kernel
theorem dL_adds_262 : decode cL_adds 262 = .ok (.aload_n 0, 1) := by decide +kernel
theorem dL_adds_263 : decode cL_adds 263 = .ok (.iload 7, 2) := by decide +kernel
theorem dL_adds_265 : decode cL_adds 265 = .ok (.iload 4, 2) := by decide +kernel
theorem dL_adds_267 : decode cL_adds 267 = .ok (.iload 5, 2) := by decide +kernel
theorem dL_adds_269 : decode cL_adds 269 = .ok (.invokevirtual 30, 3) := by decide +kernel
theorem dL_adds_272 : decode cL_adds 272 = .ok (.ifCond .ne 47, 3) := by decide +kernel
theorem dL_adds_275 : decode cL_adds 275 = .ok (.iload 12, 2) := by decide +kernel
theorem dL_adds_277 : decode cL_adds 277 = .ok (.ifCond .ne 16, 3) := by decide +kernel
theorem dL_adds_280 : decode cL_adds 280 = .ok (.aload_n 0, 1) := by decide +kernel
theorem dL_adds_281 : decode cL_adds 281 = .ok (.iload 7, 2) := by decide +kernel
theorem dL_adds_283 : decode cL_adds 283 = .ok (.iload 11, 2) := by decide +kernel
theorem dL_adds_285 : decode cL_adds 285 = .ok (.iload 5, 2) := by decide +kernel
theorem dL_adds_287 : decode cL_adds 287 = .ok (.invokevirtual 30, 3) := by decide +kernel
theorem dL_adds_290 : decode cL_adds 290 = .ok (.ifCond .ne 29, 3) := by decide +kernel
theorem dL_adds_293 : decode cL_adds 293 = .ok (.iload 11, 2) := by decide +kernel
theorem dL_adds_295 : decode cL_adds 295 = .ok (.iload 4, 2) := by decide +kernel
theorem dL_adds_297 : decode cL_adds 297 = .ok (.if_icmp .eq 18, 3) := by decide +kernel
theorem dL_adds_300 : decode cL_adds 300 = .ok (.aload_n 0, 1) := by decide +kernel
theorem dL_adds_301 : decode cL_adds 301 = .ok (.iload 7, 2) := by decide +kernel
theorem dL_adds_303 : decode cL_adds 303 = .ok (.iload 11, 2) := by decide +kernel
theorem dL_adds_305 : decode cL_adds 305 = .ok (.iload 5, 2) := by decide +kernel
theorem dL_adds_307 : decode cL_adds 307 = .ok (.invokevirtual 30, 3) := by decide +kernel
theorem dL_adds_310 : decode cL_adds 310 = .ok (.iload 12, 2) := by decide +kernel
theorem dL_adds_312 : decode cL_adds 312 = .ok (.if_icmp .ne 7, 3) := by decide +kernel
theorem dL_adds_315 : decode cL_adds 315 = .ok (.iconst 1, 1) := by decide +kernel
theorem dL_adds_316 : decode cL_adds 316 = .ok (.goto 4, 3) := by decide +kernel
theorem dL_adds_319 : decode cL_adds 319 = .ok (.iconst 0, 1) := by decide +kernel
theorem dL_adds_320 : decode cL_adds 320 = .ok (.istore 10, 2) := by decide +kernel
theorem dL_adds_322 : decode cL_adds 322 = .ok (.iload_n 2, 1) := by decide +kernel
theorem dL_adds_323 : decode cL_adds 323 = .ok (.iconst 5, 1) := by decide +kernel
theorem dL_adds_324 : decode cL_adds 324 = .ok (.irem, 1) := by decide +kernel
theorem dL_adds_325 : decode cL_adds 325 = .ok (.ifCond .ne 60, 3) := by decide +kernel
theorem dL_adds_328 : decode cL_adds 328 = .ok (.iload 10, 2) := by decide +kernel
theorem dL_adds_330 : decode cL_adds 330 = .ok (.ifCond .eq 52, 3) := by decide +kernel
theorem dL_adds_333 : decode cL_adds 333 = .ok (.aload_n 0, 1) := by decide +kernel
theorem dL_adds_334 : decode cL_adds 334 = .ok (.iload 7, 2) := by decide +kernel
theorem dL_adds_336 : decode cL_adds 336 = .ok (.iload_n 3, 1) := by decide +kernel
theorem dL_adds_337 : decode cL_adds 337 = .ok (.sipush 10000, 3) := by decide +kernel
theorem dL_adds_340 : decode cL_adds 340 = .ok (.irem, 1) := by decide +kernel
theorem dL_adds_341 : decode cL_adds 341 = .ok (.iconst 0, 1) := by decide +kernel
theorem dL_adds_342 : decode cL_adds 342 = .ok (.iconst 3, 1) := by decide +kernel
theorem dL_adds_343 : decode cL_adds 343 = .ok (.iconst 0, 1) := by decide +kernel
theorem dL_adds_344 : decode cL_adds 344 = .ok (.invokevirtual 85, 3) := by decide +kernel
theorem dL_adds_347 : decode cL_adds 347 = .ok (.iconst 2, 1) := by decide +kernel
theorem dL_adds_348 : decode cL_adds 348 = .ok (.if_icmp .lt 34, 3) := by decide +kernel
theorem dL_adds_351 : decode cL_adds 351 = .ok (.aload_n 0, 1) := by decide +kernel
theorem dL_adds_352 : decode cL_adds 352 = .ok (.iload 7, 2) := by decide +kernel
theorem dL_adds_354 : decode cL_adds 354 = .ok (.iload 4, 2) := by decide +kernel
theorem dL_adds_356 : decode cL_adds 356 = .ok (.iconst 3, 1) := by decide +kernel
theorem dL_adds_357 : decode cL_adds 357 = .ok (.invokevirtual 30, 3) := by decide +kernel
theorem dL_adds_360 : decode cL_adds 360 = .ok (.ifCond .eq 22, 3) := by decide +kernel
theorem dL_adds_363 : decode cL_adds 363 = .ok (.aload_n 0, 1) := by decide +kernel
theorem dL_adds_364 : decode cL_adds 364 = .ok (.iload 7, 2) := by decide +kernel
theorem dL_adds_366 : decode cL_adds 366 = .ok (.iload_n 2, 1) := by decide +kernel
theorem dL_adds_367 : decode cL_adds 367 = .ok (.sipush 10000, 3) := by decide +kernel
theorem dL_adds_370 : decode cL_adds 370 = .ok (.irem, 1) := by decide +kernel
theorem dL_adds_371 : decode cL_adds 371 = .ok (.iconst 3, 1) := by decide +kernel
theorem dL_adds_372 : decode cL_adds 372 = .ok (.invokevirtual 30, 3) := by decide +kernel
theorem dL_adds_375 : decode cL_adds 375 = .ok (.ifCond .eq 7, 3) := by decide +kernel
theorem dL_adds_378 : decode cL_adds 378 = .ok (.iconst 1, 1) := by decide +kernel
theorem dL_adds_379 : decode cL_adds 379 = .ok (.goto 4, 3) := by decide +kernel
theorem dL_adds_382 : decode cL_adds 382 = .ok (.iconst 0, 1) := by decide +kernel
theorem dL_adds_383 : decode cL_adds 383 = .ok (.istore 10, 2) := by decide +kernel
theorem dL_adds_385 : decode cL_adds 385 = .ok (.iload 10, 2) := by decide +kernel
theorem dL_adds_387 : decode cL_adds 387 = .ok (.ifCond .eq 40, 3) := by decide +kernel
theorem dL_adds_390 : decode cL_adds 390 = .ok (.iload_n 2, 1) := by decide +kernel
theorem dL_adds_391 : decode cL_adds 391 = .ok (.bipush 20, 2) := by decide +kernel
theorem dL_adds_393 : decode cL_adds 393 = .ok (.irem, 1) := by decide +kernel
theorem dL_adds_394 : decode cL_adds 394 = .ok (.ifCond .gt 29, 3) := by decide +kernel
theorem dL_adds_397 : decode cL_adds 397 = .ok (.aload_n 0, 1) := by decide +kernel
theorem dL_adds_398 : decode cL_adds 398 = .ok (.iload 7, 2) := by decide +kernel
theorem dL_adds_400 : decode cL_adds 400 = .ok (.iconst 0, 1) := by decide +kernel
theorem dL_adds_401 : decode cL_adds 401 = .ok (.iconst 0, 1) := by decide +kernel
theorem dL_adds_402 : decode cL_adds 402 = .ok (.iconst 3, 1) := by decide +kernel
theorem dL_adds_403 : decode cL_adds 403 = .ok (.iconst 1, 1) := by decide +kernel
theorem dL_adds_404 : decode cL_adds 404 = .ok (.invokevirtual 85, 3) := by decide +kernel
theorem dL_adds_407 : decode cL_adds 407 = .ok (.iconst 4, 1) := by decide +kernel
theorem dL_adds_408 : decode cL_adds 408 = .ok (.if_icmp .ne 19, 3) := by decide +kernel
theorem dL_adds_411 : decode cL_adds 411 = .ok (.aload_n 0, 1) := by decide +kernel
theorem dL_adds_412 : decode cL_adds 412 = .ok (.iload 7, 2) := by decide +kernel
theorem dL_adds_414 : decode cL_adds 414 = .ok (.iload 4, 2) := by decide +kernel
theorem dL_adds_416 : decode cL_adds 416 = .ok (.iconst 3, 1) := by decide +kernel
theorem dL_adds_417 : decode cL_adds 417 = .ok (.invokevirtual 30, 3) := by decide +kernel
theorem dL_adds_420 : decode cL_adds 420 = .ok (.ifCond .ne 7, 3) := by decide +kernel
theorem dL_adds_423 : decode cL_adds 423 = .ok (.iconst 1, 1) := by decide +kernel
theorem dL_adds_424 : decode cL_adds 424 = .ok (.goto 4, 3) := by decide +kernel
theorem dL_adds_427 : decode cL_adds 427 = .ok (.iconst 0, 1) := by decide +kernel
theorem dL_adds_428 : decode cL_adds 428 = .ok (.ireturn, 1) := by decide +kernel
set_option maxRecDepth 20000 in
theorem ggL_cleans_X4_end : GoodIn wsL_cleans wsX4_end := goodIn_ca (goodIn_r _ [5, 6, 7, 8, 4, 9, 10, 11, 12, 13, 50, 51, 52, 53, 54, 55, 56, 57, 58, 59, 60, 61, 62, 63, 64, 65, 66, 67, 68, 69, 70, 71] (by decide +kernel) (by decide +kernel)) (goodIn_sub (fun _ h => List.mem_cons_of_mem _ (List.mem_append_left _ (List.mem_append_right _ h))) (by decide +kernel))
set_option maxRecDepth 20000 in
theorem gL_cleans_X4_end : GoodIn wsL_cleans (wsV RL 78 RX4 yX4_end wsX4_end) := goodIn_app (goodIn_of _ (by decide +kernel)) ggL_cleans_X4_end
set_option maxRecDepth 20000 in
theorem ggL_cleans_X4_keyOf : GoodIn wsL_cleans wsX4_keyOf := goodIn_ca (goodIn_r _ [17, 6, 7, 8, 4, 9, 10, 11, 12, 13, 50, 51, 52, 53, 54, 55, 56, 57, 58, 59, 60, 61, 62, 63, 64, 65, 66, 67, 68, 69, 70, 71] (by decide +kernel) (by decide +kernel)) (goodIn_sub (fun _ h => List.mem_cons_of_mem _ (List.mem_append_left _ (List.mem_append_right _ h))) (by decide +kernel))
set_option maxRecDepth 20000 in
theorem gL_cleans_X4_keyOf : GoodIn wsL_cleans (wsV RL 38 RX4 yX4_keyOf wsX4_keyOf) := goodIn_app (goodIn_of _ (by decide +kernel)) ggL_cleans_X4_keyOf
set_option maxRecDepth 20000 in
theorem ggL_cleans_X4_seen : GoodIn wsL_cleans wsX4_seen := goodIn_ca (goodIn_r _ [21, 6, 7, 8, 4, 9, 10, 11, 12, 13, 50, 51, 52, 53, 54, 55, 56, 57, 58, 59, 60, 61, 62, 63, 64, 65, 66, 67, 68, 69, 70, 71] (by decide +kernel) (by decide +kernel)) (goodIn_sub (fun _ h => List.mem_cons_of_mem _ (List.mem_append_left _ (List.mem_append_right _ h))) (by decide +kernel))
set_option maxRecDepth 20000 in
theorem gL_cleans_X4_seen : GoodIn wsL_cleans (wsV RL 75 RX4 yX4_seen wsX4_seen) := goodIn_app (goodIn_of _ (by decide +kernel)) ggL_cleans_X4_seen
set_option maxRecDepth 20000 in
theorem ggL_cleans_X4_clean : GoodIn wsL_cleans wsX4_clean := goodIn_ca (goodIn_r _ [25, 12, 13, 26, 27, 4, 28, 29, 30, 31, 32, 33, 34, 35, 36, 37, 38, 39, 40, 41, 42, 43, 44, 45, 60, 61, 62, 63, 64, 65, 66, 67, 68, 69, 70, 71, 50, 51, 52, 53, 54, 55, 56, 57, 58, 59] (by decide +kernel) (by decide +kernel)) (goodIn_sub (fun _ h => List.mem_cons_of_mem _ (List.mem_append_right _ h)) (by decide +kernel))
set_option maxRecDepth 20000 in
theorem gL_cleans_X4_clean : GoodIn wsL_cleans (wsV RL 120 RX4 yX4_clean wsX4_clean) := goodIn_app (goodIn_of _ (by decide +kernel)) ggL_cleans_X4_clean
set_option maxRecDepth 20000 in
theorem ggL_cleans_X4_lines : GoodIn wsL_cleans wsX4_lines := goodIn_r _ [49, 12, 60, 61, 62, 63, 64, 65, 66, 67, 68, 69, 70, 71] (by decide +kernel) (by decide +kernel)
set_option maxRecDepth 20000 in
theorem gL_cleans_X4_lines : GoodIn wsL_cleans (wsV RL 20 RX4 yX4_lines wsX4_lines) := goodIn_app (goodIn_of _ (by decide +kernel)) ggL_cleans_X4_lines
theorem dL_cleans_0 : decode cL_cleans 0 = .ok (.iconst 0, 1) := by decide +kernel
theorem dL_cleans_1 : decode cL_cleans 1 = .ok (.istore_n 3, 1) := by decide +kernel
theorem dL_cleans_2 : decode cL_cleans 2 = .ok (.iconst 0, 1) := by decide +kernel
theorem dL_cleans_3 : decode cL_cleans 3 = .ok (.istore 4, 2) := by decide +kernel
theorem dL_cleans_5 : decode cL_cleans 5 = .ok (.iload 4, 2) := by decide +kernel
theorem dL_cleans_7 : decode cL_cleans 7 = .ok (.aload_n 1, 1) := by decide +kernel
theorem dL_cleans_8 : decode cL_cleans 8 = .ok (.iconst 1, 1) := by decide +kernel
theorem dL_cleans_9 : decode cL_cleans 9 = .ok (.iaload, 1) := by decide +kernel
theorem dL_cleans_10 : decode cL_cleans 10 = .ok (.if_icmp .ge 77, 3) := by decide +kernel
theorem dL_cleans_13 : decode cL_cleans 13 = .ok (.aload_n 0, 1) := by decide +kernel
theorem dL_cleans_14 : decode cL_cleans 14 = .ok (.iload 4, 2) := by decide +kernel
theorem dL_cleans_16 : decode cL_cleans 16 = .ok (.invokevirtual 78, 3) := by decide +kernel
theorem dL_cleans_19 : decode cL_cleans 19 = .ok (.iconst (-1), 1) := by decide +kernel
theorem dL_cleans_20 : decode cL_cleans 20 = .ok (.if_icmp .eq 19, 3) := by decide +kernel
theorem dL_cleans_23 : decode cL_cleans 23 = .ok (.aload_n 0, 1) := by decide +kernel
theorem dL_cleans_24 : decode cL_cleans 24 = .ok (.iload 4, 2) := by decide +kernel
theorem dL_cleans_26 : decode cL_cleans 26 = .ok (.invokevirtual 78, 3) := by decide +kernel
theorem dL_cleans_29 : decode cL_cleans 29 = .ok (.aload_n 1, 1) := by decide +kernel
theorem dL_cleans_30 : decode cL_cleans 30 = .ok (.iconst 0, 1) := by decide +kernel
theorem dL_cleans_31 : decode cL_cleans 31 = .ok (.iaload, 1) := by decide +kernel
theorem dL_cleans_32 : decode cL_cleans 32 = .ok (.if_icmp .gt 7, 3) := by decide +kernel
theorem dL_cleans_35 : decode cL_cleans 35 = .ok (.iconst 1, 1) := by decide +kernel
theorem dL_cleans_36 : decode cL_cleans 36 = .ok (.goto 4, 3) := by decide +kernel
theorem dL_cleans_39 : decode cL_cleans 39 = .ok (.iconst 0, 1) := by decide +kernel
theorem dL_cleans_40 : decode cL_cleans 40 = .ok (.istore 5, 2) := by decide +kernel
theorem dL_cleans_42 : decode cL_cleans 42 = .ok (.iload_n 3, 1) := by decide +kernel
theorem dL_cleans_43 : decode cL_cleans 43 = .ok (.aload_n 0, 1) := by decide +kernel
theorem dL_cleans_44 : decode cL_cleans 44 = .ok (.iload 4, 2) := by decide +kernel
theorem dL_cleans_46 : decode cL_cleans 46 = .ok (.invokevirtual 38, 3) := by decide +kernel
theorem dL_cleans_49 : decode cL_cleans 49 = .ok (.sipush 1000, 3) := by decide +kernel
theorem dL_cleans_52 : decode cL_cleans 52 = .ok (.if_icmp .ge 26, 3) := by decide +kernel
theorem dL_cleans_55 : decode cL_cleans 55 = .ok (.iload 5, 2) := by decide +kernel
theorem dL_cleans_57 : decode cL_cleans 57 = .ok (.ifCond .ne 17, 3) := by decide +kernel
theorem dL_cleans_60 : decode cL_cleans 60 = .ok (.aload_n 1, 1) := by decide +kernel
theorem dL_cleans_61 : decode cL_cleans 61 = .ok (.iconst 0, 1) := by decide +kernel
theorem dL_cleans_62 : decode cL_cleans 62 = .ok (.iaload, 1) := by decide +kernel
theorem dL_cleans_63 : decode cL_cleans 63 = .ok (.aload_n 0, 1) := by decide +kernel
theorem dL_cleans_64 : decode cL_cleans 64 = .ok (.iload 4, 2) := by decide +kernel
theorem dL_cleans_66 : decode cL_cleans 66 = .ok (.invokevirtual 75, 3) := by decide +kernel
theorem dL_cleans_69 : decode cL_cleans 69 = .ok (.isub, 1) := by decide +kernel
theorem dL_cleans_70 : decode cL_cleans 70 = .ok (.iload_n 2, 1) := by decide +kernel
theorem dL_cleans_71 : decode cL_cleans 71 = .ok (.if_icmp .lt 7, 3) := by decide +kernel
theorem dL_cleans_74 : decode cL_cleans 74 = .ok (.iconst 1, 1) := by decide +kernel
theorem dL_cleans_75 : decode cL_cleans 75 = .ok (.goto 4, 3) := by decide +kernel
theorem dL_cleans_78 : decode cL_cleans 78 = .ok (.iconst 0, 1) := by decide +kernel
theorem dL_cleans_79 : decode cL_cleans 79 = .ok (.iadd, 1) := by decide +kernel
theorem dL_cleans_80 : decode cL_cleans 80 = .ok (.istore_n 3, 1) := by decide +kernel
theorem dL_cleans_81 : decode cL_cleans 81 = .ok (.iinc 4 1, 3) := by decide +kernel
theorem dL_cleans_84 : decode cL_cleans 84 = .ok (.goto (-79), 3) := by decide +kernel
theorem dL_cleans_87 : decode cL_cleans 87 = .ok (.aload_n 1, 1) := by decide +kernel
theorem dL_cleans_88 : decode cL_cleans 88 = .ok (.iconst 1, 1) := by decide +kernel
theorem dL_cleans_89 : decode cL_cleans 89 = .ok (.dup2, 1) := by decide +kernel
theorem dL_cleans_90 : decode cL_cleans 90 = .ok (.iaload, 1) := by decide +kernel
theorem dL_cleans_91 : decode cL_cleans 91 = .ok (.iload_n 3, 1) := by decide +kernel
theorem dL_cleans_92 : decode cL_cleans 92 = .ok (.isub, 1) := by decide +kernel
theorem dL_cleans_93 : decode cL_cleans 93 = .ok (.iastore, 1) := by decide +kernel
theorem dL_cleans_94 : decode cL_cleans 94 = .ok (.aload_n 0, 1) := by decide +kernel
theorem dL_cleans_95 : decode cL_cleans 95 = .ok (.iload_n 2, 1) := by decide +kernel
theorem dL_cleans_96 : decode cL_cleans 96 = .ok (.invokevirtual 120, 3) := by decide +kernel
theorem dL_cleans_99 : decode cL_cleans 99 = .ok (.iload_n 3, 1) := by decide +kernel
theorem dL_cleans_100 : decode cL_cleans 100 = .ok (.if_icmp .ne 25, 3) := by decide +kernel
theorem dL_cleans_103 : decode cL_cleans 103 = .ok (.aload_n 0, 1) := by decide +kernel
theorem dL_cleans_104 : decode cL_cleans 104 = .ok (.invokevirtual 20, 3) := by decide +kernel
theorem dL_cleans_107 : decode cL_cleans 107 = .ok (.aload_n 1, 1) := by decide +kernel
theorem dL_cleans_108 : decode cL_cleans 108 = .ok (.iconst 1, 1) := by decide +kernel
theorem dL_cleans_109 : decode cL_cleans 109 = .ok (.iaload, 1) := by decide +kernel
theorem dL_cleans_110 : decode cL_cleans 110 = .ok (.if_icmp .ne 15, 3) := by decide +kernel
theorem dL_cleans_113 : decode cL_cleans 113 = .ok (.aload_n 0, 1) := by decide +kernel
theorem dL_cleans_114 : decode cL_cleans 114 = .ok (.iload_n 2, 1) := by decide +kernel
theorem dL_cleans_115 : decode cL_cleans 115 = .ok (.invokevirtual 120, 3) := by decide +kernel
theorem dL_cleans_118 : decode cL_cleans 118 = .ok (.ifCond .ne 7, 3) := by decide +kernel
theorem dL_cleans_121 : decode cL_cleans 121 = .ok (.iconst 1, 1) := by decide +kernel
theorem dL_cleans_122 : decode cL_cleans 122 = .ok (.goto 4, 3) := by decide +kernel
theorem dL_cleans_125 : decode cL_cleans 125 = .ok (.iconst 0, 1) := by decide +kernel
theorem dL_cleans_126 : decode cL_cleans 126 = .ok (.ireturn, 1) := by decide +kernel
