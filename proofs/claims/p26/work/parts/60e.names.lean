set_option maxRecDepth 20000 in
theorem ggL_step_L_name : GoodIn wsL_step wsL_name := goodIn_r _ [4] (by decide +kernel) (by decide +kernel)
set_option maxRecDepth 20000 in
theorem gL_step_L_name : GoodIn wsL_step (va_wsS RL 10 yL_name wsL_name) := goodIn_app (goodIn_of _ (by decide +kernel)) ggL_step_L_name
set_option maxRecDepth 20000 in
theorem ggL_step_L_adds : GoodIn wsL_step wsL_adds := goodIn_ca (goodIn_ca (goodIn_ca (goodIn_ca (goodIn_r _ [7, 8, 9, 10, 11, 12, 13, 14, 15, 16, 17, 18, 19, 20, 21, 22, 23, 24, 25, 26, 27, 28, 29, 30, 31, 32, 33, 34, 35, 36, 37, 38, 39, 40, 41, 42, 43, 44, 45, 46, 47, 48, 49, 50, 51, 52, 53, 54, 55, 56, 57, 58, 59, 60, 61, 62, 63, 64, 65, 66, 67, 68, 69, 70, 71, 72, 73, 74, 75, 76, 77, 78, 79, 80, 81, 82, 83, 84, 85, 86, 87, 88, 89, 90, 91, 92, 93, 94, 95, 96, 97, 98, 99, 100, 101, 102, 103, 104, 105, 106, 107, 108, 1, 2, 3, 4, 319, 320, 321, 322, 323, 324, 325, 326, 327, 328, 329, 330, 331, 332, 333, 334, 335, 336, 337, 338, 339, 340, 341, 342, 343, 344] (by decide +kernel) (by decide +kernel)) (goodIn_sub (fun _ h => List.mem_cons_of_mem _ (List.mem_append_left _ (List.mem_append_left _ (List.mem_append_left _ (List.mem_append_right _ h))))) (by decide +kernel))) (goodIn_sub (fun _ h => List.mem_cons_of_mem _ (List.mem_append_left _ (List.mem_append_left _ (List.mem_append_right _ h)))) (by decide +kernel))) (goodIn_sub (fun _ h => List.mem_cons_of_mem _ (List.mem_append_left _ (List.mem_append_right _ h))) (by decide +kernel))) (goodIn_sub (fun _ h => List.mem_cons_of_mem _ (List.mem_append_right _ h)) (by decide +kernel))
set_option maxRecDepth 20000 in
theorem gL_step_L_adds : GoodIn wsL_step (va_wsS RL 16 yL_adds wsL_adds) := goodIn_app (goodIn_of _ (by decide +kernel)) ggL_step_L_adds
set_option maxRecDepth 20000 in
theorem ggL_step_X4_lines : GoodIn wsL_step wsX4_lines := goodIn_r _ [112, 13, 319, 320, 321, 322, 323, 324, 325, 326, 327, 328, 329, 330] (by decide +kernel) (by decide +kernel)
set_option maxRecDepth 20000 in
theorem gL_step_X4_lines : GoodIn wsL_step (wsV RL 20 RX4 yX4_lines wsX4_lines) := goodIn_app (goodIn_of _ (by decide +kernel)) ggL_step_X4_lines
set_option maxRecDepth 20000 in
theorem ggL_step_X4_addHashed : GoodIn wsL_step wsX4_addHashed := goodIn_ca (goodIn_ca (goodIn_r _ [116, 13, 14, 15, 11, 16, 17, 18, 19, 20, 21, 63, 64, 65, 22, 23, 24, 25, 26, 27, 28, 29, 30, 31, 32, 33, 34, 35, 36, 37, 38, 39, 40, 117, 118, 119, 120, 72, 71, 70, 74, 75, 76, 319, 320, 321, 322, 323, 324, 325, 326, 327, 328, 329, 330, 331, 332, 333, 334, 335, 336, 337, 338, 339, 340] (by decide +kernel) (by decide +kernel)) (goodIn_sub (fun _ h => List.mem_cons_of_mem _ (List.mem_append_left _ (List.mem_append_left _ (List.mem_append_left _ (List.mem_append_right _ h))))) (by decide +kernel))) (goodIn_sub (fun _ h => List.mem_cons_of_mem _ (List.mem_append_left _ (List.mem_append_left _ (List.mem_append_right _ h)))) (by decide +kernel))
set_option maxRecDepth 20000 in
theorem gL_step_X4_addHashed : GoodIn wsL_step (wsV RL 26 RX4 yX4_addHashed wsX4_addHashed) := goodIn_app (goodIn_of _ (by decide +kernel)) ggL_step_X4_addHashed
set_option maxRecDepth 20000 in
theorem ggL_step_X4_matches : GoodIn wsL_step wsX4_matches := goodIn_ca (goodIn_ca (goodIn_r _ [62, 45, 46, 47, 11, 48, 49, 50, 13, 28, 63, 64, 65, 14, 15, 16, 17, 18, 66, 67, 68, 33, 69, 40, 70, 71, 72, 39, 73, 74, 75, 76, 77, 78, 79, 80, 81, 82, 83, 84, 85, 86, 319, 320, 321, 322, 323, 324, 325, 326, 327, 328, 329, 330, 331, 332, 333, 334, 335, 336, 337, 338, 339, 340, 341, 342, 343, 344] (by decide +kernel) (by decide +kernel)) (goodIn_sub (fun _ h => List.mem_cons_of_mem _ (List.mem_append_left _ (List.mem_append_right _ h))) (by decide +kernel))) (goodIn_sub (fun _ h => List.mem_cons_of_mem _ (List.mem_append_left _ (List.mem_append_left _ (List.mem_append_left _ (List.mem_append_right _ h))))) (by decide +kernel))
set_option maxRecDepth 20000 in
theorem gL_step_X4_matches : GoodIn wsL_step (wsV RL 30 RX4 yX4_matches wsX4_matches) := goodIn_app (goodIn_of _ (by decide +kernel)) ggL_step_X4_matches
set_option maxRecDepth 20000 in
theorem ggL_step_X4_find : GoodIn wsL_step wsX4_find := goodIn_ca (goodIn_r _ [124, 13, 28, 63, 64, 11, 65, 14, 15, 16, 17, 18, 66, 67, 68, 33, 69, 40, 70, 71, 72, 39, 73, 74, 75, 76, 77, 78, 79, 80, 81, 82, 83, 84, 85, 86, 319, 320, 321, 322, 323, 324, 325, 326, 327, 328, 329, 330, 331, 332, 333, 334, 335, 336, 337, 338, 339, 340, 341, 342, 343, 344] (by decide +kernel) (by decide +kernel)) (goodIn_sub (fun _ h => List.mem_cons_of_mem _ (List.mem_append_left _ (List.mem_append_left _ (List.mem_append_left _ (List.mem_append_right _ h))))) (by decide +kernel))
set_option maxRecDepth 20000 in
theorem gL_step_X4_find : GoodIn wsL_step (wsV RL 34 RX4 yX4_find wsX4_find) := goodIn_app (goodIn_of _ (by decide +kernel)) ggL_step_X4_find
set_option maxRecDepth 20000 in
theorem ggL_step_X4_keyOf : GoodIn wsL_step wsX4_keyOf := goodIn_ca (goodIn_r _ [44, 45, 46, 47, 11, 48, 49, 50, 13, 28, 331, 332, 333, 334, 335, 336, 337, 338, 339, 340, 319, 320, 321, 322, 323, 324, 325, 326, 327, 328, 329, 330] (by decide +kernel) (by decide +kernel)) (goodIn_sub (fun _ h => List.mem_cons_of_mem _ (List.mem_append_left _ (List.mem_append_right _ h))) (by decide +kernel))
set_option maxRecDepth 20000 in
theorem gL_step_X4_keyOf : GoodIn wsL_step (wsV RL 38 RX4 yX4_keyOf wsX4_keyOf) := goodIn_app (goodIn_of _ (by decide +kernel)) ggL_step_X4_keyOf
set_option maxRecDepth 20000 in
theorem ggL_step_X4_remove : GoodIn wsL_step wsX4_remove := goodIn_ca (goodIn_r _ [128, 45, 46, 47, 11, 48, 49, 50, 13, 28, 129, 130, 131, 132, 331, 332, 333, 334, 335, 336, 337, 338, 339, 340, 319, 320, 321, 322, 323, 324, 325, 326, 327, 328, 329, 330] (by decide +kernel) (by decide +kernel)) (goodIn_sub (fun _ h => List.mem_cons_of_mem _ (List.mem_append_left _ (List.mem_append_right _ h))) (by decide +kernel))
set_option maxRecDepth 20000 in
theorem gL_step_X4_remove : GoodIn wsL_step (wsV RL 41 RX4 yX4_remove wsX4_remove) := goodIn_app (goodIn_of _ (by decide +kernel)) ggL_step_X4_remove
set_option maxRecDepth 20000 in
theorem ggL_step_L_certificates : GoodIn wsL_step wsL_certificates := goodIn_ca (goodIn_ca (goodIn_r _ [135, 136, 137, 138, 11, 139, 26, 27, 140, 141, 142, 143, 144, 19, 20, 21, 14, 15, 16, 17, 18, 145, 146, 147, 148, 106, 107, 149, 150, 151, 152, 153, 154, 155, 156, 157, 158, 159, 160, 161, 162, 163, 164, 165, 166, 167, 168, 169, 170, 171, 172, 173, 174, 175, 176, 177, 178, 179, 180, 181, 182, 183, 319, 320, 321, 322, 323, 324, 325, 326, 327, 328, 329, 330, 345, 346, 347, 348, 349, 350, 351, 352, 353, 354] (by decide +kernel) (by decide +kernel)) (goodIn_sub (fun _ h => List.mem_cons_of_mem _ (List.mem_append_left _ (List.mem_append_left _ (List.mem_append_right _ h)))) (by decide +kernel))) (goodIn_sub (fun _ h => List.mem_cons_of_mem _ (List.mem_append_left _ (List.mem_append_left _ (List.mem_append_left _ (List.mem_append_right _ h))))) (by decide +kernel))
set_option maxRecDepth 20000 in
theorem gL_step_L_certificates : GoodIn wsL_step (va_wsS RL 44 yL_certificates wsL_certificates) := goodIn_app (goodIn_of _ (by decide +kernel)) ggL_step_L_certificates
set_option maxRecDepth 20000 in
theorem ggL_step_X4_setFirstSight : GoodIn wsL_step wsX4_setFirstSight := goodIn_ca (goodIn_r _ [187, 188, 189, 14, 15, 11, 16, 17, 18, 319, 320, 321, 322, 323, 324, 325, 326, 327, 328, 329, 330] (by decide +kernel) (by decide +kernel)) (goodIn_sub (fun _ h => List.mem_cons_of_mem _ (List.mem_append_left _ (List.mem_append_left _ (List.mem_append_left _ (List.mem_append_right _ h))))) (by decide +kernel))
set_option maxRecDepth 20000 in
theorem gL_step_X4_setFirstSight : GoodIn wsL_step (wsV RL 48 RX4 yX4_setFirstSight wsX4_setFirstSight) := goodIn_app (goodIn_of _ (by decide +kernel)) ggL_step_X4_setFirstSight
set_option maxRecDepth 20000 in
theorem ggL_step_L_answers : GoodIn wsL_step wsL_answers := goodIn_ca (goodIn_ca (goodIn_ca (goodIn_ca (goodIn_r _ [192, 193, 194, 3, 195, 41, 42, 43, 11, 44, 45, 46, 47, 48, 49, 50, 13, 28, 55, 56, 57, 58, 59, 60, 61, 62, 63, 64, 65, 14, 15, 16, 17, 18, 66, 67, 68, 33, 69, 40, 70, 71, 72, 39, 73, 74, 75, 76, 77, 78, 79, 80, 81, 82, 83, 84, 85, 86, 196, 197, 198, 199, 200, 201, 202, 203, 156, 157, 19, 20, 21, 204, 205, 206, 207, 208, 209, 210, 211, 212, 213, 214, 215, 216, 217, 218, 219, 220, 221, 222, 223, 224, 225, 226, 36, 227, 228, 229, 230, 29, 231, 232, 233, 234, 38, 235, 236, 237, 238, 239, 240, 241, 242, 158, 159, 160, 161, 140, 141, 162, 163, 164, 144, 165, 149, 150, 151, 243, 244, 245, 246, 247, 248, 249, 250, 251, 252, 253, 254, 255, 188, 256, 257, 258, 259, 260, 261, 262, 263, 264, 265, 266, 267, 268, 269, 189, 22, 23, 24, 25, 26, 27, 30, 31, 32, 34, 35, 37, 117, 118, 119, 120, 95, 96, 97, 98, 99, 100, 101, 102, 103, 104, 105, 106, 107, 108, 109, 110, 111, 112, 270, 271, 272, 273, 51, 52, 53, 54, 331, 332, 333, 334, 335, 336, 337, 338, 339, 340, 319, 320, 321, 322, 323, 324, 325, 326, 327, 328, 329, 330, 341, 342, 343, 344, 348, 349, 350, 351, 352, 353, 354, 345, 346, 347] (by decide +kernel) (by decide +kernel)) (goodIn_sub (fun _ h => List.mem_cons_of_mem _ (List.mem_append_left _ (List.mem_append_right _ h))) (by decide +kernel))) (goodIn_sub (fun _ h => List.mem_cons_of_mem _ (List.mem_append_left _ (List.mem_append_left _ (List.mem_append_left _ (List.mem_append_right _ h))))) (by decide +kernel))) (goodIn_sub (fun _ h => List.mem_cons_of_mem _ (List.mem_append_left _ (List.mem_append_left _ (List.mem_append_right _ h)))) (by decide +kernel))) (goodIn_sub (fun _ h => List.mem_cons_of_mem _ (List.mem_append_right _ h)) (by decide +kernel))
set_option maxRecDepth 20000 in
theorem gL_step_L_answers : GoodIn wsL_step (va_wsS RL 52 yL_answers wsL_answers) := goodIn_app (goodIn_of _ (by decide +kernel)) ggL_step_L_answers
set_option maxRecDepth 20000 in
theorem ggL_step_L_turns : GoodIn wsL_step wsL_turns := goodIn_ca (goodIn_ca (goodIn_ca (goodIn_r _ [276, 196, 197, 198, 11, 199, 200, 201, 202, 203, 49, 50, 156, 157, 63, 64, 65, 14, 15, 16, 17, 18, 19, 20, 21, 204, 205, 206, 207, 208, 209, 210, 211, 212, 213, 214, 13, 28, 215, 216, 217, 218, 66, 67, 68, 33, 69, 40, 70, 71, 72, 39, 73, 74, 75, 76, 77, 78, 79, 80, 81, 82, 83, 84, 85, 86, 219, 220, 221, 222, 223, 224, 225, 226, 36, 227, 228, 229, 230, 29, 231, 232, 233, 234, 38, 235, 236, 237, 238, 239, 240, 241, 242, 158, 159, 160, 161, 140, 141, 162, 163, 164, 144, 165, 149, 150, 151, 243, 244, 245, 246, 247, 248, 249, 250, 55, 56, 57, 58, 45, 46, 47, 48, 41, 42, 43, 44, 59, 60, 61, 62, 277, 278, 279, 280, 26, 27, 281, 282, 283, 284, 22, 23, 24, 25, 30, 31, 32, 34, 35, 37, 285, 286, 287, 288, 289, 290, 291, 292, 109, 110, 111, 112, 51, 52, 53, 54, 319, 320, 321, 322, 323, 324, 325, 326, 327, 328, 329, 330, 348, 349, 350, 351, 352, 353, 354, 331, 332, 333, 334, 335, 336, 337, 338, 339, 340, 341, 342, 343, 344, 345, 346, 347] (by decide +kernel) (by decide +kernel)) (goodIn_sub (fun _ h => List.mem_cons_of_mem _ (List.mem_append_left _ (List.mem_append_right _ h))) (by decide +kernel))) (goodIn_sub (fun _ h => List.mem_cons_of_mem _ (List.mem_append_left _ (List.mem_append_left _ (List.mem_append_left _ (List.mem_append_right _ h))))) (by decide +kernel))) (goodIn_sub (fun _ h => List.mem_cons_of_mem _ (List.mem_append_left _ (List.mem_append_left _ (List.mem_append_right _ h)))) (by decide +kernel))
set_option maxRecDepth 20000 in
theorem gL_step_L_turns : GoodIn wsL_step (va_wsS RL 55 yL_turns wsL_turns) := goodIn_app (goodIn_of _ (by decide +kernel)) ggL_step_L_turns
set_option maxRecDepth 20000 in
theorem ggL_step_X4_day : GoodIn wsL_step wsX4_day := goodIn_r _ [296, 29, 319, 320, 321, 322, 323, 324, 325, 326, 327, 328, 329, 330] (by decide +kernel) (by decide +kernel)
set_option maxRecDepth 20000 in
theorem gL_step_X4_day : GoodIn wsL_step (wsV RL 58 RX4 yX4_day wsX4_day) := goodIn_app (goodIn_of _ (by decide +kernel)) ggL_step_X4_day
set_option maxRecDepth 20000 in
theorem ggL_step_X4_pass : GoodIn wsL_step wsX4_pass := goodIn_ca (goodIn_ca (goodIn_r _ [300, 26, 27, 29, 14, 15, 11, 16, 17, 18, 319, 320, 321, 322, 323, 324, 325, 326, 327, 328, 329, 330] (by decide +kernel) (by decide +kernel)) (goodIn_sub (fun _ h => List.mem_cons_of_mem _ (List.mem_append_left _ (List.mem_append_left _ (List.mem_append_right _ h)))) (by decide +kernel))) (goodIn_sub (fun _ h => List.mem_cons_of_mem _ (List.mem_append_left _ (List.mem_append_left _ (List.mem_append_left _ (List.mem_append_right _ h))))) (by decide +kernel))
set_option maxRecDepth 20000 in
theorem gL_step_X4_pass : GoodIn wsL_step (wsV RL 61 RX4 yX4_pass wsX4_pass) := goodIn_app (goodIn_of _ (by decide +kernel)) ggL_step_X4_pass
set_option maxRecDepth 20000 in
theorem ggL_step_L_confirms : GoodIn wsL_step wsL_confirms := goodIn_ca (goodIn_ca (goodIn_ca (goodIn_r _ [303, 270, 271, 272, 11, 273, 255, 304, 305, 306, 307, 26, 27, 264, 265, 13, 266, 267, 268, 269, 189, 22, 23, 24, 25, 28, 29, 30, 31, 32, 33, 34, 35, 36, 37, 38, 39, 40, 117, 118, 119, 120, 72, 71, 70, 74, 75, 76, 95, 96, 97, 98, 99, 73, 100, 101, 80, 102, 103, 104, 105, 106, 107, 84, 83, 82, 108, 41, 42, 43, 44, 45, 46, 47, 48, 49, 50, 51, 52, 53, 54, 319, 320, 321, 322, 323, 324, 325, 326, 327, 328, 329, 330, 331, 332, 333, 334, 335, 336, 337, 338, 339, 340, 341, 342, 343, 344] (by decide +kernel) (by decide +kernel)) (goodIn_sub (fun _ h => List.mem_cons_of_mem _ (List.mem_append_left _ (List.mem_append_left _ (List.mem_append_right _ h)))) (by decide +kernel))) (goodIn_sub (fun _ h => List.mem_cons_of_mem _ (List.mem_append_right _ h)) (by decide +kernel))) (goodIn_sub (fun _ h => List.mem_cons_of_mem _ (List.mem_append_left _ (List.mem_append_right _ h))) (by decide +kernel))
set_option maxRecDepth 20000 in
theorem gL_step_L_confirms : GoodIn wsL_step (va_wsS RL 64 yL_confirms wsL_confirms) := goodIn_app (goodIn_of _ (by decide +kernel)) ggL_step_L_confirms
set_option maxRecDepth 20000 in
theorem ggL_step_L_cleans : GoodIn wsL_step wsL_cleans := goodIn_ca (goodIn_ca (goodIn_r _ [310, 55, 56, 57, 11, 58, 45, 46, 47, 48, 49, 50, 13, 28, 41, 42, 43, 44, 51, 52, 53, 54, 311, 312, 313, 314, 14, 15, 16, 17, 18, 315, 316, 317, 318, 29, 231, 232, 233, 33, 234, 38, 129, 130, 131, 132, 109, 110, 111, 112, 331, 332, 333, 334, 335, 336, 337, 338, 339, 340, 319, 320, 321, 322, 323, 324, 325, 326, 327, 328, 329, 330] (by decide +kernel) (by decide +kernel)) (goodIn_sub (fun _ h => List.mem_cons_of_mem _ (List.mem_append_left _ (List.mem_append_right _ h))) (by decide +kernel))) (goodIn_sub (fun _ h => List.mem_cons_of_mem _ (List.mem_append_left _ (List.mem_append_left _ (List.mem_append_left _ (List.mem_append_right _ h))))) (by decide +kernel))
set_option maxRecDepth 20000 in
theorem gL_step_L_cleans : GoodIn wsL_step (va_wsS RL 68 yL_cleans wsL_cleans) := goodIn_app (goodIn_of _ (by decide +kernel)) ggL_step_L_cleans
theorem dL_step_0 : decode cL_step 0 = .ok (.iload_n 3, 1) := by decide +kernel
theorem dL_step_1 : decode cL_step 1 = .ok (.invokestatic 10, 3) := by decide +kernel
theorem dL_step_4 : decode cL_step 4 = .ok (.istore 5, 2) := by decide +kernel
theorem dL_step_6 : decode cL_step 6 = .ok (.iload 4, 2) := by decide +kernel
theorem dL_step_8 : decode cL_step 8 = .ok (.iconst 2, 1) := by decide +kernel
theorem dL_step_9 : decode cL_step 9 = .ok (.irem, 1) := by decide +kernel
theorem dL_step_10 : decode cL_step 10 = .ok (.istore 6, 2) := by decide +kernel
theorem dL_step_12 : decode cL_step 12 = .ok (.iload 4, 2) := by decide +kernel
theorem dL_step_14 : decode cL_step 14 = .ok (.iconst 2, 1) := by decide +kernel
theorem dL_step_15 : decode cL_step 15 = .ok (.idiv, 1) := by decide +kernel
theorem dL_step_16 : decode cL_step 16 = .ok (.iload_n 3, 1) := by decide +kernel
theorem dL_step_17 : decode cL_step 17 = .ok (.iconst 5, 1) := by decide +kernel
theorem dL_step_18 : decode cL_step 18 = .ok (.irem, 1) := by decide +kernel
theorem dL_step_19 : decode cL_step 19 = .ok (.ifCond .ne 9, 3) := by decide +kernel
theorem dL_step_22 : decode cL_step 22 = .ok (.sipush 200, 3) := by decide +kernel
theorem dL_step_25 : decode cL_step 25 = .ok (.goto 5, 3) := by decide +kernel
theorem dL_step_28 : decode cL_step 28 = .ok (.bipush 6, 2) := by decide +kernel
theorem dL_step_30 : decode cL_step 30 = .ok (.irem, 1) := by decide +kernel
theorem dL_step_31 : decode cL_step 31 = .ok (.istore 7, 2) := by decide +kernel
theorem dL_step_33 : decode cL_step 33 = .ok (.aload_n 1, 1) := by decide +kernel
theorem dL_step_34 : decode cL_step 34 = .ok (.iconst 1, 1) := by decide +kernel
theorem dL_step_35 : decode cL_step 35 = .ok (.iaload, 1) := by decide +kernel
theorem dL_step_36 : decode cL_step 36 = .ok (.istore 8, 2) := by decide +kernel
theorem dL_step_38 : decode cL_step 38 = .ok (.iload_n 2, 1) := by decide +kernel
theorem dL_step_39 : decode cL_step 39 = .ok (.bipush 15, 2) := by decide +kernel
theorem dL_step_41 : decode cL_step 41 = .ok (.irem, 1) := by decide +kernel
theorem dL_step_42 : decode cL_step 42 = .ok (.tableswitch 503 0 13 #[70, 70, 70, 70, 70, 100, 224, 302, 315, 364, 364, 364, 399, 430], 70) := by decide +kernel
theorem dL_step_112 : decode cL_step 112 = .ok (.iload 8, 2) := by decide +kernel
theorem dL_step_114 : decode cL_step 114 = .ok (.bipush 40, 2) := by decide +kernel
theorem dL_step_116 : decode cL_step 116 = .ok (.if_icmp .eq 20, 3) := by decide +kernel
theorem dL_step_119 : decode cL_step 119 = .ok (.aload_n 0, 1) := by decide +kernel
theorem dL_step_120 : decode cL_step 120 = .ok (.aload_n 1, 1) := by decide +kernel
theorem dL_step_121 : decode cL_step 121 = .ok (.iload_n 3, 1) := by decide +kernel
theorem dL_step_122 : decode cL_step 122 = .ok (.iload 4, 2) := by decide +kernel
theorem dL_step_124 : decode cL_step 124 = .ok (.iload 5, 2) := by decide +kernel
theorem dL_step_126 : decode cL_step 126 = .ok (.iload 6, 2) := by decide +kernel
theorem dL_step_128 : decode cL_step 128 = .ok (.iload 7, 2) := by decide +kernel
theorem dL_step_130 : decode cL_step 130 = .ok (.invokestatic 16, 3) := by decide +kernel
theorem dL_step_133 : decode cL_step 133 = .ok (.ifCond .eq 7, 3) := by decide +kernel
theorem dL_step_136 : decode cL_step 136 = .ok (.iconst 1, 1) := by decide +kernel
theorem dL_step_137 : decode cL_step 137 = .ok (.goto 4, 3) := by decide +kernel
theorem dL_step_140 : decode cL_step 140 = .ok (.iconst 0, 1) := by decide +kernel
theorem dL_step_141 : decode cL_step 141 = .ok (.ireturn, 1) := by decide +kernel
theorem dL_step_142 : decode cL_step 142 = .ok (.iload 8, 2) := by decide +kernel
theorem dL_step_144 : decode cL_step 144 = .ok (.bipush 40, 2) := by decide +kernel
theorem dL_step_146 : decode cL_step 146 = .ok (.if_icmp .ne 18, 3) := by decide +kernel
theorem dL_step_149 : decode cL_step 149 = .ok (.aload_n 0, 1) := by decide +kernel
theorem dL_step_150 : decode cL_step 150 = .ok (.invokevirtual 20, 3) := by decide +kernel
theorem dL_step_153 : decode cL_step 153 = .ok (.bipush 40, 2) := by decide +kernel
theorem dL_step_155 : decode cL_step 155 = .ok (.if_icmp .ne 7, 3) := by decide +kernel
theorem dL_step_158 : decode cL_step 158 = .ok (.iconst 1, 1) := by decide +kernel
theorem dL_step_159 : decode cL_step 159 = .ok (.goto 4, 3) := by decide +kernel
theorem dL_step_162 : decode cL_step 162 = .ok (.iconst 0, 1) := by decide +kernel
theorem dL_step_163 : decode cL_step 163 = .ok (.ireturn, 1) := by decide +kernel
theorem dL_step_164 : decode cL_step 164 = .ok (.aload_n 1, 1) := by decide +kernel
theorem dL_step_165 : decode cL_step 165 = .ok (.iconst 1, 1) := by decide +kernel
theorem dL_step_166 : decode cL_step 166 = .ok (.dup2, 1) := by decide +kernel
theorem dL_step_167 : decode cL_step 167 = .ok (.iaload, 1) := by decide +kernel
theorem dL_step_168 : decode cL_step 168 = .ok (.iconst 1, 1) := by decide +kernel
theorem dL_step_169 : decode cL_step 169 = .ok (.iadd, 1) := by decide +kernel
theorem dL_step_170 : decode cL_step 170 = .ok (.iastore, 1) := by decide +kernel
theorem dL_step_171 : decode cL_step 171 = .ok (.aload_n 0, 1) := by decide +kernel
theorem dL_step_172 : decode cL_step 172 = .ok (.iload 4, 2) := by decide +kernel
theorem dL_step_174 : decode cL_step 174 = .ok (.bipush 11, 2) := by decide +kernel
theorem dL_step_176 : decode cL_step 176 = .ok (.irem, 1) := by decide +kernel
theorem dL_step_177 : decode cL_step 177 = .ok (.ifCond .ne 7, 3) := by decide +kernel
theorem dL_step_180 : decode cL_step 180 = .ok (.iconst 1, 1) := by decide +kernel
theorem dL_step_181 : decode cL_step 181 = .ok (.goto 4, 3) := by decide +kernel
theorem dL_step_184 : decode cL_step 184 = .ok (.iconst 0, 1) := by decide +kernel
theorem dL_step_185 : decode cL_step 185 = .ok (.iload 7, 2) := by decide +kernel
theorem dL_step_187 : decode cL_step 187 = .ok (.iload 5, 2) := by decide +kernel
theorem dL_step_189 : decode cL_step 189 = .ok (.iload 6, 2) := by decide +kernel
theorem dL_step_191 : decode cL_step 191 = .ok (.iload_n 3, 1) := by decide +kernel
theorem dL_step_192 : decode cL_step 192 = .ok (.bipush 7, 2) := by decide +kernel
theorem dL_step_194 : decode cL_step 194 = .ok (.idiv, 1) := by decide +kernel
theorem dL_step_195 : decode cL_step 195 = .ok (.bipush 100, 2) := by decide +kernel
theorem dL_step_197 : decode cL_step 197 = .ok (.irem, 1) := by decide +kernel
theorem dL_step_198 : decode cL_step 198 = .ok (.invokevirtual 26, 3) := by decide +kernel
theorem dL_step_201 : decode cL_step 201 = .ok (.iload 8, 2) := by decide +kernel
theorem dL_step_203 : decode cL_step 203 = .ok (.if_icmp .ne 61, 3) := by decide +kernel
theorem dL_step_206 : decode cL_step 206 = .ok (.aload_n 0, 1) := by decide +kernel
theorem dL_step_207 : decode cL_step 207 = .ok (.iload 8, 2) := by decide +kernel
theorem dL_step_209 : decode cL_step 209 = .ok (.iload 5, 2) := by decide +kernel
theorem dL_step_211 : decode cL_step 211 = .ok (.iload 6, 2) := by decide +kernel
theorem dL_step_213 : decode cL_step 213 = .ok (.invokevirtual 30, 3) := by decide +kernel
theorem dL_step_216 : decode cL_step 216 = .ok (.ifCond .eq 48, 3) := by decide +kernel
theorem dL_step_219 : decode cL_step 219 = .ok (.aload_n 0, 1) := by decide +kernel
theorem dL_step_220 : decode cL_step 220 = .ok (.iload 8, 2) := by decide +kernel
theorem dL_step_222 : decode cL_step 222 = .ok (.iload 5, 2) := by decide +kernel
theorem dL_step_224 : decode cL_step 224 = .ok (.iload 6, 2) := by decide +kernel
theorem dL_step_226 : decode cL_step 226 = .ok (.iconst 1, 1) := by decide +kernel
theorem dL_step_227 : decode cL_step 227 = .ok (.iadd, 1) := by decide +kernel
theorem dL_step_228 : decode cL_step 228 = .ok (.iconst 4, 1) := by decide +kernel
theorem dL_step_229 : decode cL_step 229 = .ok (.irem, 1) := by decide +kernel
theorem dL_step_230 : decode cL_step 230 = .ok (.invokevirtual 30, 3) := by decide +kernel
theorem dL_step_233 : decode cL_step 233 = .ok (.ifCond .ne 31, 3) := by decide +kernel
theorem dL_step_236 : decode cL_step 236 = .ok (.aload_n 0, 1) := by decide +kernel
theorem dL_step_237 : decode cL_step 237 = .ok (.iload 5, 2) := by decide +kernel
theorem dL_step_239 : decode cL_step 239 = .ok (.iload 6, 2) := by decide +kernel
theorem dL_step_241 : decode cL_step 241 = .ok (.invokevirtual 34, 3) := by decide +kernel
theorem dL_step_244 : decode cL_step 244 = .ok (.ifCond .lt 20, 3) := by decide +kernel
theorem dL_step_247 : decode cL_step 247 = .ok (.aload_n 0, 1) := by decide +kernel
theorem dL_step_248 : decode cL_step 248 = .ok (.iload 5, 2) := by decide +kernel
theorem dL_step_250 : decode cL_step 250 = .ok (.iload 6, 2) := by decide +kernel
theorem dL_step_252 : decode cL_step 252 = .ok (.invokevirtual 34, 3) := by decide +kernel
theorem dL_step_255 : decode cL_step 255 = .ok (.iload 8, 2) := by decide +kernel
theorem dL_step_257 : decode cL_step 257 = .ok (.if_icmp .gt 7, 3) := by decide +kernel
theorem dL_step_260 : decode cL_step 260 = .ok (.iconst 1, 1) := by decide +kernel
theorem dL_step_261 : decode cL_step 261 = .ok (.goto 4, 3) := by decide +kernel
theorem dL_step_264 : decode cL_step 264 = .ok (.iconst 0, 1) := by decide +kernel
theorem dL_step_265 : decode cL_step 265 = .ok (.ireturn, 1) := by decide +kernel
theorem dL_step_266 : decode cL_step 266 = .ok (.iload 8, 2) := by decide +kernel
theorem dL_step_268 : decode cL_step 268 = .ok (.ifCond .eq 10, 3) := by decide +kernel
theorem dL_step_271 : decode cL_step 271 = .ok (.iload 4, 2) := by decide +kernel
theorem dL_step_273 : decode cL_step 273 = .ok (.iconst 3, 1) := by decide +kernel
theorem dL_step_274 : decode cL_step 274 = .ok (.irem, 1) := by decide +kernel
theorem dL_step_275 : decode cL_step 275 = .ok (.ifCond .le 18, 3) := by decide +kernel
theorem dL_step_278 : decode cL_step 278 = .ok (.aload_n 0, 1) := by decide +kernel
theorem dL_step_279 : decode cL_step 279 = .ok (.invokevirtual 20, 3) := by decide +kernel
theorem dL_step_282 : decode cL_step 282 = .ok (.iload 8, 2) := by decide +kernel
theorem dL_step_284 : decode cL_step 284 = .ok (.if_icmp .ne 7, 3) := by decide +kernel
theorem dL_step_287 : decode cL_step 287 = .ok (.iconst 1, 1) := by decide +kernel
theorem dL_step_288 : decode cL_step 288 = .ok (.goto 4, 3) := by decide +kernel
theorem dL_step_291 : decode cL_step 291 = .ok (.iconst 0, 1) := by decide +kernel
theorem dL_step_292 : decode cL_step 292 = .ok (.ireturn, 1) := by decide +kernel
theorem dL_step_293 : decode cL_step 293 = .ok (.aload_n 0, 1) := by decide +kernel
theorem dL_step_294 : decode cL_step 294 = .ok (.iload_n 3, 1) := by decide +kernel
theorem dL_step_295 : decode cL_step 295 = .ok (.iload 8, 2) := by decide +kernel
theorem dL_step_297 : decode cL_step 297 = .ok (.irem, 1) := by decide +kernel
theorem dL_step_298 : decode cL_step 298 = .ok (.invokevirtual 38, 3) := by decide +kernel
theorem dL_step_301 : decode cL_step 301 = .ok (.sipush 1000, 3) := by decide +kernel
theorem dL_step_304 : decode cL_step 304 = .ok (.irem, 1) := by decide +kernel
theorem dL_step_305 : decode cL_step 305 = .ok (.istore 9, 2) := by decide +kernel
theorem dL_step_307 : decode cL_step 307 = .ok (.aload_n 1, 1) := by decide +kernel
theorem dL_step_308 : decode cL_step 308 = .ok (.iconst 1, 1) := by decide +kernel
theorem dL_step_309 : decode cL_step 309 = .ok (.dup2, 1) := by decide +kernel
theorem dL_step_310 : decode cL_step 310 = .ok (.iaload, 1) := by decide +kernel
theorem dL_step_311 : decode cL_step 311 = .ok (.iconst 1, 1) := by decide +kernel
theorem dL_step_312 : decode cL_step 312 = .ok (.isub, 1) := by decide +kernel
theorem dL_step_313 : decode cL_step 313 = .ok (.iastore, 1) := by decide +kernel
theorem dL_step_314 : decode cL_step 314 = .ok (.aload_n 0, 1) := by decide +kernel
theorem dL_step_315 : decode cL_step 315 = .ok (.iload_n 3, 1) := by decide +kernel
theorem dL_step_316 : decode cL_step 316 = .ok (.iload 8, 2) := by decide +kernel
theorem dL_step_318 : decode cL_step 318 = .ok (.irem, 1) := by decide +kernel
theorem dL_step_319 : decode cL_step 319 = .ok (.invokevirtual 41, 3) := by decide +kernel
theorem dL_step_322 : decode cL_step 322 = .ok (.iload 9, 2) := by decide +kernel
theorem dL_step_324 : decode cL_step 324 = .ok (.if_icmp .ne 18, 3) := by decide +kernel
theorem dL_step_327 : decode cL_step 327 = .ok (.aload_n 0, 1) := by decide +kernel
theorem dL_step_328 : decode cL_step 328 = .ok (.invokevirtual 20, 3) := by decide +kernel
theorem dL_step_331 : decode cL_step 331 = .ok (.iload 8, 2) := by decide +kernel
theorem dL_step_333 : decode cL_step 333 = .ok (.iconst 1, 1) := by decide +kernel
theorem dL_step_334 : decode cL_step 334 = .ok (.isub, 1) := by decide +kernel
theorem dL_step_335 : decode cL_step 335 = .ok (.if_icmp .ne 7, 3) := by decide +kernel
theorem dL_step_338 : decode cL_step 338 = .ok (.iconst 1, 1) := by decide +kernel
theorem dL_step_339 : decode cL_step 339 = .ok (.goto 4, 3) := by decide +kernel
theorem dL_step_342 : decode cL_step 342 = .ok (.iconst 0, 1) := by decide +kernel
theorem dL_step_343 : decode cL_step 343 = .ok (.ireturn, 1) := by decide +kernel
theorem dL_step_344 : decode cL_step 344 = .ok (.aload_n 0, 1) := by decide +kernel
theorem dL_step_345 : decode cL_step 345 = .ok (.aload_n 1, 1) := by decide +kernel
theorem dL_step_346 : decode cL_step 346 = .ok (.iload_n 3, 1) := by decide +kernel
theorem dL_step_347 : decode cL_step 347 = .ok (.iload 4, 2) := by decide +kernel
theorem dL_step_349 : decode cL_step 349 = .ok (.iload 5, 2) := by decide +kernel
theorem dL_step_351 : decode cL_step 351 = .ok (.iload 7, 2) := by decide +kernel
theorem dL_step_353 : decode cL_step 353 = .ok (.invokestatic 44, 3) := by decide +kernel
theorem dL_step_356 : decode cL_step 356 = .ok (.ireturn, 1) := by decide +kernel
theorem dL_step_357 : decode cL_step 357 = .ok (.aload_n 1, 1) := by decide +kernel
theorem dL_step_358 : decode cL_step 358 = .ok (.iconst 4, 1) := by decide +kernel
theorem dL_step_359 : decode cL_step 359 = .ok (.iaload, 1) := by decide +kernel
theorem dL_step_360 : decode cL_step 360 = .ok (.istore 10, 2) := by decide +kernel
theorem dL_step_362 : decode cL_step 362 = .ok (.aload_n 1, 1) := by decide +kernel
theorem dL_step_363 : decode cL_step 363 = .ok (.iconst 4, 1) := by decide +kernel
theorem dL_step_364 : decode cL_step 364 = .ok (.iload_n 3, 1) := by decide +kernel
theorem dL_step_365 : decode cL_step 365 = .ok (.iconst 3, 1) := by decide +kernel
theorem dL_step_366 : decode cL_step 366 = .ok (.irem, 1) := by decide +kernel
theorem dL_step_367 : decode cL_step 367 = .ok (.iastore, 1) := by decide +kernel
theorem dL_step_368 : decode cL_step 368 = .ok (.aload_n 1, 1) := by decide +kernel
theorem dL_step_369 : decode cL_step 369 = .ok (.iconst 5, 1) := by decide +kernel
theorem dL_step_370 : decode cL_step 370 = .ok (.iload 4, 2) := by decide +kernel
theorem dL_step_372 : decode cL_step 372 = .ok (.iconst 2, 1) := by decide +kernel
theorem dL_step_373 : decode cL_step 373 = .ok (.irem, 1) := by decide +kernel
theorem dL_step_374 : decode cL_step 374 = .ok (.iastore, 1) := by decide +kernel
theorem dL_step_375 : decode cL_step 375 = .ok (.aload_n 0, 1) := by decide +kernel
theorem dL_step_376 : decode cL_step 376 = .ok (.iload_n 3, 1) := by decide +kernel
theorem dL_step_377 : decode cL_step 377 = .ok (.iconst 3, 1) := by decide +kernel
theorem dL_step_378 : decode cL_step 378 = .ok (.irem, 1) := by decide +kernel
theorem dL_step_379 : decode cL_step 379 = .ok (.iload 4, 2) := by decide +kernel
theorem dL_step_381 : decode cL_step 381 = .ok (.iconst 2, 1) := by decide +kernel
theorem dL_step_382 : decode cL_step 382 = .ok (.irem, 1) := by decide +kernel
theorem dL_step_383 : decode cL_step 383 = .ok (.iconst 1, 1) := by decide +kernel
theorem dL_step_384 : decode cL_step 384 = .ok (.if_icmp .ne 7, 3) := by decide +kernel
theorem dL_step_387 : decode cL_step 387 = .ok (.iconst 1, 1) := by decide +kernel
theorem dL_step_388 : decode cL_step 388 = .ok (.goto 4, 3) := by decide +kernel
theorem dL_step_391 : decode cL_step 391 = .ok (.iconst 0, 1) := by decide +kernel
theorem dL_step_392 : decode cL_step 392 = .ok (.invokevirtual 48, 3) := by decide +kernel
theorem dL_step_395 : decode cL_step 395 = .ok (.iload 10, 2) := by decide +kernel
theorem dL_step_397 : decode cL_step 397 = .ok (.if_icmp .ne 7, 3) := by decide +kernel
theorem dL_step_400 : decode cL_step 400 = .ok (.iconst 1, 1) := by decide +kernel
theorem dL_step_401 : decode cL_step 401 = .ok (.goto 4, 3) := by decide +kernel
theorem dL_step_404 : decode cL_step 404 = .ok (.iconst 0, 1) := by decide +kernel
theorem dL_step_405 : decode cL_step 405 = .ok (.ireturn, 1) := by decide +kernel
theorem dL_step_406 : decode cL_step 406 = .ok (.aload_n 0, 1) := by decide +kernel
theorem dL_step_407 : decode cL_step 407 = .ok (.aload_n 1, 1) := by decide +kernel
theorem dL_step_408 : decode cL_step 408 = .ok (.iload 5, 2) := by decide +kernel
theorem dL_step_410 : decode cL_step 410 = .ok (.iload 6, 2) := by decide +kernel
theorem dL_step_412 : decode cL_step 412 = .ok (.iload 7, 2) := by decide +kernel
theorem dL_step_414 : decode cL_step 414 = .ok (.aload_n 1, 1) := by decide +kernel
theorem dL_step_415 : decode cL_step 415 = .ok (.iconst 2, 1) := by decide +kernel
theorem dL_step_416 : decode cL_step 416 = .ok (.iaload, 1) := by decide +kernel
theorem dL_step_417 : decode cL_step 417 = .ok (.ifCond .eq 9, 3) := by decide +kernel
theorem dL_step_420 : decode cL_step 420 = .ok (.iload_n 3, 1) := by decide +kernel
theorem dL_step_421 : decode cL_step 421 = .ok (.iconst 2, 1) := by decide +kernel
theorem dL_step_422 : decode cL_step 422 = .ok (.irem, 1) := by decide +kernel
theorem dL_step_423 : decode cL_step 423 = .ok (.ifCond .ne 7, 3) := by decide +kernel
theorem dL_step_426 : decode cL_step 426 = .ok (.iconst (-1), 1) := by decide +kernel
theorem dL_step_427 : decode cL_step 427 = .ok (.goto 10, 3) := by decide +kernel
theorem dL_step_430 : decode cL_step 430 = .ok (.iload_n 3, 1) := by decide +kernel
theorem dL_step_431 : decode cL_step 431 = .ok (.iconst 2, 1) := by decide +kernel
theorem dL_step_432 : decode cL_step 432 = .ok (.idiv, 1) := by decide +kernel
theorem dL_step_433 : decode cL_step 433 = .ok (.aload_n 1, 1) := by decide +kernel
theorem dL_step_434 : decode cL_step 434 = .ok (.iconst 2, 1) := by decide +kernel
theorem dL_step_435 : decode cL_step 435 = .ok (.iaload, 1) := by decide +kernel
theorem dL_step_436 : decode cL_step 436 = .ok (.irem, 1) := by decide +kernel
theorem dL_step_437 : decode cL_step 437 = .ok (.invokestatic 52, 3) := by decide +kernel
theorem dL_step_440 : decode cL_step 440 = .ok (.ireturn, 1) := by decide +kernel
theorem dL_step_441 : decode cL_step 441 = .ok (.aload_n 0, 1) := by decide +kernel
theorem dL_step_442 : decode cL_step 442 = .ok (.aload_n 1, 1) := by decide +kernel
theorem dL_step_443 : decode cL_step 443 = .ok (.iload 5, 2) := by decide +kernel
theorem dL_step_445 : decode cL_step 445 = .ok (.iload 6, 2) := by decide +kernel
theorem dL_step_447 : decode cL_step 447 = .ok (.iload 7, 2) := by decide +kernel
theorem dL_step_449 : decode cL_step 449 = .ok (.iload 7, 2) := by decide +kernel
theorem dL_step_451 : decode cL_step 451 = .ok (.iconst 1, 1) := by decide +kernel
theorem dL_step_452 : decode cL_step 452 = .ok (.iadd, 1) := by decide +kernel
theorem dL_step_453 : decode cL_step 453 = .ok (.iload_n 3, 1) := by decide +kernel
theorem dL_step_454 : decode cL_step 454 = .ok (.sipush 199, 3) := by decide +kernel
theorem dL_step_457 : decode cL_step 457 = .ok (.irem, 1) := by decide +kernel
theorem dL_step_458 : decode cL_step 458 = .ok (.iadd, 1) := by decide +kernel
theorem dL_step_459 : decode cL_step 459 = .ok (.sipush 200, 3) := by decide +kernel
theorem dL_step_462 : decode cL_step 462 = .ok (.irem, 1) := by decide +kernel
theorem dL_step_463 : decode cL_step 463 = .ok (.iload 4, 2) := by decide +kernel
theorem dL_step_465 : decode cL_step 465 = .ok (.bipush 50, 2) := by decide +kernel
theorem dL_step_467 : decode cL_step 467 = .ok (.irem, 1) := by decide +kernel
theorem dL_step_468 : decode cL_step 468 = .ok (.invokestatic 55, 3) := by decide +kernel
theorem dL_step_471 : decode cL_step 471 = .ok (.ireturn, 1) := by decide +kernel
theorem dL_step_472 : decode cL_step 472 = .ok (.iconst 1, 1) := by decide +kernel
theorem dL_step_473 : decode cL_step 473 = .ok (.iload 4, 2) := by decide +kernel
theorem dL_step_475 : decode cL_step 475 = .ok (.bipush 60, 2) := by decide +kernel
theorem dL_step_477 : decode cL_step 477 = .ok (.irem, 1) := by decide +kernel
theorem dL_step_478 : decode cL_step 478 = .ok (.iadd, 1) := by decide +kernel
theorem dL_step_479 : decode cL_step 479 = .ok (.istore 11, 2) := by decide +kernel
theorem dL_step_481 : decode cL_step 481 = .ok (.aload_n 1, 1) := by decide +kernel
theorem dL_step_482 : decode cL_step 482 = .ok (.iconst 0, 1) := by decide +kernel
theorem dL_step_483 : decode cL_step 483 = .ok (.iaload, 1) := by decide +kernel
theorem dL_step_484 : decode cL_step 484 = .ok (.iload 11, 2) := by decide +kernel
theorem dL_step_486 : decode cL_step 486 = .ok (.iadd, 1) := by decide +kernel
theorem dL_step_487 : decode cL_step 487 = .ok (.sipush 5000, 3) := by decide +kernel
theorem dL_step_490 : decode cL_step 490 = .ok (.if_icmp .le 19, 3) := by decide +kernel
theorem dL_step_493 : decode cL_step 493 = .ok (.aload_n 0, 1) := by decide +kernel
theorem dL_step_494 : decode cL_step 494 = .ok (.invokevirtual 58, 3) := by decide +kernel
theorem dL_step_497 : decode cL_step 497 = .ok (.aload_n 1, 1) := by decide +kernel
theorem dL_step_498 : decode cL_step 498 = .ok (.iconst 0, 1) := by decide +kernel
theorem dL_step_499 : decode cL_step 499 = .ok (.iaload, 1) := by decide +kernel
theorem dL_step_500 : decode cL_step 500 = .ok (.if_icmp .ne 7, 3) := by decide +kernel
theorem dL_step_503 : decode cL_step 503 = .ok (.iconst 1, 1) := by decide +kernel
theorem dL_step_504 : decode cL_step 504 = .ok (.goto 4, 3) := by decide +kernel
theorem dL_step_507 : decode cL_step 507 = .ok (.iconst 0, 1) := by decide +kernel
theorem dL_step_508 : decode cL_step 508 = .ok (.ireturn, 1) := by decide +kernel
theorem dL_step_509 : decode cL_step 509 = .ok (.aload_n 1, 1) := by decide +kernel
theorem dL_step_510 : decode cL_step 510 = .ok (.iconst 0, 1) := by decide +kernel
theorem dL_step_511 : decode cL_step 511 = .ok (.dup2, 1) := by decide +kernel
theorem dL_step_512 : decode cL_step 512 = .ok (.iaload, 1) := by decide +kernel
theorem dL_step_513 : decode cL_step 513 = .ok (.iload 11, 2) := by decide +kernel
theorem dL_step_515 : decode cL_step 515 = .ok (.iadd, 1) := by decide +kernel
theorem dL_step_516 : decode cL_step 516 = .ok (.iastore, 1) := by decide +kernel
theorem dL_step_517 : decode cL_step 517 = .ok (.aload_n 0, 1) := by decide +kernel
theorem dL_step_518 : decode cL_step 518 = .ok (.iload 11, 2) := by decide +kernel
theorem dL_step_520 : decode cL_step 520 = .ok (.invokevirtual 61, 3) := by decide +kernel
theorem dL_step_523 : decode cL_step 523 = .ok (.aload_n 1, 1) := by decide +kernel
theorem dL_step_524 : decode cL_step 524 = .ok (.iconst 0, 1) := by decide +kernel
theorem dL_step_525 : decode cL_step 525 = .ok (.iaload, 1) := by decide +kernel
theorem dL_step_526 : decode cL_step 526 = .ok (.if_icmp .ne 17, 3) := by decide +kernel
theorem dL_step_529 : decode cL_step 529 = .ok (.aload_n 0, 1) := by decide +kernel
theorem dL_step_530 : decode cL_step 530 = .ok (.invokevirtual 58, 3) := by decide +kernel
theorem dL_step_533 : decode cL_step 533 = .ok (.aload_n 1, 1) := by decide +kernel
theorem dL_step_534 : decode cL_step 534 = .ok (.iconst 0, 1) := by decide +kernel
theorem dL_step_535 : decode cL_step 535 = .ok (.iaload, 1) := by decide +kernel
theorem dL_step_536 : decode cL_step 536 = .ok (.if_icmp .ne 7, 3) := by decide +kernel
theorem dL_step_539 : decode cL_step 539 = .ok (.iconst 1, 1) := by decide +kernel
theorem dL_step_540 : decode cL_step 540 = .ok (.goto 4, 3) := by decide +kernel
theorem dL_step_543 : decode cL_step 543 = .ok (.iconst 0, 1) := by decide +kernel
theorem dL_step_544 : decode cL_step 544 = .ok (.ireturn, 1) := by decide +kernel
theorem dL_step_545 : decode cL_step 545 = .ok (.iload 4, 2) := by decide +kernel
theorem dL_step_547 : decode cL_step 547 = .ok (.iconst 3, 1) := by decide +kernel
theorem dL_step_548 : decode cL_step 548 = .ok (.irem, 1) := by decide +kernel
theorem dL_step_549 : decode cL_step 549 = .ok (.ifCond .le 11, 3) := by decide +kernel
theorem dL_step_552 : decode cL_step 552 = .ok (.aload_n 0, 1) := by decide +kernel
theorem dL_step_553 : decode cL_step 553 = .ok (.aload_n 1, 1) := by decide +kernel
theorem dL_step_554 : decode cL_step 554 = .ok (.invokestatic 64, 3) := by decide +kernel
theorem dL_step_557 : decode cL_step 557 = .ok (.goto 15, 3) := by decide +kernel
theorem dL_step_560 : decode cL_step 560 = .ok (.aload_n 0, 1) := by decide +kernel
theorem dL_step_561 : decode cL_step 561 = .ok (.aload_n 1, 1) := by decide +kernel
theorem dL_step_562 : decode cL_step 562 = .ok (.iconst 1, 1) := by decide +kernel
theorem dL_step_563 : decode cL_step 563 = .ok (.iload_n 3, 1) := by decide +kernel
theorem dL_step_564 : decode cL_step 564 = .ok (.sipush 200, 3) := by decide +kernel
theorem dL_step_567 : decode cL_step 567 = .ok (.irem, 1) := by decide +kernel
theorem dL_step_568 : decode cL_step 568 = .ok (.iadd, 1) := by decide +kernel
theorem dL_step_569 : decode cL_step 569 = .ok (.invokestatic 68, 3) := by decide +kernel
theorem dL_step_572 : decode cL_step 572 = .ok (.ireturn, 1) := by decide +kernel
