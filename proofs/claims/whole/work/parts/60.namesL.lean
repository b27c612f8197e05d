set_option maxRecDepth 20000 in
theorem ggL_addLine_X4_addLine : GoodIn wsL_addLine wsX4_addLine := goodIn_ca (goodIn_ca (goodIn_r _ [7, 8, 9, 10, 6, 11, 12, 13, 14, 15, 16, 17, 18, 19, 20, 21, 22, 23, 24, 25, 26, 27, 28, 29, 30, 31, 32, 33, 34, 35, 36, 37, 38, 39, 40, 41, 42, 43, 44, 45, 46, 47, 48, 49, 50, 51, 52, 53, 54, 55, 56, 57] (by decide +kernel) (by decide +kernel)) (goodIn_sub (fun _ h => List.mem_cons_of_mem _ (List.mem_append_left _ (List.mem_append_right _ h))) (by decide +kernel))) (goodIn_sub (fun _ h => List.mem_cons_of_mem _ (List.mem_append_right _ h)) (by decide +kernel))
set_option maxRecDepth 20000 in
theorem gL_addLine_X4_addLine : GoodIn wsL_addLine (wsV RL 7 RX4 yX4_addLine wsX4_addLine) := goodIn_app (goodIn_of _ (by decide +kernel)) ggL_addLine_X4_addLine
theorem dL_addLine_0 : decode cL_addLine 0 = .ok (.aload_n 3, 1) := by decide +kernel
theorem dL_addLine_1 : decode cL_addLine 1 = .ok (.iconst 0, 1) := by decide +kernel
theorem dL_addLine_2 : decode cL_addLine 2 = .ok (.aload_n 0, 1) := by decide +kernel
theorem dL_addLine_3 : decode cL_addLine 3 = .ok (.iload_n 1, 1) := by decide +kernel
theorem dL_addLine_4 : decode cL_addLine 4 = .ok (.iload_n 2, 1) := by decide +kernel
theorem dL_addLine_5 : decode cL_addLine 5 = .ok (.invokevirtual 7, 3) := by decide +kernel
theorem dL_addLine_8 : decode cL_addLine 8 = .ok (.i2l, 1) := by decide +kernel
theorem dL_addLine_9 : decode cL_addLine 9 = .ok (.lastore, 1) := by decide +kernel
theorem dL_addLine_10 : decode cL_addLine 10 = .ok (.goto 11, 3) := by decide +kernel
theorem dL_addLine_13 : decode cL_addLine 13 = .ok (.astore 4, 2) := by decide +kernel
theorem dL_addLine_15 : decode cL_addLine 15 = .ok (.iconst 1, 1) := by decide +kernel
theorem dL_addLine_16 : decode cL_addLine 16 = .ok (.ireturn, 1) := by decide +kernel
theorem dL_addLine_17 : decode cL_addLine 17 = .ok (.astore 4, 2) := by decide +kernel
theorem dL_addLine_19 : decode cL_addLine 19 = .ok (.iconst 2, 1) := by decide +kernel
theorem dL_addLine_20 : decode cL_addLine 20 = .ok (.ireturn, 1) := by decide +kernel
theorem dL_addLine_21 : decode cL_addLine 21 = .ok (.iconst 0, 1) := by decide +kernel
theorem dL_addLine_22 : decode cL_addLine 22 = .ok (.ireturn, 1) := by decide +kernel
set_option maxRecDepth 20000 in
theorem ggL_addPattern_X4_addPattern : GoodIn wsL_addPattern wsX4_addPattern := goodIn_ca (goodIn_ca (goodIn_ca (goodIn_r _ [8, 9, 10, 11, 7, 12, 13, 14, 15, 16, 17, 18, 19, 20, 21, 22, 23, 24, 25, 26, 27, 28, 29, 30, 31, 32, 33, 34, 35, 36, 37, 38, 39, 40, 41, 42, 43, 44, 45, 46, 47, 48, 49, 50, 51, 52, 53, 54, 55, 56, 57, 58, 59, 60, 61, 62, 63, 64, 65, 66, 67, 68, 69, 70, 71, 72, 73] (by decide +kernel) (by decide +kernel)) (goodIn_sub (fun _ h => List.mem_cons_of_mem _ (List.mem_append_left _ (List.mem_append_left _ (List.mem_append_right _ h)))) (by decide +kernel))) (goodIn_sub (fun _ h => List.mem_cons_of_mem _ (List.mem_append_left _ (List.mem_append_right _ h))) (by decide +kernel))) (goodIn_sub (fun _ h => List.mem_cons_of_mem _ (List.mem_append_right _ h)) (by decide +kernel))
set_option maxRecDepth 20000 in
theorem gL_addPattern_X4_addPattern : GoodIn wsL_addPattern (wsV RL 17 RX4 yX4_addPattern wsX4_addPattern) := goodIn_app (goodIn_of _ (by decide +kernel)) ggL_addPattern_X4_addPattern
theorem dL_addPattern_0 : decode cL_addPattern 0 = .ok (.aload 6, 2) := by decide +kernel
theorem dL_addPattern_2 : decode cL_addPattern 2 = .ok (.iconst 0, 1) := by decide +kernel
theorem dL_addPattern_3 : decode cL_addPattern 3 = .ok (.aload_n 0, 1) := by decide +kernel
theorem dL_addPattern_4 : decode cL_addPattern 4 = .ok (.iload_n 1, 1) := by decide +kernel
theorem dL_addPattern_5 : decode cL_addPattern 5 = .ok (.iload_n 2, 1) := by decide +kernel
theorem dL_addPattern_6 : decode cL_addPattern 6 = .ok (.iload_n 3, 1) := by decide +kernel
theorem dL_addPattern_7 : decode cL_addPattern 7 = .ok (.iload 4, 2) := by decide +kernel
theorem dL_addPattern_9 : decode cL_addPattern 9 = .ok (.iload 5, 2) := by decide +kernel
theorem dL_addPattern_11 : decode cL_addPattern 11 = .ok (.invokevirtual 17, 3) := by decide +kernel
theorem dL_addPattern_14 : decode cL_addPattern 14 = .ok (.i2l, 1) := by decide +kernel
theorem dL_addPattern_15 : decode cL_addPattern 15 = .ok (.lastore, 1) := by decide +kernel
theorem dL_addPattern_16 : decode cL_addPattern 16 = .ok (.goto 15, 3) := by decide +kernel
theorem dL_addPattern_19 : decode cL_addPattern 19 = .ok (.astore 7, 2) := by decide +kernel
theorem dL_addPattern_21 : decode cL_addPattern 21 = .ok (.iconst 1, 1) := by decide +kernel
theorem dL_addPattern_22 : decode cL_addPattern 22 = .ok (.ireturn, 1) := by decide +kernel
theorem dL_addPattern_23 : decode cL_addPattern 23 = .ok (.astore 7, 2) := by decide +kernel
theorem dL_addPattern_25 : decode cL_addPattern 25 = .ok (.iconst 2, 1) := by decide +kernel
theorem dL_addPattern_26 : decode cL_addPattern 26 = .ok (.ireturn, 1) := by decide +kernel
theorem dL_addPattern_27 : decode cL_addPattern 27 = .ok (.astore 7, 2) := by decide +kernel
theorem dL_addPattern_29 : decode cL_addPattern 29 = .ok (.iconst 3, 1) := by decide +kernel
theorem dL_addPattern_30 : decode cL_addPattern 30 = .ok (.ireturn, 1) := by decide +kernel
theorem dL_addPattern_31 : decode cL_addPattern 31 = .ok (.iconst 0, 1) := by decide +kernel
theorem dL_addPattern_32 : decode cL_addPattern 32 = .ok (.ireturn, 1) := by decide +kernel
set_option maxRecDepth 20000 in
theorem ggL_addHashed_X4_addHashed : GoodIn wsL_addHashed wsX4_addHashed := goodIn_ca (goodIn_ca (goodIn_r _ [7, 8, 9, 10, 6, 11, 12, 13, 14, 15, 16, 17, 18, 19, 20, 21, 22, 23, 24, 25, 26, 27, 28, 29, 30, 31, 32, 33, 34, 35, 36, 37, 38, 39, 40, 41, 42, 43, 44, 45, 46, 47, 48, 49, 50, 51, 52, 53, 54, 55, 56, 57, 58, 59, 60, 61, 62, 63, 64, 65, 66, 67, 68, 69, 70] (by decide +kernel) (by decide +kernel)) (goodIn_sub (fun _ h => List.mem_cons_of_mem _ (List.mem_append_left _ (List.mem_append_right _ h))) (by decide +kernel))) (goodIn_sub (fun _ h => List.mem_cons_of_mem _ (List.mem_append_right _ h)) (by decide +kernel))
set_option maxRecDepth 20000 in
theorem gL_addHashed_X4_addHashed : GoodIn wsL_addHashed (wsV RL 23 RX4 yX4_addHashed wsX4_addHashed) := goodIn_app (goodIn_of _ (by decide +kernel)) ggL_addHashed_X4_addHashed
theorem dL_addHashed_0 : decode cL_addHashed 0 = .ok (.aload 6, 2) := by decide +kernel
theorem dL_addHashed_2 : decode cL_addHashed 2 = .ok (.iconst 0, 1) := by decide +kernel
theorem dL_addHashed_3 : decode cL_addHashed 3 = .ok (.aload_n 0, 1) := by decide +kernel
theorem dL_addHashed_4 : decode cL_addHashed 4 = .ok (.iload_n 1, 1) := by decide +kernel
theorem dL_addHashed_5 : decode cL_addHashed 5 = .ok (.iload_n 2, 1) := by decide +kernel
theorem dL_addHashed_6 : decode cL_addHashed 6 = .ok (.iload_n 3, 1) := by decide +kernel
theorem dL_addHashed_7 : decode cL_addHashed 7 = .ok (.iload 4, 2) := by decide +kernel
theorem dL_addHashed_9 : decode cL_addHashed 9 = .ok (.iload 5, 2) := by decide +kernel
theorem dL_addHashed_11 : decode cL_addHashed 11 = .ok (.invokevirtual 23, 3) := by decide +kernel
theorem dL_addHashed_14 : decode cL_addHashed 14 = .ok (.i2l, 1) := by decide +kernel
theorem dL_addHashed_15 : decode cL_addHashed 15 = .ok (.lastore, 1) := by decide +kernel
theorem dL_addHashed_16 : decode cL_addHashed 16 = .ok (.goto 11, 3) := by decide +kernel
theorem dL_addHashed_19 : decode cL_addHashed 19 = .ok (.astore 7, 2) := by decide +kernel
theorem dL_addHashed_21 : decode cL_addHashed 21 = .ok (.iconst 1, 1) := by decide +kernel
theorem dL_addHashed_22 : decode cL_addHashed 22 = .ok (.ireturn, 1) := by decide +kernel
theorem dL_addHashed_23 : decode cL_addHashed 23 = .ok (.astore 7, 2) := by decide +kernel
theorem dL_addHashed_25 : decode cL_addHashed 25 = .ok (.iconst 2, 1) := by decide +kernel
theorem dL_addHashed_26 : decode cL_addHashed 26 = .ok (.ireturn, 1) := by decide +kernel
theorem dL_addHashed_27 : decode cL_addHashed 27 = .ok (.iconst 0, 1) := by decide +kernel
theorem dL_addHashed_28 : decode cL_addHashed 28 = .ok (.ireturn, 1) := by decide +kernel
set_option maxRecDepth 20000 in
theorem ggL_remove_X4_remove : GoodIn wsL_remove wsX4_remove := goodIn_ca (goodIn_r _ [6, 7, 8, 9, 5, 10, 11, 12, 13, 14, 15, 16, 17, 18, 19, 20, 21, 22, 23, 24, 25, 26, 27, 28, 29, 30, 31, 32, 33, 34, 35, 36, 37, 38, 39, 40] (by decide +kernel) (by decide +kernel)) (goodIn_sub (fun _ h => List.mem_cons_of_mem _ (List.mem_append_right _ h)) (by decide +kernel))
set_option maxRecDepth 20000 in
theorem gL_remove_X4_remove : GoodIn wsL_remove (wsV RL 27 RX4 yX4_remove wsX4_remove) := goodIn_app (goodIn_of _ (by decide +kernel)) ggL_remove_X4_remove
theorem dL_remove_0 : decode cL_remove 0 = .ok (.aload_n 2, 1) := by decide +kernel
theorem dL_remove_1 : decode cL_remove 1 = .ok (.iconst 0, 1) := by decide +kernel
theorem dL_remove_2 : decode cL_remove 2 = .ok (.aload_n 0, 1) := by decide +kernel
theorem dL_remove_3 : decode cL_remove 3 = .ok (.iload_n 1, 1) := by decide +kernel
theorem dL_remove_4 : decode cL_remove 4 = .ok (.invokevirtual 27, 3) := by decide +kernel
theorem dL_remove_7 : decode cL_remove 7 = .ok (.i2l, 1) := by decide +kernel
theorem dL_remove_8 : decode cL_remove 8 = .ok (.lastore, 1) := by decide +kernel
theorem dL_remove_9 : decode cL_remove 9 = .ok (.goto 6, 3) := by decide +kernel
theorem dL_remove_12 : decode cL_remove 12 = .ok (.astore_n 3, 1) := by decide +kernel
theorem dL_remove_13 : decode cL_remove 13 = .ok (.iconst 1, 1) := by decide +kernel
theorem dL_remove_14 : decode cL_remove 14 = .ok (.ireturn, 1) := by decide +kernel
theorem dL_remove_15 : decode cL_remove 15 = .ok (.iconst 0, 1) := by decide +kernel
theorem dL_remove_16 : decode cL_remove 16 = .ok (.ireturn, 1) := by decide +kernel
set_option maxRecDepth 20000 in
theorem ggL_certify_X4_certify : GoodIn wsL_certify wsX4_certify := goodIn_ca (goodIn_ca (goodIn_r _ [7, 8, 9, 10, 11, 12, 13, 14, 15, 16, 6, 17, 18, 19, 20, 21, 22, 23, 24, 25, 26, 27, 28, 29, 30, 31, 32, 33, 34, 35, 36, 37, 38, 39, 40, 41, 42, 43, 44, 45, 46, 47, 48, 49, 50, 51, 52, 53, 54] (by decide +kernel) (by decide +kernel)) (goodIn_sub (fun _ h => List.mem_cons_of_mem _ (List.mem_append_left _ (List.mem_append_right _ h))) (by decide +kernel))) (goodIn_sub (fun _ h => List.mem_cons_of_mem _ (List.mem_append_right _ h)) (by decide +kernel))
set_option maxRecDepth 20000 in
theorem gL_certify_X4_certify : GoodIn wsL_certify (wsV RL 31 RX4 yX4_certify wsX4_certify) := goodIn_app (goodIn_of _ (by decide +kernel)) ggL_certify_X4_certify
theorem dL_certify_0 : decode cL_certify 0 = .ok (.aload 8, 2) := by decide +kernel
theorem dL_certify_2 : decode cL_certify 2 = .ok (.iconst 0, 1) := by decide +kernel
theorem dL_certify_3 : decode cL_certify 3 = .ok (.aload_n 0, 1) := by decide +kernel
theorem dL_certify_4 : decode cL_certify 4 = .ok (.iload_n 1, 1) := by decide +kernel
theorem dL_certify_5 : decode cL_certify 5 = .ok (.iload_n 2, 1) := by decide +kernel
theorem dL_certify_6 : decode cL_certify 6 = .ok (.iload_n 3, 1) := by decide +kernel
theorem dL_certify_7 : decode cL_certify 7 = .ok (.iload 4, 2) := by decide +kernel
theorem dL_certify_9 : decode cL_certify 9 = .ok (.iload 5, 2) := by decide +kernel
theorem dL_certify_11 : decode cL_certify 11 = .ok (.iload 6, 2) := by decide +kernel
theorem dL_certify_13 : decode cL_certify 13 = .ok (.iload 7, 2) := by decide +kernel
theorem dL_certify_15 : decode cL_certify 15 = .ok (.invokevirtual 31, 3) := by decide +kernel
theorem dL_certify_18 : decode cL_certify 18 = .ok (.i2l, 1) := by decide +kernel
theorem dL_certify_19 : decode cL_certify 19 = .ok (.lastore, 1) := by decide +kernel
theorem dL_certify_20 : decode cL_certify 20 = .ok (.goto 11, 3) := by decide +kernel
theorem dL_certify_23 : decode cL_certify 23 = .ok (.astore 9, 2) := by decide +kernel
theorem dL_certify_25 : decode cL_certify 25 = .ok (.iconst 1, 1) := by decide +kernel
theorem dL_certify_26 : decode cL_certify 26 = .ok (.ireturn, 1) := by decide +kernel
theorem dL_certify_27 : decode cL_certify 27 = .ok (.astore 9, 2) := by decide +kernel
theorem dL_certify_29 : decode cL_certify 29 = .ok (.iconst 2, 1) := by decide +kernel
theorem dL_certify_30 : decode cL_certify 30 = .ok (.ireturn, 1) := by decide +kernel
theorem dL_certify_31 : decode cL_certify 31 = .ok (.iconst 0, 1) := by decide +kernel
theorem dL_certify_32 : decode cL_certify 32 = .ok (.ireturn, 1) := by decide +kernel
set_option maxRecDepth 20000 in
theorem ggL_revokeSpan_X4_revokeSpan : GoodIn wsL_revokeSpan wsX4_revokeSpan := goodIn_ca (goodIn_ca (goodIn_r _ [7, 8, 9, 10, 11, 12, 13, 14, 15, 16, 6, 17, 18, 19, 20, 21, 22, 23, 24, 25, 26, 27, 28, 29, 30, 31, 32, 33, 34, 35, 36, 37, 38, 39, 40, 41, 42, 43, 44, 45, 46, 47, 48, 49, 50, 51, 52, 53, 54, 55, 56, 57, 58, 59, 60, 61, 62, 63, 64, 65, 66, 67] (by decide +kernel) (by decide +kernel)) (goodIn_sub (fun _ h => List.mem_cons_of_mem _ (List.mem_append_left _ (List.mem_append_right _ h))) (by decide +kernel))) (goodIn_sub (fun _ h => List.mem_cons_of_mem _ (List.mem_append_right _ h)) (by decide +kernel))
set_option maxRecDepth 20000 in
theorem gL_revokeSpan_X4_revokeSpan : GoodIn wsL_revokeSpan (wsV RL 35 RX4 yX4_revokeSpan wsX4_revokeSpan) := goodIn_app (goodIn_of _ (by decide +kernel)) ggL_revokeSpan_X4_revokeSpan
theorem dL_revokeSpan_0 : decode cL_revokeSpan 0 = .ok (.aload 4, 2) := by decide +kernel
theorem dL_revokeSpan_2 : decode cL_revokeSpan 2 = .ok (.iconst 0, 1) := by decide +kernel
theorem dL_revokeSpan_3 : decode cL_revokeSpan 3 = .ok (.aload_n 0, 1) := by decide +kernel
theorem dL_revokeSpan_4 : decode cL_revokeSpan 4 = .ok (.iload_n 1, 1) := by decide +kernel
theorem dL_revokeSpan_5 : decode cL_revokeSpan 5 = .ok (.iload_n 2, 1) := by decide +kernel
theorem dL_revokeSpan_6 : decode cL_revokeSpan 6 = .ok (.iload_n 3, 1) := by decide +kernel
theorem dL_revokeSpan_7 : decode cL_revokeSpan 7 = .ok (.invokevirtual 35, 3) := by decide +kernel
theorem dL_revokeSpan_10 : decode cL_revokeSpan 10 = .ok (.i2l, 1) := by decide +kernel
theorem dL_revokeSpan_11 : decode cL_revokeSpan 11 = .ok (.lastore, 1) := by decide +kernel
theorem dL_revokeSpan_12 : decode cL_revokeSpan 12 = .ok (.goto 11, 3) := by decide +kernel
theorem dL_revokeSpan_15 : decode cL_revokeSpan 15 = .ok (.astore 5, 2) := by decide +kernel
theorem dL_revokeSpan_17 : decode cL_revokeSpan 17 = .ok (.iconst 1, 1) := by decide +kernel
theorem dL_revokeSpan_18 : decode cL_revokeSpan 18 = .ok (.ireturn, 1) := by decide +kernel
theorem dL_revokeSpan_19 : decode cL_revokeSpan 19 = .ok (.astore 5, 2) := by decide +kernel
theorem dL_revokeSpan_21 : decode cL_revokeSpan 21 = .ok (.iconst 2, 1) := by decide +kernel
theorem dL_revokeSpan_22 : decode cL_revokeSpan 22 = .ok (.ireturn, 1) := by decide +kernel
theorem dL_revokeSpan_23 : decode cL_revokeSpan 23 = .ok (.iconst 0, 1) := by decide +kernel
theorem dL_revokeSpan_24 : decode cL_revokeSpan 24 = .ok (.ireturn, 1) := by decide +kernel
set_option maxRecDepth 20000 in
theorem ggL_setFirstSight_X4_setFirstSight : GoodIn wsL_setFirstSight wsX4_setFirstSight := goodIn_ca (goodIn_r _ [6, 7, 8, 9, 10, 5, 11, 12, 13, 14, 15, 16, 17, 18, 19, 20, 21, 22, 23, 24, 25] (by decide +kernel) (by decide +kernel)) (goodIn_sub (fun _ h => List.mem_cons_of_mem _ (List.mem_append_right _ h)) (by decide +kernel))
set_option maxRecDepth 20000 in
theorem gL_setFirstSight_X4_setFirstSight : GoodIn wsL_setFirstSight (wsV RL 39 RX4 yX4_setFirstSight wsX4_setFirstSight) := goodIn_app (goodIn_of _ (by decide +kernel)) ggL_setFirstSight_X4_setFirstSight
theorem dL_setFirstSight_0 : decode cL_setFirstSight 0 = .ok (.aload_n 3, 1) := by decide +kernel
theorem dL_setFirstSight_1 : decode cL_setFirstSight 1 = .ok (.iconst 0, 1) := by decide +kernel
theorem dL_setFirstSight_2 : decode cL_setFirstSight 2 = .ok (.aload_n 0, 1) := by decide +kernel
theorem dL_setFirstSight_3 : decode cL_setFirstSight 3 = .ok (.iload_n 1, 1) := by decide +kernel
theorem dL_setFirstSight_4 : decode cL_setFirstSight 4 = .ok (.iload_n 2, 1) := by decide +kernel
theorem dL_setFirstSight_5 : decode cL_setFirstSight 5 = .ok (.invokevirtual 39, 3) := by decide +kernel
theorem dL_setFirstSight_8 : decode cL_setFirstSight 8 = .ok (.i2l, 1) := by decide +kernel
theorem dL_setFirstSight_9 : decode cL_setFirstSight 9 = .ok (.lastore, 1) := by decide +kernel
theorem dL_setFirstSight_10 : decode cL_setFirstSight 10 = .ok (.goto 7, 3) := by decide +kernel
theorem dL_setFirstSight_13 : decode cL_setFirstSight 13 = .ok (.astore 4, 2) := by decide +kernel
theorem dL_setFirstSight_15 : decode cL_setFirstSight 15 = .ok (.iconst 1, 1) := by decide +kernel
theorem dL_setFirstSight_16 : decode cL_setFirstSight 16 = .ok (.ireturn, 1) := by decide +kernel
theorem dL_setFirstSight_17 : decode cL_setFirstSight 17 = .ok (.iconst 0, 1) := by decide +kernel
theorem dL_setFirstSight_18 : decode cL_setFirstSight 18 = .ok (.ireturn, 1) := by decide +kernel
set_option maxRecDepth 20000 in
theorem ggL_answer_X4_answer : GoodIn wsL_answer wsX4_answer := goodIn_ca (goodIn_ca (goodIn_ca (goodIn_ca (goodIn_r _ [7, 8, 9, 10, 11, 12, 13, 6, 14, 15, 16, 17, 18, 19, 20, 21, 22, 23, 24, 25, 26, 27, 28, 29, 30, 31, 32, 33, 34, 35, 36, 37, 38, 39, 40, 41, 42, 43, 44, 45, 46, 47, 48, 49, 50, 51, 52, 53, 54, 55, 56, 57, 58, 59, 60, 61, 62, 63, 64, 65, 66, 67, 68, 69, 70, 71, 72, 73, 74, 75, 76, 77, 78, 79, 80, 81, 82, 83, 84, 85, 86, 87, 88, 89, 90, 91, 92, 93, 94, 95, 96, 97, 98, 99, 100, 101, 102, 103, 104, 105, 106, 107, 108, 109, 110, 111, 112, 113, 114, 115, 116, 117, 118, 119, 120, 121, 122, 123, 124, 125, 126, 127, 128, 129, 130, 131, 132, 133, 134, 135, 136, 137, 138, 139, 140, 141, 142, 143, 144, 145, 146, 147, 148, 149, 150, 151, 152, 153, 154, 155, 156, 157, 158, 159, 160, 161, 162, 163, 164, 165, 166, 167, 168, 169, 170, 171, 172, 173, 174, 175, 176, 177, 178, 179, 180, 181, 182, 183, 184, 185, 186, 187, 188, 189, 190, 191, 192, 193, 194, 195] (by decide +kernel) (by decide +kernel)) (goodIn_sub (fun _ h => List.mem_cons_of_mem _ (List.mem_append_left _ (List.mem_append_left _ (List.mem_append_left _ (List.mem_append_right _ h))))) (by decide +kernel))) (goodIn_sub (fun _ h => List.mem_cons_of_mem _ (List.mem_append_left _ (List.mem_append_left _ (List.mem_append_right _ h)))) (by decide +kernel))) (goodIn_sub (fun _ h => List.mem_cons_of_mem _ (List.mem_append_left _ (List.mem_append_right _ h))) (by decide +kernel))) (goodIn_sub (fun _ h => List.mem_cons_of_mem _ (List.mem_append_right _ h)) (by decide +kernel))
set_option maxRecDepth 20000 in
theorem gL_answer_X4_answer : GoodIn wsL_answer (wsV RL 43 RX4 yX4_answer wsX4_answer) := goodIn_app (goodIn_of _ (by decide +kernel)) ggL_answer_X4_answer
theorem dL_answer_0 : decode cL_answer 0 = .ok (.aload 5, 2) := by decide +kernel
theorem dL_answer_2 : decode cL_answer 2 = .ok (.iconst 0, 1) := by decide +kernel
theorem dL_answer_3 : decode cL_answer 3 = .ok (.aload_n 0, 1) := by decide +kernel
theorem dL_answer_4 : decode cL_answer 4 = .ok (.iload_n 1, 1) := by decide +kernel
theorem dL_answer_5 : decode cL_answer 5 = .ok (.iload_n 2, 1) := by decide +kernel
theorem dL_answer_6 : decode cL_answer 6 = .ok (.iload_n 3, 1) := by decide +kernel
theorem dL_answer_7 : decode cL_answer 7 = .ok (.iload 4, 2) := by decide +kernel
theorem dL_answer_9 : decode cL_answer 9 = .ok (.invokevirtual 43, 3) := by decide +kernel
theorem dL_answer_12 : decode cL_answer 12 = .ok (.i2l, 1) := by decide +kernel
theorem dL_answer_13 : decode cL_answer 13 = .ok (.lastore, 1) := by decide +kernel
theorem dL_answer_14 : decode cL_answer 14 = .ok (.goto 11, 3) := by decide +kernel
theorem dL_answer_17 : decode cL_answer 17 = .ok (.astore 6, 2) := by decide +kernel
theorem dL_answer_19 : decode cL_answer 19 = .ok (.iconst 1, 1) := by decide +kernel
theorem dL_answer_20 : decode cL_answer 20 = .ok (.ireturn, 1) := by decide +kernel
theorem dL_answer_21 : decode cL_answer 21 = .ok (.astore 6, 2) := by decide +kernel
theorem dL_answer_23 : decode cL_answer 23 = .ok (.iconst 2, 1) := by decide +kernel
theorem dL_answer_24 : decode cL_answer 24 = .ok (.ireturn, 1) := by decide +kernel
theorem dL_answer_25 : decode cL_answer 25 = .ok (.iconst 0, 1) := by decide +kernel
theorem dL_answer_26 : decode cL_answer 26 = .ok (.ireturn, 1) := by decide +kernel
set_option maxRecDepth 20000 in
theorem ggL_confirm_X4_confirm : GoodIn wsL_confirm wsX4_confirm := goodIn_ca (goodIn_ca (goodIn_r _ [6, 7, 8, 9, 10, 11, 12, 13, 14, 15, 5, 16, 17, 18, 19, 20, 21, 22, 23, 24, 25, 26, 27, 28, 29, 30, 31, 32, 33, 34, 35, 36, 37, 38, 39, 40, 41, 42, 43, 44, 45, 46, 47, 48, 49, 50, 51, 52, 53, 54, 55, 56, 57, 58, 59, 60, 61, 62, 63, 64, 65, 66, 67, 68, 69, 70, 71, 72, 73, 74, 75, 76, 77, 78, 79, 80, 81, 82, 83, 84, 85, 86, 87, 88, 89] (by decide +kernel) (by decide +kernel)) (goodIn_sub (fun _ h => List.mem_cons_of_mem _ (List.mem_append_left _ (List.mem_append_right _ h))) (by decide +kernel))) (goodIn_sub (fun _ h => List.mem_cons_of_mem _ (List.mem_append_right _ h)) (by decide +kernel))
set_option maxRecDepth 20000 in
theorem gL_confirm_X4_confirm : GoodIn wsL_confirm (wsV RL 47 RX4 yX4_confirm wsX4_confirm) := goodIn_app (goodIn_of _ (by decide +kernel)) ggL_confirm_X4_confirm
theorem dL_confirm_0 : decode cL_confirm 0 = .ok (.aload_n 1, 1) := by decide +kernel
theorem dL_confirm_1 : decode cL_confirm 1 = .ok (.iconst 0, 1) := by decide +kernel
theorem dL_confirm_2 : decode cL_confirm 2 = .ok (.aload_n 0, 1) := by decide +kernel
theorem dL_confirm_3 : decode cL_confirm 3 = .ok (.invokevirtual 47, 3) := by decide +kernel
theorem dL_confirm_6 : decode cL_confirm 6 = .ok (.i2l, 1) := by decide +kernel
theorem dL_confirm_7 : decode cL_confirm 7 = .ok (.lastore, 1) := by decide +kernel
theorem dL_confirm_8 : decode cL_confirm 8 = .ok (.goto 6, 3) := by decide +kernel
theorem dL_confirm_11 : decode cL_confirm 11 = .ok (.astore_n 2, 1) := by decide +kernel
theorem dL_confirm_12 : decode cL_confirm 12 = .ok (.iconst 1, 1) := by decide +kernel
theorem dL_confirm_13 : decode cL_confirm 13 = .ok (.ireturn, 1) := by decide +kernel
theorem dL_confirm_14 : decode cL_confirm 14 = .ok (.iconst 0, 1) := by decide +kernel
theorem dL_confirm_15 : decode cL_confirm 15 = .ok (.ireturn, 1) := by decide +kernel
set_option maxRecDepth 20000 in
theorem ggL_turn_X4_turn : GoodIn wsL_turn wsX4_turn := goodIn_ca (goodIn_ca (goodIn_r _ [7, 8, 9, 10, 11, 12, 13, 6, 14, 15, 16, 17, 18, 19, 20, 21, 22, 23, 24, 25, 26, 27, 28, 29, 30, 31, 32, 33, 34, 35, 36, 37, 38, 39, 40, 41, 42, 43, 44, 45, 46, 47, 48, 49, 50, 51, 52, 53, 54, 55, 56, 57, 58, 59, 60, 61, 62, 63, 64, 65, 66, 67, 68, 69, 70, 71, 72, 73, 74, 75, 76, 77, 78, 79, 80, 81, 82, 83, 84, 85, 86, 87, 88, 89, 90, 91, 92, 93, 94, 95, 96, 97, 98, 99, 100, 101, 102, 103, 104, 105, 106, 107, 108, 109, 110, 111, 112, 113, 114, 115, 116, 117, 118, 119, 120, 121, 122, 123, 124] (by decide +kernel) (by decide +kernel)) (goodIn_sub (fun _ h => List.mem_cons_of_mem _ (List.mem_append_left _ (List.mem_append_right _ h))) (by decide +kernel))) (goodIn_sub (fun _ h => List.mem_cons_of_mem _ (List.mem_append_right _ h)) (by decide +kernel))
set_option maxRecDepth 20000 in
theorem gL_turn_X4_turn : GoodIn wsL_turn (wsV RL 51 RX4 yX4_turn wsX4_turn) := goodIn_app (goodIn_of _ (by decide +kernel)) ggL_turn_X4_turn
theorem dL_turn_0 : decode cL_turn 0 = .ok (.aload 6, 2) := by decide +kernel
theorem dL_turn_2 : decode cL_turn 2 = .ok (.iconst 0, 1) := by decide +kernel
theorem dL_turn_3 : decode cL_turn 3 = .ok (.aload_n 0, 1) := by decide +kernel
theorem dL_turn_4 : decode cL_turn 4 = .ok (.iload_n 1, 1) := by decide +kernel
theorem dL_turn_5 : decode cL_turn 5 = .ok (.iload_n 2, 1) := by decide +kernel
theorem dL_turn_6 : decode cL_turn 6 = .ok (.iload_n 3, 1) := by decide +kernel
theorem dL_turn_7 : decode cL_turn 7 = .ok (.iload 4, 2) := by decide +kernel
theorem dL_turn_9 : decode cL_turn 9 = .ok (.iload 5, 2) := by decide +kernel
theorem dL_turn_11 : decode cL_turn 11 = .ok (.invokevirtual 51, 3) := by decide +kernel
theorem dL_turn_14 : decode cL_turn 14 = .ok (.i2l, 1) := by decide +kernel
theorem dL_turn_15 : decode cL_turn 15 = .ok (.lastore, 1) := by decide +kernel
theorem dL_turn_16 : decode cL_turn 16 = .ok (.goto 11, 3) := by decide +kernel
theorem dL_turn_19 : decode cL_turn 19 = .ok (.astore 7, 2) := by decide +kernel
theorem dL_turn_21 : decode cL_turn 21 = .ok (.iconst 1, 1) := by decide +kernel
theorem dL_turn_22 : decode cL_turn 22 = .ok (.ireturn, 1) := by decide +kernel
theorem dL_turn_23 : decode cL_turn 23 = .ok (.astore 7, 2) := by decide +kernel
theorem dL_turn_25 : decode cL_turn 25 = .ok (.iconst 2, 1) := by decide +kernel
theorem dL_turn_26 : decode cL_turn 26 = .ok (.ireturn, 1) := by decide +kernel
theorem dL_turn_27 : decode cL_turn 27 = .ok (.iconst 0, 1) := by decide +kernel
theorem dL_turn_28 : decode cL_turn 28 = .ok (.ireturn, 1) := by decide +kernel
set_option maxRecDepth 20000 in
theorem ggL_pass_X4_pass : GoodIn wsL_pass wsX4_pass := goodIn_ca (goodIn_ca (goodIn_r _ [7, 8, 9, 10, 11, 12, 6, 13, 14, 15, 16, 17, 18, 19, 20, 21, 22, 23, 24, 25, 26, 27] (by decide +kernel) (by decide +kernel)) (goodIn_sub (fun _ h => List.mem_cons_of_mem _ (List.mem_append_left _ (List.mem_append_right _ h))) (by decide +kernel))) (goodIn_sub (fun _ h => List.mem_cons_of_mem _ (List.mem_append_right _ h)) (by decide +kernel))
set_option maxRecDepth 20000 in
theorem gL_pass_X4_pass : GoodIn wsL_pass (wsV RL 54 RX4 yX4_pass wsX4_pass) := goodIn_app (goodIn_of _ (by decide +kernel)) ggL_pass_X4_pass
theorem dL_pass_0 : decode cL_pass 0 = .ok (.aload_n 2, 1) := by decide +kernel
theorem dL_pass_1 : decode cL_pass 1 = .ok (.iconst 0, 1) := by decide +kernel
theorem dL_pass_2 : decode cL_pass 2 = .ok (.aload_n 0, 1) := by decide +kernel
theorem dL_pass_3 : decode cL_pass 3 = .ok (.iload_n 1, 1) := by decide +kernel
theorem dL_pass_4 : decode cL_pass 4 = .ok (.invokevirtual 54, 3) := by decide +kernel
theorem dL_pass_7 : decode cL_pass 7 = .ok (.i2l, 1) := by decide +kernel
theorem dL_pass_8 : decode cL_pass 8 = .ok (.lastore, 1) := by decide +kernel
theorem dL_pass_9 : decode cL_pass 9 = .ok (.goto 9, 3) := by decide +kernel
theorem dL_pass_12 : decode cL_pass 12 = .ok (.astore_n 3, 1) := by decide +kernel
theorem dL_pass_13 : decode cL_pass 13 = .ok (.iconst 1, 1) := by decide +kernel
theorem dL_pass_14 : decode cL_pass 14 = .ok (.ireturn, 1) := by decide +kernel
theorem dL_pass_15 : decode cL_pass 15 = .ok (.astore_n 3, 1) := by decide +kernel
theorem dL_pass_16 : decode cL_pass 16 = .ok (.iconst 2, 1) := by decide +kernel
theorem dL_pass_17 : decode cL_pass 17 = .ok (.ireturn, 1) := by decide +kernel
theorem dL_pass_18 : decode cL_pass 18 = .ok (.iconst 0, 1) := by decide +kernel
theorem dL_pass_19 : decode cL_pass 19 = .ok (.ireturn, 1) := by decide +kernel
set_option maxRecDepth 20000 in
theorem ggL_clean_X4_clean : GoodIn wsL_clean wsX4_clean := goodIn_ca (goodIn_r _ [6, 7, 8, 9, 10, 5, 11, 12, 13, 14, 15, 16, 17, 18, 19, 20, 21, 22, 23, 24, 25, 26, 27, 28, 29, 30, 31, 32, 33, 34, 35, 36, 37, 38, 39, 40, 41, 42, 43, 44, 45, 46, 47, 48, 49, 50] (by decide +kernel) (by decide +kernel)) (goodIn_sub (fun _ h => List.mem_cons_of_mem _ (List.mem_append_right _ h)) (by decide +kernel))
set_option maxRecDepth 20000 in
theorem gL_clean_X4_clean : GoodIn wsL_clean (wsV RL 57 RX4 yX4_clean wsX4_clean) := goodIn_app (goodIn_of _ (by decide +kernel)) ggL_clean_X4_clean
theorem dL_clean_0 : decode cL_clean 0 = .ok (.aload_n 2, 1) := by decide +kernel
theorem dL_clean_1 : decode cL_clean 1 = .ok (.iconst 0, 1) := by decide +kernel
theorem dL_clean_2 : decode cL_clean 2 = .ok (.aload_n 0, 1) := by decide +kernel
theorem dL_clean_3 : decode cL_clean 3 = .ok (.iload_n 1, 1) := by decide +kernel
theorem dL_clean_4 : decode cL_clean 4 = .ok (.invokevirtual 57, 3) := by decide +kernel
theorem dL_clean_7 : decode cL_clean 7 = .ok (.i2l, 1) := by decide +kernel
theorem dL_clean_8 : decode cL_clean 8 = .ok (.lastore, 1) := by decide +kernel
theorem dL_clean_9 : decode cL_clean 9 = .ok (.goto 6, 3) := by decide +kernel
theorem dL_clean_12 : decode cL_clean 12 = .ok (.astore_n 3, 1) := by decide +kernel
theorem dL_clean_13 : decode cL_clean 13 = .ok (.iconst 1, 1) := by decide +kernel
theorem dL_clean_14 : decode cL_clean 14 = .ok (.ireturn, 1) := by decide +kernel
theorem dL_clean_15 : decode cL_clean 15 = .ok (.iconst 0, 1) := by decide +kernel
theorem dL_clean_16 : decode cL_clean 16 = .ok (.ireturn, 1) := by decide +kernel
set_option maxRecDepth 20000 in
theorem ggL_judge_X4_judge : GoodIn wsL_judge wsX4_judge := goodIn_ca (goodIn_ca (goodIn_r _ [7, 8, 9, 10, 6, 11, 12, 13, 14, 15, 16, 17, 18, 19, 20, 21, 22, 23, 24, 25, 26, 27, 28, 29, 30, 31, 32, 33, 34, 35, 36, 37, 38, 39, 40, 41, 42, 43, 44, 45, 46, 47, 48, 49, 50, 51, 52, 53, 54, 55, 56, 57, 58, 59, 60, 61, 62, 63, 64, 65, 66, 67, 68, 69, 70, 71, 72, 73, 74, 75, 76, 77, 78, 79, 80, 81, 82, 83, 84, 85, 86, 87, 88, 89, 90, 91, 92, 93, 94, 95, 96, 97, 98, 99, 100, 101, 102, 103, 104, 105, 106, 107, 108, 109, 110, 111, 112, 113, 114, 115, 116, 117, 118, 119, 120, 121, 122, 123, 124, 125, 126, 127, 128, 129, 130, 131, 132, 133, 134, 135, 136, 137, 138, 139, 140, 141, 142, 143, 144, 145, 146, 147, 148] (by decide +kernel) (by decide +kernel)) (goodIn_sub (fun _ h => List.mem_cons_of_mem _ (List.mem_append_left _ (List.mem_append_right _ h))) (by decide +kernel))) (goodIn_sub (fun _ h => List.mem_cons_of_mem _ (List.mem_append_right _ h)) (by decide +kernel))
set_option maxRecDepth 20000 in
theorem gL_judge_X4_judge : GoodIn wsL_judge (wsV RL 60 RX4 yX4_judge wsX4_judge) := goodIn_app (goodIn_of _ (by decide +kernel)) ggL_judge_X4_judge
theorem dL_judge_0 : decode cL_judge 0 = .ok (.aload 5, 2) := by decide +kernel
theorem dL_judge_2 : decode cL_judge 2 = .ok (.iconst 0, 1) := by decide +kernel
theorem dL_judge_3 : decode cL_judge 3 = .ok (.aload_n 0, 1) := by decide +kernel
theorem dL_judge_4 : decode cL_judge 4 = .ok (.iload_n 1, 1) := by decide +kernel
theorem dL_judge_5 : decode cL_judge 5 = .ok (.iload_n 2, 1) := by decide +kernel
theorem dL_judge_6 : decode cL_judge 6 = .ok (.iload_n 3, 1) := by decide +kernel
theorem dL_judge_7 : decode cL_judge 7 = .ok (.iload 4, 2) := by decide +kernel
theorem dL_judge_9 : decode cL_judge 9 = .ok (.invokevirtual 60, 3) := by decide +kernel
theorem dL_judge_12 : decode cL_judge 12 = .ok (.i2l, 1) := by decide +kernel
theorem dL_judge_13 : decode cL_judge 13 = .ok (.lastore, 1) := by decide +kernel
theorem dL_judge_14 : decode cL_judge 14 = .ok (.goto 11, 3) := by decide +kernel
theorem dL_judge_17 : decode cL_judge 17 = .ok (.astore 6, 2) := by decide +kernel
theorem dL_judge_19 : decode cL_judge 19 = .ok (.iconst 1, 1) := by decide +kernel
theorem dL_judge_20 : decode cL_judge 20 = .ok (.ireturn, 1) := by decide +kernel
theorem dL_judge_21 : decode cL_judge 21 = .ok (.astore 6, 2) := by decide +kernel
theorem dL_judge_23 : decode cL_judge 23 = .ok (.iconst 2, 1) := by decide +kernel
theorem dL_judge_24 : decode cL_judge 24 = .ok (.ireturn, 1) := by decide +kernel
theorem dL_judge_25 : decode cL_judge 25 = .ok (.iconst 0, 1) := by decide +kernel
theorem dL_judge_26 : decode cL_judge 26 = .ok (.ireturn, 1) := by decide +kernel
set_option maxRecDepth 20000 in
theorem ggL_judgeByReading_X4_judgeByReading : GoodIn wsL_judgeByReading wsX4_judgeByReading := goodIn_ca (goodIn_r _ [6, 7, 8, 5, 9, 10, 11, 12, 13, 14, 15, 16, 17, 18, 19, 20, 21, 22, 23, 24, 25, 26, 27, 28, 29, 30, 31, 32, 33, 34, 35, 36, 37, 38, 39, 40, 41, 42, 43, 44, 45, 46, 47, 48, 49, 50, 51, 52, 53, 54, 55, 56, 57, 58, 59, 60, 61, 62, 63, 64, 65, 66, 67, 68, 69, 70, 71, 72, 73, 74, 75, 76, 77, 78, 79, 80, 81, 82, 83, 84, 85, 86, 87, 88, 89, 90, 91, 92, 93, 94, 95, 96, 97, 98, 99] (by decide +kernel) (by decide +kernel)) (goodIn_sub (fun _ h => List.mem_cons_of_mem _ (List.mem_append_right _ h)) (by decide +kernel))
set_option maxRecDepth 20000 in
theorem gL_judgeByReading_X4_judgeByReading : GoodIn wsL_judgeByReading (wsV RL 63 RX4 yX4_judgeByReading wsX4_judgeByReading) := goodIn_app (goodIn_of _ (by decide +kernel)) ggL_judgeByReading_X4_judgeByReading
theorem dL_judgeByReading_0 : decode cL_judgeByReading 0 = .ok (.aload 4, 2) := by decide +kernel
theorem dL_judgeByReading_2 : decode cL_judgeByReading 2 = .ok (.iconst 0, 1) := by decide +kernel
theorem dL_judgeByReading_3 : decode cL_judgeByReading 3 = .ok (.aload_n 0, 1) := by decide +kernel
theorem dL_judgeByReading_4 : decode cL_judgeByReading 4 = .ok (.iload_n 1, 1) := by decide +kernel
theorem dL_judgeByReading_5 : decode cL_judgeByReading 5 = .ok (.iload_n 2, 1) := by decide +kernel
theorem dL_judgeByReading_6 : decode cL_judgeByReading 6 = .ok (.iload_n 3, 1) := by decide +kernel
theorem dL_judgeByReading_7 : decode cL_judgeByReading 7 = .ok (.invokevirtual 63, 3) := by decide +kernel
theorem dL_judgeByReading_10 : decode cL_judgeByReading 10 = .ok (.i2l, 1) := by decide +kernel
theorem dL_judgeByReading_11 : decode cL_judgeByReading 11 = .ok (.lastore, 1) := by decide +kernel
theorem dL_judgeByReading_12 : decode cL_judgeByReading 12 = .ok (.goto 7, 3) := by decide +kernel
theorem dL_judgeByReading_15 : decode cL_judgeByReading 15 = .ok (.astore 5, 2) := by decide +kernel
theorem dL_judgeByReading_17 : decode cL_judgeByReading 17 = .ok (.iconst 1, 1) := by decide +kernel
theorem dL_judgeByReading_18 : decode cL_judgeByReading 18 = .ok (.ireturn, 1) := by decide +kernel
theorem dL_judgeByReading_19 : decode cL_judgeByReading 19 = .ok (.iconst 0, 1) := by decide +kernel
theorem dL_judgeByReading_20 : decode cL_judgeByReading 20 = .ok (.ireturn, 1) := by decide +kernel
set_option maxRecDepth 20000 in
theorem ggL_keyOf_X4_keyOf : GoodIn wsL_keyOf wsX4_keyOf := goodIn_ca (goodIn_r _ [6, 7, 8, 9, 5, 10, 11, 12, 13, 14, 15, 16, 17, 18, 19, 20, 21, 22, 23, 24, 25, 26, 27, 28, 29, 30, 31, 32, 33, 34, 35, 36] (by decide +kernel) (by decide +kernel)) (goodIn_sub (fun _ h => List.mem_cons_of_mem _ (List.mem_append_right _ h)) (by decide +kernel))
set_option maxRecDepth 20000 in
theorem gL_keyOf_X4_keyOf : GoodIn wsL_keyOf (wsV RL 66 RX4 yX4_keyOf wsX4_keyOf) := goodIn_app (goodIn_of _ (by decide +kernel)) ggL_keyOf_X4_keyOf
theorem dL_keyOf_0 : decode cL_keyOf 0 = .ok (.aload_n 2, 1) := by decide +kernel
theorem dL_keyOf_1 : decode cL_keyOf 1 = .ok (.iconst 0, 1) := by decide +kernel
theorem dL_keyOf_2 : decode cL_keyOf 2 = .ok (.aload_n 0, 1) := by decide +kernel
theorem dL_keyOf_3 : decode cL_keyOf 3 = .ok (.iload_n 1, 1) := by decide +kernel
theorem dL_keyOf_4 : decode cL_keyOf 4 = .ok (.invokevirtual 66, 3) := by decide +kernel
theorem dL_keyOf_7 : decode cL_keyOf 7 = .ok (.i2l, 1) := by decide +kernel
theorem dL_keyOf_8 : decode cL_keyOf 8 = .ok (.lastore, 1) := by decide +kernel
theorem dL_keyOf_9 : decode cL_keyOf 9 = .ok (.goto 6, 3) := by decide +kernel
theorem dL_keyOf_12 : decode cL_keyOf 12 = .ok (.astore_n 3, 1) := by decide +kernel
theorem dL_keyOf_13 : decode cL_keyOf 13 = .ok (.iconst 1, 1) := by decide +kernel
theorem dL_keyOf_14 : decode cL_keyOf 14 = .ok (.ireturn, 1) := by decide +kernel
theorem dL_keyOf_15 : decode cL_keyOf 15 = .ok (.iconst 0, 1) := by decide +kernel
theorem dL_keyOf_16 : decode cL_keyOf 16 = .ok (.ireturn, 1) := by decide +kernel
set_option maxRecDepth 20000 in
theorem ggL_seen_X4_seen : GoodIn wsL_seen wsX4_seen := goodIn_ca (goodIn_r _ [6, 7, 8, 9, 5, 10, 11, 12, 13, 14, 15, 16, 17, 18, 19, 20, 21, 22, 23, 24, 25, 26, 27, 28, 29, 30, 31, 32, 33, 34, 35, 36] (by decide +kernel) (by decide +kernel)) (goodIn_sub (fun _ h => List.mem_cons_of_mem _ (List.mem_append_right _ h)) (by decide +kernel))
set_option maxRecDepth 20000 in
theorem gL_seen_X4_seen : GoodIn wsL_seen (wsV RL 69 RX4 yX4_seen wsX4_seen) := goodIn_app (goodIn_of _ (by decide +kernel)) ggL_seen_X4_seen
theorem dL_seen_0 : decode cL_seen 0 = .ok (.aload_n 2, 1) := by decide +kernel
theorem dL_seen_1 : decode cL_seen 1 = .ok (.iconst 0, 1) := by decide +kernel
theorem dL_seen_2 : decode cL_seen 2 = .ok (.aload_n 0, 1) := by decide +kernel
theorem dL_seen_3 : decode cL_seen 3 = .ok (.iload_n 1, 1) := by decide +kernel
theorem dL_seen_4 : decode cL_seen 4 = .ok (.invokevirtual 69, 3) := by decide +kernel
theorem dL_seen_7 : decode cL_seen 7 = .ok (.i2l, 1) := by decide +kernel
theorem dL_seen_8 : decode cL_seen 8 = .ok (.lastore, 1) := by decide +kernel
theorem dL_seen_9 : decode cL_seen 9 = .ok (.goto 6, 3) := by decide +kernel
theorem dL_seen_12 : decode cL_seen 12 = .ok (.astore_n 3, 1) := by decide +kernel
theorem dL_seen_13 : decode cL_seen 13 = .ok (.iconst 1, 1) := by decide +kernel
theorem dL_seen_14 : decode cL_seen 14 = .ok (.ireturn, 1) := by decide +kernel
theorem dL_seen_15 : decode cL_seen 15 = .ok (.iconst 0, 1) := by decide +kernel
theorem dL_seen_16 : decode cL_seen 16 = .ok (.ireturn, 1) := by decide +kernel
set_option maxRecDepth 20000 in
theorem ggL_end_X4_end : GoodIn wsL_end wsX4_end := goodIn_ca (goodIn_r _ [6, 7, 8, 9, 5, 10, 11, 12, 13, 14, 15, 16, 17, 18, 19, 20, 21, 22, 23, 24, 25, 26, 27, 28, 29, 30, 31, 32, 33, 34, 35, 36] (by decide +kernel) (by decide +kernel)) (goodIn_sub (fun _ h => List.mem_cons_of_mem _ (List.mem_append_right _ h)) (by decide +kernel))
set_option maxRecDepth 20000 in
theorem gL_end_X4_end : GoodIn wsL_end (wsV RL 72 RX4 yX4_end wsX4_end) := goodIn_app (goodIn_of _ (by decide +kernel)) ggL_end_X4_end
theorem dL_end_0 : decode cL_end 0 = .ok (.aload_n 2, 1) := by decide +kernel
theorem dL_end_1 : decode cL_end 1 = .ok (.iconst 0, 1) := by decide +kernel
theorem dL_end_2 : decode cL_end 2 = .ok (.aload_n 0, 1) := by decide +kernel
theorem dL_end_3 : decode cL_end 3 = .ok (.iload_n 1, 1) := by decide +kernel
theorem dL_end_4 : decode cL_end 4 = .ok (.invokevirtual 72, 3) := by decide +kernel
theorem dL_end_7 : decode cL_end 7 = .ok (.i2l, 1) := by decide +kernel
theorem dL_end_8 : decode cL_end 8 = .ok (.lastore, 1) := by decide +kernel
theorem dL_end_9 : decode cL_end 9 = .ok (.goto 6, 3) := by decide +kernel
theorem dL_end_12 : decode cL_end 12 = .ok (.astore_n 3, 1) := by decide +kernel
theorem dL_end_13 : decode cL_end 13 = .ok (.iconst 1, 1) := by decide +kernel
theorem dL_end_14 : decode cL_end 14 = .ok (.ireturn, 1) := by decide +kernel
theorem dL_end_15 : decode cL_end 15 = .ok (.iconst 0, 1) := by decide +kernel
theorem dL_end_16 : decode cL_end 16 = .ok (.ireturn, 1) := by decide +kernel
set_option maxRecDepth 20000 in
theorem ggL_matches_X4_matches : GoodIn wsL_matches wsX4_matches := goodIn_ca (goodIn_ca (goodIn_r _ [7, 8, 9, 10, 6, 11, 12, 13, 14, 15, 16, 17, 18, 19, 20, 21, 22, 23, 24, 25, 26, 27, 28, 29, 30, 31, 32, 33, 34, 35, 36, 37, 38, 39, 40, 41, 42, 43, 44, 45, 46, 47, 48, 49, 50, 51, 52, 53, 54, 55, 56, 57, 58, 59, 60, 61, 62, 63, 64, 65, 66, 67, 68, 69, 70, 71, 72, 73] (by decide +kernel) (by decide +kernel)) (goodIn_sub (fun _ h => List.mem_cons_of_mem _ (List.mem_append_left _ (List.mem_append_right _ h))) (by decide +kernel))) (goodIn_sub (fun _ h => List.mem_cons_of_mem _ (List.mem_append_right _ h)) (by decide +kernel))
set_option maxRecDepth 20000 in
theorem gL_matches_X4_matches : GoodIn wsL_matches (wsV RL 75 RX4 yX4_matches wsX4_matches) := goodIn_app (goodIn_of _ (by decide +kernel)) ggL_matches_X4_matches
theorem dL_matches_0 : decode cL_matches 0 = .ok (.aload 4, 2) := by decide +kernel
theorem dL_matches_2 : decode cL_matches 2 = .ok (.iconst 0, 1) := by decide +kernel
theorem dL_matches_3 : decode cL_matches 3 = .ok (.aload_n 0, 1) := by decide +kernel
theorem dL_matches_4 : decode cL_matches 4 = .ok (.iload_n 1, 1) := by decide +kernel
theorem dL_matches_5 : decode cL_matches 5 = .ok (.iload_n 2, 1) := by decide +kernel
theorem dL_matches_6 : decode cL_matches 6 = .ok (.iload_n 3, 1) := by decide +kernel
theorem dL_matches_7 : decode cL_matches 7 = .ok (.invokevirtual 75, 3) := by decide +kernel
theorem dL_matches_10 : decode cL_matches 10 = .ok (.ifCond .eq 7, 3) := by decide +kernel
theorem dL_matches_13 : decode cL_matches 13 = .ok (.lconst 1, 1) := by decide +kernel
theorem dL_matches_14 : decode cL_matches 14 = .ok (.goto 4, 3) := by decide +kernel
theorem dL_matches_17 : decode cL_matches 17 = .ok (.lconst 0, 1) := by decide +kernel
theorem dL_matches_18 : decode cL_matches 18 = .ok (.lastore, 1) := by decide +kernel
theorem dL_matches_19 : decode cL_matches 19 = .ok (.goto 11, 3) := by decide +kernel
theorem dL_matches_22 : decode cL_matches 22 = .ok (.astore 5, 2) := by decide +kernel
theorem dL_matches_24 : decode cL_matches 24 = .ok (.iconst 1, 1) := by decide +kernel
theorem dL_matches_25 : decode cL_matches 25 = .ok (.ireturn, 1) := by decide +kernel
theorem dL_matches_26 : decode cL_matches 26 = .ok (.astore 5, 2) := by decide +kernel
theorem dL_matches_28 : decode cL_matches 28 = .ok (.iconst 2, 1) := by decide +kernel
theorem dL_matches_29 : decode cL_matches 29 = .ok (.ireturn, 1) := by decide +kernel
theorem dL_matches_30 : decode cL_matches 30 = .ok (.iconst 0, 1) := by decide +kernel
theorem dL_matches_31 : decode cL_matches 31 = .ok (.ireturn, 1) := by decide +kernel
set_option maxRecDepth 20000 in
theorem ggL_find_X4_find : GoodIn wsL_find wsX4_find := goodIn_ca (goodIn_r _ [6, 7, 8, 9, 10, 5, 11, 12, 13, 14, 15, 16, 17, 18, 19, 20, 21, 22, 23, 24, 25, 26, 27, 28, 29, 30, 31, 32, 33, 34, 35, 36, 37, 38, 39, 40, 41, 42, 43, 44, 45, 46, 47, 48, 49, 50, 51, 52, 53, 54, 55, 56, 57, 58, 59, 60, 61, 62, 63, 64, 65, 66] (by decide +kernel) (by decide +kernel)) (goodIn_sub (fun _ h => List.mem_cons_of_mem _ (List.mem_append_right _ h)) (by decide +kernel))
set_option maxRecDepth 20000 in
theorem gL_find_X4_find : GoodIn wsL_find (wsV RL 79 RX4 yX4_find wsX4_find) := goodIn_app (goodIn_of _ (by decide +kernel)) ggL_find_X4_find
theorem dL_find_0 : decode cL_find 0 = .ok (.aload_n 3, 1) := by decide +kernel
theorem dL_find_1 : decode cL_find 1 = .ok (.iconst 0, 1) := by decide +kernel
theorem dL_find_2 : decode cL_find 2 = .ok (.aload_n 0, 1) := by decide +kernel
theorem dL_find_3 : decode cL_find 3 = .ok (.iload_n 1, 1) := by decide +kernel
theorem dL_find_4 : decode cL_find 4 = .ok (.iload_n 2, 1) := by decide +kernel
theorem dL_find_5 : decode cL_find 5 = .ok (.invokevirtual 79, 3) := by decide +kernel
theorem dL_find_8 : decode cL_find 8 = .ok (.i2l, 1) := by decide +kernel
theorem dL_find_9 : decode cL_find 9 = .ok (.lastore, 1) := by decide +kernel
theorem dL_find_10 : decode cL_find 10 = .ok (.goto 7, 3) := by decide +kernel
theorem dL_find_13 : decode cL_find 13 = .ok (.astore 4, 2) := by decide +kernel
theorem dL_find_15 : decode cL_find 15 = .ok (.iconst 1, 1) := by decide +kernel
theorem dL_find_16 : decode cL_find 16 = .ok (.ireturn, 1) := by decide +kernel
theorem dL_find_17 : decode cL_find 17 = .ok (.iconst 0, 1) := by decide +kernel
theorem dL_find_18 : decode cL_find 18 = .ok (.ireturn, 1) := by decide +kernel
set_option maxRecDepth 20000 in
theorem ggL_linesOf_X4_linesOf : GoodIn wsL_linesOf wsX4_linesOf := goodIn_ca (goodIn_r _ [6, 7, 8, 9, 10, 5, 11, 12, 13, 14, 15, 16, 17, 18, 19, 20, 21, 22, 23, 24, 25, 26, 27, 28, 29, 30, 31, 32, 33, 34, 35, 36, 37, 38] (by decide +kernel) (by decide +kernel)) (goodIn_sub (fun _ h => List.mem_cons_of_mem _ (List.mem_append_right _ h)) (by decide +kernel))
set_option maxRecDepth 20000 in
theorem gL_linesOf_X4_linesOf : GoodIn wsL_linesOf (wsV RL 82 RX4 yX4_linesOf wsX4_linesOf) := goodIn_app (goodIn_of _ (by decide +kernel)) ggL_linesOf_X4_linesOf
theorem dL_linesOf_0 : decode cL_linesOf 0 = .ok (.aload_n 2, 1) := by decide +kernel
theorem dL_linesOf_1 : decode cL_linesOf 1 = .ok (.iconst 0, 1) := by decide +kernel
theorem dL_linesOf_2 : decode cL_linesOf 2 = .ok (.aload_n 0, 1) := by decide +kernel
theorem dL_linesOf_3 : decode cL_linesOf 3 = .ok (.iload_n 1, 1) := by decide +kernel
theorem dL_linesOf_4 : decode cL_linesOf 4 = .ok (.invokevirtual 82, 3) := by decide +kernel
theorem dL_linesOf_7 : decode cL_linesOf 7 = .ok (.lastore, 1) := by decide +kernel
theorem dL_linesOf_8 : decode cL_linesOf 8 = .ok (.goto 6, 3) := by decide +kernel
theorem dL_linesOf_11 : decode cL_linesOf 11 = .ok (.astore_n 3, 1) := by decide +kernel
theorem dL_linesOf_12 : decode cL_linesOf 12 = .ok (.iconst 1, 1) := by decide +kernel
theorem dL_linesOf_13 : decode cL_linesOf 13 = .ok (.ireturn, 1) := by decide +kernel
theorem dL_linesOf_14 : decode cL_linesOf 14 = .ok (.iconst 0, 1) := by decide +kernel
theorem dL_linesOf_15 : decode cL_linesOf 15 = .ok (.ireturn, 1) := by decide +kernel
