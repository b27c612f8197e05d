theorem dL_draw_0 : decode cL_draw 0 = .ok (.iload_n 1, 1) := by decide +kernel
theorem dL_draw_1 : decode cL_draw 1 = .ok (.aload_n 0, 1) := by decide +kernel
theorem dL_draw_2 : decode cL_draw 2 = .ok (.arraylength, 1) := by decide +kernel
theorem dL_draw_3 : decode cL_draw 3 = .ok (.if_icmp .ge 12, 3) := by decide +kernel
theorem dL_draw_6 : decode cL_draw 6 = .ok (.aload_n 0, 1) := by decide +kernel
theorem dL_draw_7 : decode cL_draw 7 = .ok (.iload_n 1, 1) := by decide +kernel
theorem dL_draw_8 : decode cL_draw 8 = .ok (.iaload, 1) := by decide +kernel
theorem dL_draw_9 : decode cL_draw 9 = .ok (.ldc 7, 2) := by decide +kernel
theorem dL_draw_11 : decode cL_draw 11 = .ok (.iand, 1) := by decide +kernel
theorem dL_draw_12 : decode cL_draw 12 = .ok (.goto 12, 3) := by decide +kernel
theorem dL_draw_15 : decode cL_draw 15 = .ok (.ldc 8, 2) := by decide +kernel
theorem dL_draw_17 : decode cL_draw 17 = .ok (.iload_n 1, 1) := by decide +kernel
theorem dL_draw_18 : decode cL_draw 18 = .ok (.iconst 2, 1) := by decide +kernel
theorem dL_draw_19 : decode cL_draw 19 = .ok (.iadd, 1) := by decide +kernel
theorem dL_draw_20 : decode cL_draw 20 = .ok (.imul, 1) := by decide +kernel
theorem dL_draw_21 : decode cL_draw 21 = .ok (.ldc 9, 2) := by decide +kernel
theorem dL_draw_23 : decode cL_draw 23 = .ok (.irem, 1) := by decide +kernel
theorem dL_draw_24 : decode cL_draw 24 = .ok (.ireturn, 1) := by decide +kernel
theorem dL_name_0 : decode cL_name 0 = .ok (.iload_n 0, 1) := by decide +kernel
theorem dL_name_1 : decode cL_name 1 = .ok (.iconst 3, 1) := by decide +kernel
theorem dL_name_2 : decode cL_name 2 = .ok (.irem, 1) := by decide +kernel
theorem dL_name_3 : decode cL_name 3 = .ok (.ifCond .ne 13, 3) := by decide +kernel
theorem dL_name_6 : decode cL_name 6 = .ok (.iload_n 0, 1) := by decide +kernel
theorem dL_name_7 : decode cL_name 7 = .ok (.iconst 3, 1) := by decide +kernel
theorem dL_name_8 : decode cL_name 8 = .ok (.idiv, 1) := by decide +kernel
theorem dL_name_9 : decode cL_name 9 = .ok (.sipush 10000, 3) := by decide +kernel
theorem dL_name_12 : decode cL_name 12 = .ok (.irem, 1) := by decide +kernel
theorem dL_name_13 : decode cL_name 13 = .ok (.goto 22, 3) := by decide +kernel
theorem dL_name_16 : decode cL_name 16 = .ok (.sipush 1200, 3) := by decide +kernel
theorem dL_name_19 : decode cL_name 19 = .ok (.iload_n 0, 1) := by decide +kernel
theorem dL_name_20 : decode cL_name 20 = .ok (.iconst 3, 1) := by decide +kernel
theorem dL_name_21 : decode cL_name 21 = .ok (.idiv, 1) := by decide +kernel
theorem dL_name_22 : decode cL_name 22 = .ok (.iconst 4, 1) := by decide +kernel
theorem dL_name_23 : decode cL_name 23 = .ok (.irem, 1) := by decide +kernel
theorem dL_name_24 : decode cL_name 24 = .ok (.iadd, 1) := by decide +kernel
theorem dL_name_25 : decode cL_name 25 = .ok (.bipush 10, 2) := by decide +kernel
theorem dL_name_27 : decode cL_name 27 = .ok (.iload_n 0, 1) := by decide +kernel
theorem dL_name_28 : decode cL_name 28 = .ok (.bipush 12, 2) := by decide +kernel
theorem dL_name_30 : decode cL_name 30 = .ok (.idiv, 1) := by decide +kernel
theorem dL_name_31 : decode cL_name 31 = .ok (.iconst 2, 1) := by decide +kernel
theorem dL_name_32 : decode cL_name 32 = .ok (.irem, 1) := by decide +kernel
theorem dL_name_33 : decode cL_name 33 = .ok (.imul, 1) := by decide +kernel
theorem dL_name_34 : decode cL_name 34 = .ok (.iadd, 1) := by decide +kernel
theorem dL_name_35 : decode cL_name 35 = .ok (.ireturn, 1) := by decide +kernel
set_option maxRecDepth 20000 in
theorem ggL_due_X4_keyOf : GoodIn wsL_due wsX4_keyOf := goodIn_ca (goodIn_r _ [5, 6, 7, 8, 4, 9, 10, 11, 12, 13, 54, 55, 56, 57, 58, 59, 60, 61, 62, 63, 64, 65, 66, 67, 68, 69, 70, 71, 72, 73, 74, 75] (by decide +kernel) (by decide +kernel)) (goodIn_sub (fun _ h => List.mem_cons_of_mem _ (List.mem_append_left _ (List.mem_append_right _ h))) (by decide +kernel))
set_option maxRecDepth 20000 in
theorem gL_due_X4_keyOf : GoodIn wsL_due (wsV RL 38 RX4 yX4_keyOf wsX4_keyOf) := goodIn_app (goodIn_of _ (by decide +kernel)) ggL_due_X4_keyOf
set_option maxRecDepth 20000 in
theorem ggL_due_X4_end : GoodIn wsL_due wsX4_end := goodIn_ca (goodIn_r _ [17, 6, 7, 8, 4, 9, 10, 11, 12, 13, 54, 55, 56, 57, 58, 59, 60, 61, 62, 63, 64, 65, 66, 67, 68, 69, 70, 71, 72, 73, 74, 75] (by decide +kernel) (by decide +kernel)) (goodIn_sub (fun _ h => List.mem_cons_of_mem _ (List.mem_append_left _ (List.mem_append_right _ h))) (by decide +kernel))
set_option maxRecDepth 20000 in
theorem gL_due_X4_end : GoodIn wsL_due (wsV RL 78 RX4 yX4_end wsX4_end) := goodIn_app (goodIn_of _ (by decide +kernel)) ggL_due_X4_end
set_option maxRecDepth 20000 in
theorem ggL_due_X4_matches : GoodIn wsL_due wsX4_matches := goodIn_ca (goodIn_ca (goodIn_r _ [21, 6, 7, 8, 4, 9, 10, 11, 12, 13, 22, 23, 24, 25, 26, 27, 28, 29, 30, 31, 32, 33, 34, 35, 36, 37, 38, 39, 40, 41, 42, 43, 44, 45, 46, 47, 48, 49, 50, 51, 52, 53, 64, 65, 66, 67, 68, 69, 70, 71, 72, 73, 74, 75, 54, 55, 56, 57, 58, 59, 60, 61, 62, 63, 76, 77, 78, 79] (by decide +kernel) (by decide +kernel)) (goodIn_sub (fun _ h => List.mem_cons_of_mem _ (List.mem_append_left _ (List.mem_append_right _ h))) (by decide +kernel))) (goodIn_sub (fun _ h => List.mem_cons_of_mem _ (List.mem_append_right _ h)) (by decide +kernel))
set_option maxRecDepth 20000 in
theorem gL_due_X4_matches : GoodIn wsL_due (wsV RL 30 RX4 yX4_matches wsX4_matches) := goodIn_app (goodIn_of _ (by decide +kernel)) ggL_due_X4_matches
theorem dL_due_0 : decode cL_due 0 = .ok (.iconst 5, 1) := by decide +kernel
theorem dL_due_1 : decode cL_due 1 = .ok (.istore 5, 2) := by decide +kernel
theorem dL_due_3 : decode cL_due 3 = .ok (.iconst 0, 1) := by decide +kernel
theorem dL_due_4 : decode cL_due 4 = .ok (.istore 6, 2) := by decide +kernel
theorem dL_due_6 : decode cL_due 6 = .ok (.iload 6, 2) := by decide +kernel
theorem dL_due_8 : decode cL_due 8 = .ok (.aload_n 1, 1) := by decide +kernel
theorem dL_due_9 : decode cL_due 9 = .ok (.iconst 1, 1) := by decide +kernel
theorem dL_due_10 : decode cL_due 10 = .ok (.iaload, 1) := by decide +kernel
theorem dL_due_11 : decode cL_due 11 = .ok (.if_icmp .ge 149, 3) := by decide +kernel
theorem dL_due_14 : decode cL_due 14 = .ok (.aload_n 0, 1) := by decide +kernel
theorem dL_due_15 : decode cL_due 15 = .ok (.iload 6, 2) := by decide +kernel
theorem dL_due_17 : decode cL_due 17 = .ok (.invokevirtual 38, 3) := by decide +kernel
theorem dL_due_20 : decode cL_due 20 = .ok (.istore 7, 2) := by decide +kernel
theorem dL_due_22 : decode cL_due 22 = .ok (.aload_n 0, 1) := by decide +kernel
theorem dL_due_23 : decode cL_due 23 = .ok (.iload 6, 2) := by decide +kernel
theorem dL_due_25 : decode cL_due 25 = .ok (.invokevirtual 78, 3) := by decide +kernel
theorem dL_due_28 : decode cL_due 28 = .ok (.iconst (-1), 1) := by decide +kernel
theorem dL_due_29 : decode cL_due 29 = .ok (.if_icmp .eq 19, 3) := by decide +kernel
theorem dL_due_32 : decode cL_due 32 = .ok (.aload_n 0, 1) := by decide +kernel
theorem dL_due_33 : decode cL_due 33 = .ok (.iload 6, 2) := by decide +kernel
theorem dL_due_35 : decode cL_due 35 = .ok (.invokevirtual 78, 3) := by decide +kernel
theorem dL_due_38 : decode cL_due 38 = .ok (.aload_n 1, 1) := by decide +kernel
theorem dL_due_39 : decode cL_due 39 = .ok (.iconst 0, 1) := by decide +kernel
theorem dL_due_40 : decode cL_due 40 = .ok (.iaload, 1) := by decide +kernel
theorem dL_due_41 : decode cL_due 41 = .ok (.if_icmp .gt 7, 3) := by decide +kernel
theorem dL_due_44 : decode cL_due 44 = .ok (.iconst 1, 1) := by decide +kernel
theorem dL_due_45 : decode cL_due 45 = .ok (.goto 4, 3) := by decide +kernel
theorem dL_due_48 : decode cL_due 48 = .ok (.iconst 0, 1) := by decide +kernel
theorem dL_due_49 : decode cL_due 49 = .ok (.istore 8, 2) := by decide +kernel
theorem dL_due_51 : decode cL_due 51 = .ok (.aload_n 0, 1) := by decide +kernel
theorem dL_due_52 : decode cL_due 52 = .ok (.iload 6, 2) := by decide +kernel
theorem dL_due_54 : decode cL_due 54 = .ok (.iload_n 2, 1) := by decide +kernel
theorem dL_due_55 : decode cL_due 55 = .ok (.iload_n 3, 1) := by decide +kernel
theorem dL_due_56 : decode cL_due 56 = .ok (.invokevirtual 30, 3) := by decide +kernel
theorem dL_due_59 : decode cL_due 59 = .ok (.istore 9, 2) := by decide +kernel
theorem dL_due_61 : decode cL_due 61 = .ok (.iload 7, 2) := by decide +kernel
theorem dL_due_63 : decode cL_due 63 = .ok (.sipush 1000, 3) := by decide +kernel
theorem dL_due_66 : decode cL_due 66 = .ok (.idiv, 1) := by decide +kernel
theorem dL_due_67 : decode cL_due 67 = .ok (.iconst 1, 1) := by decide +kernel
theorem dL_due_68 : decode cL_due 68 = .ok (.if_icmp .ne 18, 3) := by decide +kernel
theorem dL_due_71 : decode cL_due 71 = .ok (.iload 7, 2) := by decide +kernel
theorem dL_due_73 : decode cL_due 73 = .ok (.sipush 1000, 3) := by decide +kernel
theorem dL_due_76 : decode cL_due 76 = .ok (.irem, 1) := by decide +kernel
theorem dL_due_77 : decode cL_due 77 = .ok (.iload 4, 2) := by decide +kernel
theorem dL_due_79 : decode cL_due 79 = .ok (.if_icmp .ne 7, 3) := by decide +kernel
theorem dL_due_82 : decode cL_due 82 = .ok (.iconst 0, 1) := by decide +kernel
theorem dL_due_83 : decode cL_due 83 = .ok (.goto 48, 3) := by decide +kernel
theorem dL_due_86 : decode cL_due 86 = .ok (.iload 7, 2) := by decide +kernel
theorem dL_due_88 : decode cL_due 88 = .ok (.sipush 1000, 3) := by decide +kernel
theorem dL_due_91 : decode cL_due 91 = .ok (.idiv, 1) := by decide +kernel
theorem dL_due_92 : decode cL_due 92 = .ok (.ifCond .gt 8, 3) := by decide +kernel
theorem dL_due_95 : decode cL_due 95 = .ok (.iload 8, 2) := by decide +kernel
theorem dL_due_97 : decode cL_due 97 = .ok (.ifCond .eq 7, 3) := by decide +kernel
theorem dL_due_100 : decode cL_due 100 = .ok (.iconst 5, 1) := by decide +kernel
theorem dL_due_101 : decode cL_due 101 = .ok (.goto 30, 3) := by decide +kernel
theorem dL_due_104 : decode cL_due 104 = .ok (.iload 7, 2) := by decide +kernel
theorem dL_due_106 : decode cL_due 106 = .ok (.iload 4, 2) := by decide +kernel
theorem dL_due_108 : decode cL_due 108 = .ok (.if_icmp .ne 7, 3) := by decide +kernel
theorem dL_due_111 : decode cL_due 111 = .ok (.iconst 2, 1) := by decide +kernel
theorem dL_due_112 : decode cL_due 112 = .ok (.goto 19, 3) := by decide +kernel
theorem dL_due_115 : decode cL_due 115 = .ok (.iload 7, 2) := by decide +kernel
theorem dL_due_117 : decode cL_due 117 = .ok (.iconst 3, 1) := by decide +kernel
theorem dL_due_118 : decode cL_due 118 = .ok (.irem, 1) := by decide +kernel
theorem dL_due_119 : decode cL_due 119 = .ok (.iload 4, 2) := by decide +kernel
theorem dL_due_121 : decode cL_due 121 = .ok (.iconst 3, 1) := by decide +kernel
theorem dL_due_122 : decode cL_due 122 = .ok (.irem, 1) := by decide +kernel
theorem dL_due_123 : decode cL_due 123 = .ok (.if_icmp .ne 7, 3) := by decide +kernel
theorem dL_due_126 : decode cL_due 126 = .ok (.iconst 3, 1) := by decide +kernel
theorem dL_due_127 : decode cL_due 127 = .ok (.goto 4, 3) := by decide +kernel
theorem dL_due_130 : decode cL_due 130 = .ok (.iconst 4, 1) := by decide +kernel
theorem dL_due_131 : decode cL_due 131 = .ok (.istore 10, 2) := by decide +kernel
theorem dL_due_133 : decode cL_due 133 = .ok (.iload 9, 2) := by decide +kernel
theorem dL_due_135 : decode cL_due 135 = .ok (.ifCond .eq 15, 3) := by decide +kernel
theorem dL_due_138 : decode cL_due 138 = .ok (.iload 10, 2) := by decide +kernel
theorem dL_due_140 : decode cL_due 140 = .ok (.iload 5, 2) := by decide +kernel
theorem dL_due_142 : decode cL_due 142 = .ok (.if_icmp .ge 8, 3) := by decide +kernel
theorem dL_due_145 : decode cL_due 145 = .ok (.iload 10, 2) := by decide +kernel
theorem dL_due_147 : decode cL_due 147 = .ok (.goto 5, 3) := by decide +kernel
theorem dL_due_150 : decode cL_due 150 = .ok (.iload 5, 2) := by decide +kernel
theorem dL_due_152 : decode cL_due 152 = .ok (.istore 5, 2) := by decide +kernel
theorem dL_due_154 : decode cL_due 154 = .ok (.iinc 6 1, 3) := by decide +kernel
theorem dL_due_157 : decode cL_due 157 = .ok (.goto (-151), 3) := by decide +kernel
theorem dL_due_160 : decode cL_due 160 = .ok (.iload 5, 2) := by decide +kernel
theorem dL_due_162 : decode cL_due 162 = .ok (.ireturn, 1) := by decide +kernel
set_option maxRecDepth 20000 in
theorem ggL_certificates_X4_revokeSpan : GoodIn wsL_certificates wsX4_revokeSpan := goodIn_ca (goodIn_ca (goodIn_r _ [5, 6, 7, 8, 9, 10, 11, 12, 13, 14, 4, 15, 16, 17, 18, 19, 20, 21, 22, 23, 24, 25, 26, 27, 28, 29, 30, 31, 32, 33, 34, 35, 36, 37, 38, 39, 40, 41, 42, 43, 62, 63, 64, 65, 66, 67, 68, 69, 70, 71, 72, 73, 74, 75, 76, 77, 78, 79, 80, 81, 82, 83] (by decide +kernel) (by decide +kernel)) (goodIn_sub (fun _ h => List.mem_cons_of_mem _ (List.mem_append_left _ (List.mem_append_right _ h))) (by decide +kernel))) (goodIn_sub (fun _ h => List.mem_cons_of_mem _ (List.mem_append_right _ h)) (by decide +kernel))
set_option maxRecDepth 20000 in
theorem gL_certificates_X4_revokeSpan : GoodIn wsL_certificates (wsV RL 89 RX4 yX4_revokeSpan wsX4_revokeSpan) := goodIn_app (goodIn_of _ (by decide +kernel)) ggL_certificates_X4_revokeSpan
set_option maxRecDepth 20000 in
theorem ggL_certificates_X4_certify : GoodIn wsL_certificates wsX4_certify := goodIn_ca (goodIn_ca (goodIn_r _ [47, 6, 7, 34, 35, 48, 49, 50, 13, 14, 4, 15, 16, 17, 18, 19, 20, 51, 52, 53, 54, 25, 26, 55, 56, 57, 58, 59, 60, 61, 62, 63, 64, 65, 66, 67, 68, 69, 70, 71, 72, 73, 77, 78, 79, 80, 81, 82, 83] (by decide +kernel) (by decide +kernel)) (goodIn_sub (fun _ h => List.mem_cons_of_mem _ (List.mem_append_left _ (List.mem_append_right _ h))) (by decide +kernel))) (goodIn_sub (fun _ h => List.mem_cons_of_mem _ (List.mem_append_right _ h)) (by decide +kernel))
set_option maxRecDepth 20000 in
theorem gL_certificates_X4_certify : GoodIn wsL_certificates (wsV RL 93 RX4 yX4_certify wsX4_certify) := goodIn_app (goodIn_of _ (by decide +kernel)) ggL_certificates_X4_certify
theorem dL_certificates_0 : decode cL_certificates 0 = .ok (.iload_n 3, 1) := by decide +kernel
theorem dL_certificates_1 : decode cL_certificates 1 = .ok (.iconst 4, 1) := by decide +kernel
theorem dL_certificates_2 : decode cL_certificates 2 = .ok (.irem, 1) := by decide +kernel
theorem dL_certificates_3 : decode cL_certificates 3 = .ok (.ifCond .ne 72, 3) := by decide +kernel
theorem dL_certificates_6 : decode cL_certificates 6 = .ok (.aload_n 1, 1) := by decide +kernel
theorem dL_certificates_7 : decode cL_certificates 7 = .ok (.iconst 3, 1) := by decide +kernel
theorem dL_certificates_8 : decode cL_certificates 8 = .ok (.iaload, 1) := by decide +kernel
theorem dL_certificates_9 : decode cL_certificates 9 = .ok (.bipush 20, 2) := by decide +kernel
theorem dL_certificates_11 : decode cL_certificates 11 = .ok (.if_icmp .ge 64, 3) := by decide +kernel
theorem dL_certificates_14 : decode cL_certificates 14 = .ok (.aload_n 1, 1) := by decide +kernel
theorem dL_certificates_15 : decode cL_certificates 15 = .ok (.iconst 3, 1) := by decide +kernel
theorem dL_certificates_16 : decode cL_certificates 16 = .ok (.dup2, 1) := by decide +kernel
theorem dL_certificates_17 : decode cL_certificates 17 = .ok (.iaload, 1) := by decide +kernel
theorem dL_certificates_18 : decode cL_certificates 18 = .ok (.iconst 1, 1) := by decide +kernel
theorem dL_certificates_19 : decode cL_certificates 19 = .ok (.iadd, 1) := by decide +kernel
theorem dL_certificates_20 : decode cL_certificates 20 = .ok (.iastore, 1) := by decide +kernel
theorem dL_certificates_21 : decode cL_certificates 21 = .ok (.iload_n 2, 1) := by decide +kernel
theorem dL_certificates_22 : decode cL_certificates 22 = .ok (.sipush 1000, 3) := by decide +kernel
theorem dL_certificates_25 : decode cL_certificates 25 = .ok (.irem, 1) := by decide +kernel
theorem dL_certificates_26 : decode cL_certificates 26 = .ok (.istore 6, 2) := by decide +kernel
theorem dL_certificates_28 : decode cL_certificates 28 = .ok (.aload_n 0, 1) := by decide +kernel
theorem dL_certificates_29 : decode cL_certificates 29 = .ok (.iload_n 3, 1) := by decide +kernel
theorem dL_certificates_30 : decode cL_certificates 30 = .ok (.iconst 4, 1) := by decide +kernel
theorem dL_certificates_31 : decode cL_certificates 31 = .ok (.idiv, 1) := by decide +kernel
theorem dL_certificates_32 : decode cL_certificates 32 = .ok (.bipush 6, 2) := by decide +kernel
theorem dL_certificates_34 : decode cL_certificates 34 = .ok (.irem, 1) := by decide +kernel
theorem dL_certificates_35 : decode cL_certificates 35 = .ok (.iload 6, 2) := by decide +kernel
theorem dL_certificates_37 : decode cL_certificates 37 = .ok (.iload 6, 2) := by decide +kernel
theorem dL_certificates_39 : decode cL_certificates 39 = .ok (.iload_n 3, 1) := by decide +kernel
theorem dL_certificates_40 : decode cL_certificates 40 = .ok (.bipush 24, 2) := by decide +kernel
theorem dL_certificates_42 : decode cL_certificates 42 = .ok (.idiv, 1) := by decide +kernel
theorem dL_certificates_43 : decode cL_certificates 43 = .ok (.sipush 1000, 3) := by decide +kernel
theorem dL_certificates_46 : decode cL_certificates 46 = .ok (.iload 6, 2) := by decide +kernel
theorem dL_certificates_48 : decode cL_certificates 48 = .ok (.isub, 1) := by decide +kernel
theorem dL_certificates_49 : decode cL_certificates 49 = .ok (.irem, 1) := by decide +kernel
theorem dL_certificates_50 : decode cL_certificates 50 = .ok (.iadd, 1) := by decide +kernel
theorem dL_certificates_51 : decode cL_certificates 51 = .ok (.invokevirtual 89, 3) := by decide +kernel
theorem dL_certificates_54 : decode cL_certificates 54 = .ok (.istore 7, 2) := by decide +kernel
theorem dL_certificates_56 : decode cL_certificates 56 = .ok (.iload 7, 2) := by decide +kernel
theorem dL_certificates_58 : decode cL_certificates 58 = .ok (.ifCond .lt 15, 3) := by decide +kernel
theorem dL_certificates_61 : decode cL_certificates 61 = .ok (.iload 7, 2) := by decide +kernel
theorem dL_certificates_63 : decode cL_certificates 63 = .ok (.aload_n 1, 1) := by decide +kernel
theorem dL_certificates_64 : decode cL_certificates 64 = .ok (.iconst 2, 1) := by decide +kernel
theorem dL_certificates_65 : decode cL_certificates 65 = .ok (.iaload, 1) := by decide +kernel
theorem dL_certificates_66 : decode cL_certificates 66 = .ok (.if_icmp .gt 7, 3) := by decide +kernel
theorem dL_certificates_69 : decode cL_certificates 69 = .ok (.iconst 1, 1) := by decide +kernel
theorem dL_certificates_70 : decode cL_certificates 70 = .ok (.goto 4, 3) := by decide +kernel
theorem dL_certificates_73 : decode cL_certificates 73 = .ok (.iconst 0, 1) := by decide +kernel
theorem dL_certificates_74 : decode cL_certificates 74 = .ok (.ireturn, 1) := by decide +kernel
theorem dL_certificates_75 : decode cL_certificates 75 = .ok (.aload_n 1, 1) := by decide +kernel
theorem dL_certificates_76 : decode cL_certificates 76 = .ok (.iconst 2, 1) := by decide +kernel
theorem dL_certificates_77 : decode cL_certificates 77 = .ok (.iaload, 1) := by decide +kernel
theorem dL_certificates_78 : decode cL_certificates 78 = .ok (.bipush 20, 2) := by decide +kernel
theorem dL_certificates_80 : decode cL_certificates 80 = .ok (.if_icmp .ne 5, 3) := by decide +kernel
theorem dL_certificates_83 : decode cL_certificates 83 = .ok (.iconst 1, 1) := by decide +kernel
theorem dL_certificates_84 : decode cL_certificates 84 = .ok (.ireturn, 1) := by decide +kernel
theorem dL_certificates_85 : decode cL_certificates 85 = .ok (.aload_n 1, 1) := by decide +kernel
theorem dL_certificates_86 : decode cL_certificates 86 = .ok (.bipush 8, 2) := by decide +kernel
theorem dL_certificates_88 : decode cL_certificates 88 = .ok (.aload_n 1, 1) := by decide +kernel
theorem dL_certificates_89 : decode cL_certificates 89 = .ok (.iconst 2, 1) := by decide +kernel
theorem dL_certificates_90 : decode cL_certificates 90 = .ok (.iaload, 1) := by decide +kernel
theorem dL_certificates_91 : decode cL_certificates 91 = .ok (.iadd, 1) := by decide +kernel
theorem dL_certificates_92 : decode cL_certificates 92 = .ok (.iload_n 3, 1) := by decide +kernel
theorem dL_certificates_93 : decode cL_certificates 93 = .ok (.iconst 4, 1) := by decide +kernel
theorem dL_certificates_94 : decode cL_certificates 94 = .ok (.idiv, 1) := by decide +kernel
theorem dL_certificates_95 : decode cL_certificates 95 = .ok (.bipush 6, 2) := by decide +kernel
theorem dL_certificates_97 : decode cL_certificates 97 = .ok (.irem, 1) := by decide +kernel
theorem dL_certificates_98 : decode cL_certificates 98 = .ok (.iastore, 1) := by decide +kernel
theorem dL_certificates_99 : decode cL_certificates 99 = .ok (.aload_n 1, 1) := by decide +kernel
theorem dL_certificates_100 : decode cL_certificates 100 = .ok (.bipush 28, 2) := by decide +kernel
theorem dL_certificates_102 : decode cL_certificates 102 = .ok (.aload_n 1, 1) := by decide +kernel
theorem dL_certificates_103 : decode cL_certificates 103 = .ok (.iconst 2, 1) := by decide +kernel
theorem dL_certificates_104 : decode cL_certificates 104 = .ok (.iaload, 1) := by decide +kernel
theorem dL_certificates_105 : decode cL_certificates 105 = .ok (.iadd, 1) := by decide +kernel
theorem dL_certificates_106 : decode cL_certificates 106 = .ok (.iload 5, 2) := by decide +kernel
theorem dL_certificates_108 : decode cL_certificates 108 = .ok (.iastore, 1) := by decide +kernel
theorem dL_certificates_109 : decode cL_certificates 109 = .ok (.aload_n 1, 1) := by decide +kernel
theorem dL_certificates_110 : decode cL_certificates 110 = .ok (.iconst 2, 1) := by decide +kernel
theorem dL_certificates_111 : decode cL_certificates 111 = .ok (.dup2, 1) := by decide +kernel
theorem dL_certificates_112 : decode cL_certificates 112 = .ok (.iaload, 1) := by decide +kernel
theorem dL_certificates_113 : decode cL_certificates 113 = .ok (.iconst 1, 1) := by decide +kernel
theorem dL_certificates_114 : decode cL_certificates 114 = .ok (.iadd, 1) := by decide +kernel
theorem dL_certificates_115 : decode cL_certificates 115 = .ok (.iastore, 1) := by decide +kernel
theorem dL_certificates_116 : decode cL_certificates 116 = .ok (.iload_n 2, 1) := by decide +kernel
theorem dL_certificates_117 : decode cL_certificates 117 = .ok (.bipush 100, 2) := by decide +kernel
theorem dL_certificates_119 : decode cL_certificates 119 = .ok (.irem, 1) := by decide +kernel
theorem dL_certificates_120 : decode cL_certificates 120 = .ok (.istore 6, 2) := by decide +kernel
theorem dL_certificates_122 : decode cL_certificates 122 = .ok (.aload_n 0, 1) := by decide +kernel
theorem dL_certificates_123 : decode cL_certificates 123 = .ok (.iload_n 3, 1) := by decide +kernel
theorem dL_certificates_124 : decode cL_certificates 124 = .ok (.iconst 4, 1) := by decide +kernel
theorem dL_certificates_125 : decode cL_certificates 125 = .ok (.idiv, 1) := by decide +kernel
theorem dL_certificates_126 : decode cL_certificates 126 = .ok (.bipush 6, 2) := by decide +kernel
theorem dL_certificates_128 : decode cL_certificates 128 = .ok (.irem, 1) := by decide +kernel
theorem dL_certificates_129 : decode cL_certificates 129 = .ok (.iload 5, 2) := by decide +kernel
theorem dL_certificates_131 : decode cL_certificates 131 = .ok (.iload 4, 2) := by decide +kernel
theorem dL_certificates_133 : decode cL_certificates 133 = .ok (.iload_n 3, 1) := by decide +kernel
theorem dL_certificates_134 : decode cL_certificates 134 = .ok (.bipush 24, 2) := by decide +kernel
theorem dL_certificates_136 : decode cL_certificates 136 = .ok (.idiv, 1) := by decide +kernel
theorem dL_certificates_137 : decode cL_certificates 137 = .ok (.bipush 16, 2) := by decide +kernel
theorem dL_certificates_139 : decode cL_certificates 139 = .ok (.irem, 1) := by decide +kernel
theorem dL_certificates_140 : decode cL_certificates 140 = .ok (.iload_n 2, 1) := by decide +kernel
theorem dL_certificates_141 : decode cL_certificates 141 = .ok (.sipush 1000, 3) := by decide +kernel
theorem dL_certificates_144 : decode cL_certificates 144 = .ok (.irem, 1) := by decide +kernel
theorem dL_certificates_145 : decode cL_certificates 145 = .ok (.iload 6, 2) := by decide +kernel
theorem dL_certificates_147 : decode cL_certificates 147 = .ok (.iload 6, 2) := by decide +kernel
theorem dL_certificates_149 : decode cL_certificates 149 = .ok (.iload_n 3, 1) := by decide +kernel
theorem dL_certificates_150 : decode cL_certificates 150 = .ok (.sipush 2000, 3) := by decide +kernel
theorem dL_certificates_153 : decode cL_certificates 153 = .ok (.irem, 1) := by decide +kernel
theorem dL_certificates_154 : decode cL_certificates 154 = .ok (.iadd, 1) := by decide +kernel
theorem dL_certificates_155 : decode cL_certificates 155 = .ok (.invokevirtual 93, 3) := by decide +kernel
theorem dL_certificates_158 : decode cL_certificates 158 = .ok (.aload_n 1, 1) := by decide +kernel
theorem dL_certificates_159 : decode cL_certificates 159 = .ok (.iconst 2, 1) := by decide +kernel
theorem dL_certificates_160 : decode cL_certificates 160 = .ok (.iaload, 1) := by decide +kernel
theorem dL_certificates_161 : decode cL_certificates 161 = .ok (.iconst 1, 1) := by decide +kernel
theorem dL_certificates_162 : decode cL_certificates 162 = .ok (.isub, 1) := by decide +kernel
theorem dL_certificates_163 : decode cL_certificates 163 = .ok (.if_icmp .ne 7, 3) := by decide +kernel
theorem dL_certificates_166 : decode cL_certificates 166 = .ok (.iconst 1, 1) := by decide +kernel
theorem dL_certificates_167 : decode cL_certificates 167 = .ok (.goto 4, 3) := by decide +kernel
theorem dL_certificates_170 : decode cL_certificates 170 = .ok (.iconst 0, 1) := by decide +kernel
theorem dL_certificates_171 : decode cL_certificates 171 = .ok (.ireturn, 1) := by decide +kernel
set_option maxRecDepth 20000 in
theorem ggL_confirms_X4_waiting : GoodIn wsL_confirms wsX4_waiting := goodIn_r _ [5, 6, 81, 82, 83, 84, 85, 86, 87, 88, 89, 90, 91, 92] (by decide +kernel) (by decide +kernel)
set_option maxRecDepth 20000 in
theorem gL_confirms_X4_waiting : GoodIn wsL_confirms (wsV RL 111 RX4 yX4_waiting wsX4_waiting) := goodIn_app (goodIn_of _ (by decide +kernel)) ggL_confirms_X4_waiting
set_option maxRecDepth 20000 in
theorem ggL_confirms_X4_confirm : GoodIn wsL_confirms wsX4_confirm := goodIn_ca (goodIn_ca (goodIn_r _ [10, 11, 12, 6, 13, 14, 15, 16, 17, 18, 4, 19, 20, 21, 22, 23, 24, 25, 26, 27, 28, 29, 30, 31, 32, 33, 34, 35, 36, 37, 38, 39, 40, 41, 42, 43, 44, 45, 46, 47, 48, 49, 50, 51, 52, 53, 54, 55, 56, 57, 58, 59, 60, 61, 62, 63, 64, 65, 66, 81, 82, 83, 84, 85, 86, 87, 88, 89, 90, 91, 92, 93, 94, 95, 96, 97, 98, 99, 100, 101, 102, 103, 104, 105, 106] (by decide +kernel) (by decide +kernel)) (goodIn_sub (fun _ h => List.mem_cons_of_mem _ (List.mem_append_left _ (List.mem_append_left _ (List.mem_append_right _ h)))) (by decide +kernel))) (goodIn_sub (fun _ h => List.mem_cons_of_mem _ (List.mem_append_left _ (List.mem_append_right _ h))) (by decide +kernel))
set_option maxRecDepth 20000 in
theorem gL_confirms_X4_confirm : GoodIn wsL_confirms (wsV RL 117 RX4 yX4_confirm wsX4_confirm) := goodIn_app (goodIn_of _ (by decide +kernel)) ggL_confirms_X4_confirm
set_option maxRecDepth 20000 in
theorem ggL_confirms_X4_keyOf : GoodIn wsL_confirms wsX4_keyOf := goodIn_ca (goodIn_r _ [70, 71, 72, 73, 4, 74, 75, 76, 15, 25, 93, 94, 95, 96, 97, 98, 99, 100, 101, 102, 81, 82, 83, 84, 85, 86, 87, 88, 89, 90, 91, 92] (by decide +kernel) (by decide +kernel)) (goodIn_sub (fun _ h => List.mem_cons_of_mem _ (List.mem_append_right _ h)) (by decide +kernel))
set_option maxRecDepth 20000 in
theorem gL_confirms_X4_keyOf : GoodIn wsL_confirms (wsV RL 38 RX4 yX4_keyOf wsX4_keyOf) := goodIn_app (goodIn_of _ (by decide +kernel)) ggL_confirms_X4_keyOf
set_option maxRecDepth 20000 in
theorem ggL_confirms_X4_seen : GoodIn wsL_confirms wsX4_seen := goodIn_ca (goodIn_r _ [80, 71, 72, 73, 4, 74, 75, 76, 15, 25, 93, 94, 95, 96, 97, 98, 99, 100, 101, 102, 81, 82, 83, 84, 85, 86, 87, 88, 89, 90, 91, 92] (by decide +kernel) (by decide +kernel)) (goodIn_sub (fun _ h => List.mem_cons_of_mem _ (List.mem_append_right _ h)) (by decide +kernel))
set_option maxRecDepth 20000 in
theorem gL_confirms_X4_seen : GoodIn wsL_confirms (wsV RL 75 RX4 yX4_seen wsX4_seen) := goodIn_app (goodIn_of _ (by decide +kernel)) ggL_confirms_X4_seen
theorem dL_confirms_0 : decode cL_confirms 0 = .ok (.aload_n 1, 1) := by decide +kernel
theorem dL_confirms_1 : decode cL_confirms 1 = .ok (.bipush 6, 2) := by decide +kernel
theorem dL_confirms_3 : decode cL_confirms 3 = .ok (.iaload, 1) := by decide +kernel
theorem dL_confirms_4 : decode cL_confirms 4 = .ok (.ifCond .eq 11, 3) := by decide +kernel
theorem dL_confirms_7 : decode cL_confirms 7 = .ok (.aload_n 1, 1) := by decide +kernel
theorem dL_confirms_8 : decode cL_confirms 8 = .ok (.iconst 1, 1) := by decide +kernel
theorem dL_confirms_9 : decode cL_confirms 9 = .ok (.iaload, 1) := by decide +kernel
theorem dL_confirms_10 : decode cL_confirms 10 = .ok (.bipush 40, 2) := by decide +kernel
theorem dL_confirms_12 : decode cL_confirms 12 = .ok (.if_icmp .ne 22, 3) := by decide +kernel
theorem dL_confirms_15 : decode cL_confirms 15 = .ok (.aload_n 0, 1) := by decide +kernel
theorem dL_confirms_16 : decode cL_confirms 16 = .ok (.invokevirtual 111, 3) := by decide +kernel
theorem dL_confirms_19 : decode cL_confirms 19 = .ok (.aload_n 1, 1) := by decide +kernel
theorem dL_confirms_20 : decode cL_confirms 20 = .ok (.bipush 6, 2) := by decide +kernel
theorem dL_confirms_22 : decode cL_confirms 22 = .ok (.iaload, 1) := by decide +kernel
theorem dL_confirms_23 : decode cL_confirms 23 = .ok (.iconst 1, 1) := by decide +kernel
theorem dL_confirms_24 : decode cL_confirms 24 = .ok (.isub, 1) := by decide +kernel
theorem dL_confirms_25 : decode cL_confirms 25 = .ok (.if_icmp .ne 7, 3) := by decide +kernel
theorem dL_confirms_28 : decode cL_confirms 28 = .ok (.iconst 1, 1) := by decide +kernel
theorem dL_confirms_29 : decode cL_confirms 29 = .ok (.goto 4, 3) := by decide +kernel
theorem dL_confirms_32 : decode cL_confirms 32 = .ok (.iconst 0, 1) := by decide +kernel
theorem dL_confirms_33 : decode cL_confirms 33 = .ok (.ireturn, 1) := by decide +kernel
theorem dL_confirms_34 : decode cL_confirms 34 = .ok (.aload_n 1, 1) := by decide +kernel
theorem dL_confirms_35 : decode cL_confirms 35 = .ok (.bipush 6, 2) := by decide +kernel
theorem dL_confirms_37 : decode cL_confirms 37 = .ok (.iaload, 1) := by decide +kernel
theorem dL_confirms_38 : decode cL_confirms 38 = .ok (.iconst 1, 1) := by decide +kernel
theorem dL_confirms_39 : decode cL_confirms 39 = .ok (.isub, 1) := by decide +kernel
theorem dL_confirms_40 : decode cL_confirms 40 = .ok (.istore_n 2, 1) := by decide +kernel
theorem dL_confirms_41 : decode cL_confirms 41 = .ok (.aload_n 1, 1) := by decide +kernel
theorem dL_confirms_42 : decode cL_confirms 42 = .ok (.bipush 6, 2) := by decide +kernel
theorem dL_confirms_44 : decode cL_confirms 44 = .ok (.iconst 0, 1) := by decide +kernel
theorem dL_confirms_45 : decode cL_confirms 45 = .ok (.iastore, 1) := by decide +kernel
theorem dL_confirms_46 : decode cL_confirms 46 = .ok (.aload_n 1, 1) := by decide +kernel
theorem dL_confirms_47 : decode cL_confirms 47 = .ok (.iconst 1, 1) := by decide +kernel
theorem dL_confirms_48 : decode cL_confirms 48 = .ok (.dup2, 1) := by decide +kernel
theorem dL_confirms_49 : decode cL_confirms 49 = .ok (.iaload, 1) := by decide +kernel
theorem dL_confirms_50 : decode cL_confirms 50 = .ok (.iconst 1, 1) := by decide +kernel
theorem dL_confirms_51 : decode cL_confirms 51 = .ok (.iadd, 1) := by decide +kernel
theorem dL_confirms_52 : decode cL_confirms 52 = .ok (.iastore, 1) := by decide +kernel
theorem dL_confirms_53 : decode cL_confirms 53 = .ok (.aload_n 0, 1) := by decide +kernel
theorem dL_confirms_54 : decode cL_confirms 54 = .ok (.invokevirtual 117, 3) := by decide +kernel
theorem dL_confirms_57 : decode cL_confirms 57 = .ok (.aload_n 1, 1) := by decide +kernel
theorem dL_confirms_58 : decode cL_confirms 58 = .ok (.iconst 1, 1) := by decide +kernel
theorem dL_confirms_59 : decode cL_confirms 59 = .ok (.iaload, 1) := by decide +kernel
theorem dL_confirms_60 : decode cL_confirms 60 = .ok (.iconst 1, 1) := by decide +kernel
theorem dL_confirms_61 : decode cL_confirms 61 = .ok (.isub, 1) := by decide +kernel
theorem dL_confirms_62 : decode cL_confirms 62 = .ok (.if_icmp .ne 43, 3) := by decide +kernel
theorem dL_confirms_65 : decode cL_confirms 65 = .ok (.aload_n 0, 1) := by decide +kernel
theorem dL_confirms_66 : decode cL_confirms 66 = .ok (.invokevirtual 111, 3) := by decide +kernel
theorem dL_confirms_69 : decode cL_confirms 69 = .ok (.iconst (-1), 1) := by decide +kernel
theorem dL_confirms_70 : decode cL_confirms 70 = .ok (.if_icmp .ne 35, 3) := by decide +kernel
theorem dL_confirms_73 : decode cL_confirms 73 = .ok (.aload_n 0, 1) := by decide +kernel
theorem dL_confirms_74 : decode cL_confirms 74 = .ok (.aload_n 1, 1) := by decide +kernel
theorem dL_confirms_75 : decode cL_confirms 75 = .ok (.iconst 1, 1) := by decide +kernel
theorem dL_confirms_76 : decode cL_confirms 76 = .ok (.iaload, 1) := by decide +kernel
theorem dL_confirms_77 : decode cL_confirms 77 = .ok (.iconst 1, 1) := by decide +kernel
theorem dL_confirms_78 : decode cL_confirms 78 = .ok (.isub, 1) := by decide +kernel
theorem dL_confirms_79 : decode cL_confirms 79 = .ok (.invokevirtual 38, 3) := by decide +kernel
theorem dL_confirms_82 : decode cL_confirms 82 = .ok (.iload_n 2, 1) := by decide +kernel
theorem dL_confirms_83 : decode cL_confirms 83 = .ok (.if_icmp .ne 22, 3) := by decide +kernel
theorem dL_confirms_86 : decode cL_confirms 86 = .ok (.aload_n 0, 1) := by decide +kernel
theorem dL_confirms_87 : decode cL_confirms 87 = .ok (.aload_n 1, 1) := by decide +kernel
theorem dL_confirms_88 : decode cL_confirms 88 = .ok (.iconst 1, 1) := by decide +kernel
theorem dL_confirms_89 : decode cL_confirms 89 = .ok (.iaload, 1) := by decide +kernel
theorem dL_confirms_90 : decode cL_confirms 90 = .ok (.iconst 1, 1) := by decide +kernel
theorem dL_confirms_91 : decode cL_confirms 91 = .ok (.isub, 1) := by decide +kernel
theorem dL_confirms_92 : decode cL_confirms 92 = .ok (.invokevirtual 75, 3) := by decide +kernel
theorem dL_confirms_95 : decode cL_confirms 95 = .ok (.aload_n 1, 1) := by decide +kernel
theorem dL_confirms_96 : decode cL_confirms 96 = .ok (.iconst 0, 1) := by decide +kernel
theorem dL_confirms_97 : decode cL_confirms 97 = .ok (.iaload, 1) := by decide +kernel
theorem dL_confirms_98 : decode cL_confirms 98 = .ok (.if_icmp .ne 7, 3) := by decide +kernel
theorem dL_confirms_101 : decode cL_confirms 101 = .ok (.iconst 1, 1) := by decide +kernel
theorem dL_confirms_102 : decode cL_confirms 102 = .ok (.goto 4, 3) := by decide +kernel
theorem dL_confirms_105 : decode cL_confirms 105 = .ok (.iconst 0, 1) := by decide +kernel
theorem dL_confirms_106 : decode cL_confirms 106 = .ok (.ireturn, 1) := by decide +kernel
