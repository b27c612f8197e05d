set_option maxRecDepth 20000 in
theorem ggX4_init_X1_init : GoodIn wsX4_init wsX1_init := goodIn_r _ [15, 16, 2, 3, 17, 18, 31, 32, 33, 34, 35, 36, 37, 38, 39, 40] (by decide +kernel) (by decide +kernel)
set_option maxRecDepth 20000 in
theorem gX4_init_X1_init_n34 : GoodIn wsX4_init (wsX1_init) := ggX4_init_X1_init
theorem dX4_init_0 : decode cX4_init 0 = .ok (.aload_n 0, 1) := by decide +kernel
theorem dX4_init_1 : decode cX4_init 1 = .ok (.invokespecial 1, 3) := by decide +kernel
theorem dX4_init_4 : decode cX4_init 4 = .ok (.aload_n 0, 1) := by decide +kernel
theorem dX4_init_5 : decode cX4_init 5 = .ok (.bipush 40, 2) := by decide +kernel
theorem dX4_init_7 : decode cX4_init 7 = .ok (.anewarray 9, 3) := by decide +kernel
theorem dX4_init_10 : decode cX4_init 10 = .ok (.putfield 11, 3) := by decide +kernel
theorem dX4_init_13 : decode cX4_init 13 = .ok (.aload_n 0, 1) := by decide +kernel
theorem dX4_init_14 : decode cX4_init 14 = .ok (.bipush 20, 2) := by decide +kernel
theorem dX4_init_16 : decode cX4_init 16 = .ok (.anewarray 15, 3) := by decide +kernel
theorem dX4_init_19 : decode cX4_init 19 = .ok (.putfield 17, 3) := by decide +kernel
theorem dX4_init_22 : decode cX4_init 22 = .ok (.aload_n 0, 1) := by decide +kernel
theorem dX4_init_23 : decode cX4_init 23 = .ok (.bipush 20, 2) := by decide +kernel
theorem dX4_init_25 : decode cX4_init 25 = .ok (.anewarray 21, 3) := by decide +kernel
theorem dX4_init_28 : decode cX4_init 28 = .ok (.putfield 23, 3) := by decide +kernel
theorem dX4_init_31 : decode cX4_init 31 = .ok (.aload_n 0, 1) := by decide +kernel
theorem dX4_init_32 : decode cX4_init 32 = .ok (.iconst 1, 1) := by decide +kernel
theorem dX4_init_33 : decode cX4_init 33 = .ok (.putfield 27, 3) := by decide +kernel
theorem dX4_init_36 : decode cX4_init 36 = .ok (.aload_n 0, 1) := by decide +kernel
theorem dX4_init_37 : decode cX4_init 37 = .ok (.iconst (-1), 1) := by decide +kernel
theorem dX4_init_38 : decode cX4_init 38 = .ok (.putfield 31, 3) := by decide +kernel
theorem dX4_init_41 : decode cX4_init 41 = .ok (.iconst 0, 1) := by decide +kernel
theorem dX4_init_42 : decode cX4_init 42 = .ok (.istore_n 1, 1) := by decide +kernel
theorem dX4_init_43 : decode cX4_init 43 = .ok (.iload_n 1, 1) := by decide +kernel
theorem dX4_init_44 : decode cX4_init 44 = .ok (.bipush 40, 2) := by decide +kernel
theorem dX4_init_46 : decode cX4_init 46 = .ok (.if_icmp .ge 22, 3) := by decide +kernel
theorem dX4_init_49 : decode cX4_init 49 = .ok (.aload_n 0, 1) := by decide +kernel
theorem dX4_init_50 : decode cX4_init 50 = .ok (.getfield 11, 3) := by decide +kernel
theorem dX4_init_53 : decode cX4_init 53 = .ok (.iload_n 1, 1) := by decide +kernel
theorem dX4_init_54 : decode cX4_init 54 = .ok (.new 9, 3) := by decide +kernel
theorem dX4_init_57 : decode cX4_init 57 = .ok (.dup, 1) := by decide +kernel
theorem dX4_init_58 : decode cX4_init 58 = .ok (.invokespecial 34, 3) := by decide +kernel
theorem dX4_init_61 : decode cX4_init 61 = .ok (.aastore, 1) := by decide +kernel
theorem dX4_init_62 : decode cX4_init 62 = .ok (.iinc 1 1, 3) := by decide +kernel
theorem dX4_init_65 : decode cX4_init 65 = .ok (.goto (-22), 3) := by decide +kernel
theorem dX4_init_68 : decode cX4_init 68 = .ok (.return_, 1) := by decide +kernel
set_option maxRecDepth 20000 in
theorem ggX4_addLine_X4_requireWithin : GoodIn wsX4_addLine wsX4_requireWithin := goodIn_ca (goodIn_r _ [5, 6, 7] (by decide +kernel) (by decide +kernel)) (goodIn_sub (fun _ h => List.mem_cons_of_mem _ (List.mem_append_left _ (List.mem_append_right _ h))) (by decide +kernel))
set_option maxRecDepth 20000 in
theorem gX4_addLine_X4_requireWithin : GoodIn wsX4_addLine (va_wsS RX4 35 yX4_requireWithin wsX4_requireWithin) := goodIn_app (goodIn_of _ (by decide +kernel)) ggX4_addLine_X4_requireWithin
set_option maxRecDepth 20000 in
theorem ggX4_addLine_X4_requireKey : GoodIn wsX4_addLine wsX4_requireKey := goodIn_ca (goodIn_r _ [10, 2, 3, 4, 5, 6, 7] (by decide +kernel) (by decide +kernel)) (goodIn_sub (fun _ h => List.mem_cons_of_mem _ (List.mem_append_left _ (List.mem_append_right _ h))) (by decide +kernel))
set_option maxRecDepth 20000 in
theorem gX4_addLine_X4_requireKey : GoodIn wsX4_addLine (va_wsS RX4 39 yX4_requireKey wsX4_requireKey) := goodIn_app (goodIn_of _ (by decide +kernel)) ggX4_addLine_X4_requireKey
set_option maxRecDepth 20000 in
theorem ggX4_addLine_X4_appendLine : GoodIn wsX4_addLine wsX4_appendLine := goodIn_ca (goodIn_r _ [14, 15, 16, 1, 17, 18, 19, 20, 21, 22, 23, 24, 25, 26, 27, 28, 29, 30, 31, 32, 33, 34, 35, 36, 37, 38, 39, 40, 41, 42, 43, 44, 45, 46, 47, 48, 49, 50, 51] (by decide +kernel) (by decide +kernel)) (goodIn_sub (fun _ h => List.mem_cons_of_mem _ (List.mem_append_right _ h)) (by decide +kernel))
set_option maxRecDepth 20000 in
theorem gX4_addLine_X4_appendLine : GoodIn wsX4_addLine (wsV RX4 43 RX4 yX4_appendLine wsX4_appendLine) := goodIn_app (goodIn_of _ (by decide +kernel)) ggX4_addLine_X4_appendLine
theorem dX4_addLine_0 : decode cX4_addLine 0 = .ok (.iload_n 1, 1) := by decide +kernel
theorem dX4_addLine_1 : decode cX4_addLine 1 = .ok (.iconst 0, 1) := by decide +kernel
theorem dX4_addLine_2 : decode cX4_addLine 2 = .ok (.iconst 2, 1) := by decide +kernel
theorem dX4_addLine_3 : decode cX4_addLine 3 = .ok (.invokestatic 35, 3) := by decide +kernel
theorem dX4_addLine_6 : decode cX4_addLine 6 = .ok (.iload_n 2, 1) := by decide +kernel
theorem dX4_addLine_7 : decode cX4_addLine 7 = .ok (.invokestatic 39, 3) := by decide +kernel
theorem dX4_addLine_10 : decode cX4_addLine 10 = .ok (.aload_n 0, 1) := by decide +kernel
theorem dX4_addLine_11 : decode cX4_addLine 11 = .ok (.iload_n 1, 1) := by decide +kernel
theorem dX4_addLine_12 : decode cX4_addLine 12 = .ok (.iload_n 2, 1) := by decide +kernel
theorem dX4_addLine_13 : decode cX4_addLine 13 = .ok (.invokevirtual 43, 3) := by decide +kernel
theorem dX4_addLine_16 : decode cX4_addLine 16 = .ok (.pop, 1) := by decide +kernel
theorem dX4_addLine_17 : decode cX4_addLine 17 = .ok (.aload_n 0, 1) := by decide +kernel
theorem dX4_addLine_18 : decode cX4_addLine 18 = .ok (.getfield 47, 3) := by decide +kernel
theorem dX4_addLine_21 : decode cX4_addLine 21 = .ok (.iconst 1, 1) := by decide +kernel
theorem dX4_addLine_22 : decode cX4_addLine 22 = .ok (.isub, 1) := by decide +kernel
theorem dX4_addLine_23 : decode cX4_addLine 23 = .ok (.ireturn, 1) := by decide +kernel
set_option maxRecDepth 20000 in
theorem ggX4_addPattern_X4_lineAt : GoodIn wsX4_addPattern wsX4_lineAt := goodIn_ca (goodIn_r _ [5, 6, 7, 8, 9, 41, 42, 43, 44, 45, 46, 47, 48, 49, 50, 51, 52] (by decide +kernel) (by decide +kernel)) (goodIn_sub (fun _ h => List.mem_cons_of_mem _ (List.mem_append_left _ (List.mem_append_left _ (List.mem_append_right _ h)))) (by decide +kernel))
set_option maxRecDepth 20000 in
theorem gX4_addPattern_X4_lineAt : GoodIn wsX4_addPattern (wsV RX4 50 RX4 yX4_lineAt wsX4_lineAt) := goodIn_app (goodIn_of _ (by decide +kernel)) ggX4_addPattern_X4_lineAt
set_option maxRecDepth 20000 in
theorem ggX4_addPattern_X4_requireNameAndPort : GoodIn wsX4_addPattern wsX4_requireNameAndPort := goodIn_ca (goodIn_r _ [12, 13, 14, 4, 15, 16, 17] (by decide +kernel) (by decide +kernel)) (goodIn_sub (fun _ h => List.mem_cons_of_mem _ (List.mem_append_left _ (List.mem_append_right _ h))) (by decide +kernel))
set_option maxRecDepth 20000 in
theorem gX4_addPattern_X4_requireNameAndPort : GoodIn wsX4_addPattern (va_wsS RX4 54 yX4_requireNameAndPort wsX4_requireNameAndPort) := goodIn_app (goodIn_of _ (by decide +kernel)) ggX4_addPattern_X4_requireNameAndPort
set_option maxRecDepth 20000 in
theorem ggX4_addPattern_X4_requireWithin : GoodIn wsX4_addPattern wsX4_requireWithin := goodIn_ca (goodIn_r _ [15, 16, 17] (by decide +kernel) (by decide +kernel)) (goodIn_sub (fun _ h => List.mem_cons_of_mem _ (List.mem_append_left _ (List.mem_append_right _ h))) (by decide +kernel))
set_option maxRecDepth 20000 in
theorem gX4_addPattern_X4_requireWithin : GoodIn wsX4_addPattern (va_wsS RX4 35 yX4_requireWithin wsX4_requireWithin) := goodIn_app (goodIn_of _ (by decide +kernel)) ggX4_addPattern_X4_requireWithin
set_option maxRecDepth 20000 in
theorem ggX4_addPattern_X1_takePattern : GoodIn wsX4_addPattern wsX1_takePattern := goodIn_ca (goodIn_r _ [22, 23, 24, 25, 26, 27, 28, 29, 30, 31, 32, 33, 34, 35, 36, 37, 38, 39, 40, 53, 54, 55, 56, 57, 58, 59, 60, 61, 62, 63, 64, 65, 66] (by decide +kernel) (by decide +kernel)) (goodIn_sub (fun _ h => List.mem_cons_of_mem _ (List.mem_append_right _ h)) (by decide +kernel))
set_option maxRecDepth 20000 in
theorem gX4_addPattern_X1_takePattern : GoodIn wsX4_addPattern (wsV RX4 58 RX1 yX1_takePattern wsX1_takePattern) := goodIn_app (goodIn_of _ (by decide +kernel)) ggX4_addPattern_X1_takePattern
theorem dX4_addPattern_0 : decode cX4_addPattern 0 = .ok (.aload_n 0, 1) := by decide +kernel
theorem dX4_addPattern_1 : decode cX4_addPattern 1 = .ok (.iload_n 1, 1) := by decide +kernel
theorem dX4_addPattern_2 : decode cX4_addPattern 2 = .ok (.invokevirtual 50, 3) := by decide +kernel
theorem dX4_addPattern_5 : decode cX4_addPattern 5 = .ok (.astore 6, 2) := by decide +kernel
theorem dX4_addPattern_7 : decode cX4_addPattern 7 = .ok (.iload_n 2, 1) := by decide +kernel
theorem dX4_addPattern_8 : decode cX4_addPattern 8 = .ok (.iload 4, 2) := by decide +kernel
theorem dX4_addPattern_10 : decode cX4_addPattern 10 = .ok (.invokestatic 54, 3) := by decide +kernel
theorem dX4_addPattern_13 : decode cX4_addPattern 13 = .ok (.iload_n 3, 1) := by decide +kernel
theorem dX4_addPattern_14 : decode cX4_addPattern 14 = .ok (.iconst 0, 1) := by decide +kernel
theorem dX4_addPattern_15 : decode cX4_addPattern 15 = .ok (.bipush 15, 2) := by decide +kernel
theorem dX4_addPattern_17 : decode cX4_addPattern 17 = .ok (.invokestatic 35, 3) := by decide +kernel
theorem dX4_addPattern_20 : decode cX4_addPattern 20 = .ok (.aload 6, 2) := by decide +kernel
theorem dX4_addPattern_22 : decode cX4_addPattern 22 = .ok (.iload_n 2, 1) := by decide +kernel
theorem dX4_addPattern_23 : decode cX4_addPattern 23 = .ok (.iload_n 3, 1) := by decide +kernel
theorem dX4_addPattern_24 : decode cX4_addPattern 24 = .ok (.iload 4, 2) := by decide +kernel
theorem dX4_addPattern_26 : decode cX4_addPattern 26 = .ok (.iload 5, 2) := by decide +kernel
theorem dX4_addPattern_28 : decode cX4_addPattern 28 = .ok (.invokevirtual 58, 3) := by decide +kernel
theorem dX4_addPattern_31 : decode cX4_addPattern 31 = .ok (.ireturn, 1) := by decide +kernel
set_option maxRecDepth 20000 in
theorem ggX4_addHashed_X4_requireWithin : GoodIn wsX4_addHashed wsX4_requireWithin := goodIn_ca (goodIn_r _ [5, 6, 7] (by decide +kernel) (by decide +kernel)) (goodIn_sub (fun _ h => List.mem_cons_of_mem _ (List.mem_append_left _ (List.mem_append_right _ h))) (by decide +kernel))
set_option maxRecDepth 20000 in
theorem gX4_addHashed_X4_requireWithin : GoodIn wsX4_addHashed (va_wsS RX4 35 yX4_requireWithin wsX4_requireWithin) := goodIn_app (goodIn_of _ (by decide +kernel)) ggX4_addHashed_X4_requireWithin
set_option maxRecDepth 20000 in
theorem ggX4_addHashed_X4_requireKey : GoodIn wsX4_addHashed wsX4_requireKey := goodIn_ca (goodIn_r _ [10, 2, 3, 4, 5, 6, 7] (by decide +kernel) (by decide +kernel)) (goodIn_sub (fun _ h => List.mem_cons_of_mem _ (List.mem_append_left _ (List.mem_append_right _ h))) (by decide +kernel))
set_option maxRecDepth 20000 in
theorem gX4_addHashed_X4_requireKey : GoodIn wsX4_addHashed (va_wsS RX4 39 yX4_requireKey wsX4_requireKey) := goodIn_app (goodIn_of _ (by decide +kernel)) ggX4_addHashed_X4_requireKey
set_option maxRecDepth 20000 in
theorem ggX4_addHashed_X4_requireNameAndPort : GoodIn wsX4_addHashed wsX4_requireNameAndPort := goodIn_ca (goodIn_r _ [13, 2, 3, 4, 5, 6, 7] (by decide +kernel) (by decide +kernel)) (goodIn_sub (fun _ h => List.mem_cons_of_mem _ (List.mem_append_left _ (List.mem_append_right _ h))) (by decide +kernel))
set_option maxRecDepth 20000 in
theorem gX4_addHashed_X4_requireNameAndPort : GoodIn wsX4_addHashed (va_wsS RX4 54 yX4_requireNameAndPort wsX4_requireNameAndPort) := goodIn_app (goodIn_of _ (by decide +kernel)) ggX4_addHashed_X4_requireNameAndPort
set_option maxRecDepth 20000 in
theorem ggX4_addHashed_X4_appendLine : GoodIn wsX4_addHashed wsX4_appendLine := goodIn_ca (goodIn_r _ [17, 18, 19, 1, 20, 21, 22, 23, 24, 25, 26, 27, 28, 29, 30, 31, 32, 43, 44, 45, 46, 47, 48, 49, 50, 51, 52, 53, 54, 55, 56, 57, 58, 59, 60, 61, 62, 63, 64] (by decide +kernel) (by decide +kernel)) (goodIn_sub (fun _ h => List.mem_cons_of_mem _ (List.mem_append_right _ h)) (by decide +kernel))
set_option maxRecDepth 20000 in
theorem gX4_addHashed_X4_appendLine : GoodIn wsX4_addHashed (wsV RX4 43 RX4 yX4_appendLine wsX4_appendLine) := goodIn_app (goodIn_of _ (by decide +kernel)) ggX4_addHashed_X4_appendLine
set_option maxRecDepth 20000 in
theorem ggX4_addHashed_X1_takeHash : GoodIn wsX4_addHashed wsX1_takeHash := goodIn_r _ [36, 32, 37, 38, 39, 40, 41, 25, 42, 55, 56, 57, 58, 59, 60, 61, 62, 63, 64] (by decide +kernel) (by decide +kernel)
set_option maxRecDepth 20000 in
theorem gX4_addHashed_X1_takeHash : GoodIn wsX4_addHashed (wsV RX4 62 RX1 yX1_takeHash wsX1_takeHash) := goodIn_app (goodIn_of _ (by decide +kernel)) ggX4_addHashed_X1_takeHash
theorem dX4_addHashed_0 : decode cX4_addHashed 0 = .ok (.iload_n 1, 1) := by decide +kernel
theorem dX4_addHashed_1 : decode cX4_addHashed 1 = .ok (.iconst 0, 1) := by decide +kernel
theorem dX4_addHashed_2 : decode cX4_addHashed 2 = .ok (.iconst 2, 1) := by decide +kernel
theorem dX4_addHashed_3 : decode cX4_addHashed 3 = .ok (.invokestatic 35, 3) := by decide +kernel
theorem dX4_addHashed_6 : decode cX4_addHashed 6 = .ok (.iload_n 2, 1) := by decide +kernel
theorem dX4_addHashed_7 : decode cX4_addHashed 7 = .ok (.invokestatic 39, 3) := by decide +kernel
theorem dX4_addHashed_10 : decode cX4_addHashed 10 = .ok (.iload_n 3, 1) := by decide +kernel
theorem dX4_addHashed_11 : decode cX4_addHashed 11 = .ok (.iload 4, 2) := by decide +kernel
theorem dX4_addHashed_13 : decode cX4_addHashed 13 = .ok (.invokestatic 54, 3) := by decide +kernel
theorem dX4_addHashed_16 : decode cX4_addHashed 16 = .ok (.iload 5, 2) := by decide +kernel
theorem dX4_addHashed_18 : decode cX4_addHashed 18 = .ok (.iconst 0, 1) := by decide +kernel
theorem dX4_addHashed_19 : decode cX4_addHashed 19 = .ok (.bipush 99, 2) := by decide +kernel
theorem dX4_addHashed_21 : decode cX4_addHashed 21 = .ok (.invokestatic 35, 3) := by decide +kernel
theorem dX4_addHashed_24 : decode cX4_addHashed 24 = .ok (.aload_n 0, 1) := by decide +kernel
theorem dX4_addHashed_25 : decode cX4_addHashed 25 = .ok (.iload_n 1, 1) := by decide +kernel
theorem dX4_addHashed_26 : decode cX4_addHashed 26 = .ok (.iload_n 2, 1) := by decide +kernel
theorem dX4_addHashed_27 : decode cX4_addHashed 27 = .ok (.invokevirtual 43, 3) := by decide +kernel
theorem dX4_addHashed_30 : decode cX4_addHashed 30 = .ok (.iload_n 3, 1) := by decide +kernel
theorem dX4_addHashed_31 : decode cX4_addHashed 31 = .ok (.iload 4, 2) := by decide +kernel
theorem dX4_addHashed_33 : decode cX4_addHashed 33 = .ok (.iload 5, 2) := by decide +kernel
theorem dX4_addHashed_35 : decode cX4_addHashed 35 = .ok (.invokevirtual 62, 3) := by decide +kernel
theorem dX4_addHashed_38 : decode cX4_addHashed 38 = .ok (.aload_n 0, 1) := by decide +kernel
theorem dX4_addHashed_39 : decode cX4_addHashed 39 = .ok (.getfield 47, 3) := by decide +kernel
theorem dX4_addHashed_42 : decode cX4_addHashed 42 = .ok (.iconst 1, 1) := by decide +kernel
theorem dX4_addHashed_43 : decode cX4_addHashed 43 = .ok (.isub, 1) := by decide +kernel
theorem dX4_addHashed_44 : decode cX4_addHashed 44 = .ok (.ireturn, 1) := by decide +kernel
set_option maxRecDepth 20000 in
theorem ggX4_remove_X4_lineAt : GoodIn wsX4_remove wsX4_lineAt := goodIn_ca (goodIn_r _ [5, 6, 7, 8, 9, 24, 25, 26, 27, 28, 29, 30, 31, 32, 33, 34, 35] (by decide +kernel) (by decide +kernel)) (goodIn_sub (fun _ h => List.mem_cons_of_mem _ (List.mem_append_right _ h)) (by decide +kernel))
set_option maxRecDepth 20000 in
theorem gX4_remove_X4_lineAt : GoodIn wsX4_remove (wsV RX4 50 RX4 yX4_lineAt wsX4_lineAt) := goodIn_app (goodIn_of _ (by decide +kernel)) ggX4_remove_X4_lineAt
set_option maxRecDepth 20000 in
theorem ggX4_remove_X4_takeOut : GoodIn wsX4_remove wsX4_takeOut := goodIn_r _ [13, 9, 8, 24, 25, 26, 27, 28, 29, 30, 31, 32, 33, 34, 35] (by decide +kernel) (by decide +kernel)
set_option maxRecDepth 20000 in
theorem gX4_remove_X4_takeOut : GoodIn wsX4_remove (wsV RX4 68 RX4 yX4_takeOut wsX4_takeOut) := goodIn_app (goodIn_of _ (by decide +kernel)) ggX4_remove_X4_takeOut
theorem dX4_remove_0 : decode cX4_remove 0 = .ok (.aload_n 0, 1) := by decide +kernel
theorem dX4_remove_1 : decode cX4_remove 1 = .ok (.iload_n 1, 1) := by decide +kernel
theorem dX4_remove_2 : decode cX4_remove 2 = .ok (.invokevirtual 50, 3) := by decide +kernel
theorem dX4_remove_5 : decode cX4_remove 5 = .ok (.getfield 65, 3) := by decide +kernel
theorem dX4_remove_8 : decode cX4_remove 8 = .ok (.istore_n 2, 1) := by decide +kernel
theorem dX4_remove_9 : decode cX4_remove 9 = .ok (.aload_n 0, 1) := by decide +kernel
theorem dX4_remove_10 : decode cX4_remove 10 = .ok (.iload_n 1, 1) := by decide +kernel
theorem dX4_remove_11 : decode cX4_remove 11 = .ok (.invokevirtual 68, 3) := by decide +kernel
theorem dX4_remove_14 : decode cX4_remove 14 = .ok (.iload_n 2, 1) := by decide +kernel
theorem dX4_remove_15 : decode cX4_remove 15 = .ok (.ireturn, 1) := by decide +kernel
set_option maxRecDepth 20000 in
theorem ggX4_certify_X4_requireKey : GoodIn wsX4_certify wsX4_requireKey := goodIn_ca (goodIn_r _ [11, 12, 13, 10, 14, 15, 16] (by decide +kernel) (by decide +kernel)) (goodIn_sub (fun _ h => List.mem_cons_of_mem _ (List.mem_append_right _ h)) (by decide +kernel))
set_option maxRecDepth 20000 in
theorem gX4_certify_X4_requireKey : GoodIn wsX4_certify (va_wsS RX4 39 yX4_requireKey wsX4_requireKey) := goodIn_app (goodIn_of _ (by decide +kernel)) ggX4_certify_X4_requireKey
set_option maxRecDepth 20000 in
theorem ggX4_certify_X4_requireWithin : GoodIn wsX4_certify wsX4_requireWithin := goodIn_ca (goodIn_r _ [14, 15, 16] (by decide +kernel) (by decide +kernel)) (goodIn_sub (fun _ h => List.mem_cons_of_mem _ (List.mem_append_right _ h)) (by decide +kernel))
set_option maxRecDepth 20000 in
theorem gX4_certify_X4_requireWithin : GoodIn wsX4_certify (va_wsS RX4 35 yX4_requireWithin wsX4_requireWithin) := goodIn_app (goodIn_of _ (by decide +kernel)) ggX4_certify_X4_requireWithin
set_option maxRecDepth 20000 in
theorem ggX4_certify_X0_init : GoodIn wsX4_certify wsX0_init := goodIn_r _ [19, 20, 21, 22, 23, 24, 25, 26, 27, 28, 29, 42, 43, 44, 45, 46, 47, 48] (by decide +kernel) (by decide +kernel)
set_option maxRecDepth 20000 in
theorem gX4_certify_X0_init : GoodIn wsX4_certify (wsX0_init) := ggX4_certify_X0_init
theorem dX4_certify_0 : decode cX4_certify 0 = .ok (.iload_n 1, 1) := by decide +kernel
theorem dX4_certify_1 : decode cX4_certify 1 = .ok (.invokestatic 39, 3) := by decide +kernel
theorem dX4_certify_4 : decode cX4_certify 4 = .ok (.iload_n 2, 1) := by decide +kernel
theorem dX4_certify_5 : decode cX4_certify 5 = .ok (.invokestatic 39, 3) := by decide +kernel
theorem dX4_certify_8 : decode cX4_certify 8 = .ok (.iload_n 3, 1) := by decide +kernel
theorem dX4_certify_9 : decode cX4_certify 9 = .ok (.iconst 0, 1) := by decide +kernel
theorem dX4_certify_10 : decode cX4_certify 10 = .ok (.sipush 9999, 3) := by decide +kernel
theorem dX4_certify_13 : decode cX4_certify 13 = .ok (.invokestatic 35, 3) := by decide +kernel
theorem dX4_certify_16 : decode cX4_certify 16 = .ok (.iload 4, 2) := by decide +kernel
theorem dX4_certify_18 : decode cX4_certify 18 = .ok (.iconst 0, 1) := by decide +kernel
theorem dX4_certify_19 : decode cX4_certify 19 = .ok (.bipush 15, 2) := by decide +kernel
theorem dX4_certify_21 : decode cX4_certify 21 = .ok (.invokestatic 35, 3) := by decide +kernel
theorem dX4_certify_24 : decode cX4_certify 24 = .ok (.iload 5, 2) := by decide +kernel
theorem dX4_certify_26 : decode cX4_certify 26 = .ok (.iconst 0, 1) := by decide +kernel
theorem dX4_certify_27 : decode cX4_certify 27 = .ok (.sipush 999, 3) := by decide +kernel
theorem dX4_certify_30 : decode cX4_certify 30 = .ok (.invokestatic 35, 3) := by decide +kernel
theorem dX4_certify_33 : decode cX4_certify 33 = .ok (.iload 6, 2) := by decide +kernel
theorem dX4_certify_35 : decode cX4_certify 35 = .ok (.iconst 0, 1) := by decide +kernel
theorem dX4_certify_36 : decode cX4_certify 36 = .ok (.sipush 5000, 3) := by decide +kernel
theorem dX4_certify_39 : decode cX4_certify 39 = .ok (.invokestatic 35, 3) := by decide +kernel
theorem dX4_certify_42 : decode cX4_certify 42 = .ok (.iload 7, 2) := by decide +kernel
theorem dX4_certify_44 : decode cX4_certify 44 = .ok (.iload 6, 2) := by decide +kernel
theorem dX4_certify_46 : decode cX4_certify 46 = .ok (.sipush 5000, 3) := by decide +kernel
theorem dX4_certify_49 : decode cX4_certify 49 = .ok (.invokestatic 35, 3) := by decide +kernel
theorem dX4_certify_52 : decode cX4_certify 52 = .ok (.aload_n 0, 1) := by decide +kernel
theorem dX4_certify_53 : decode cX4_certify 53 = .ok (.getfield 71, 3) := by decide +kernel
theorem dX4_certify_56 : decode cX4_certify 56 = .ok (.bipush 20, 2) := by decide +kernel
theorem dX4_certify_58 : decode cX4_certify 58 = .ok (.if_icmp .lt 13, 3) := by decide +kernel
theorem dX4_certify_61 : decode cX4_certify 61 = .ok (.new 74, 3) := by decide +kernel
theorem dX4_certify_64 : decode cX4_certify 64 = .ok (.dup, 1) := by decide +kernel
theorem dX4_certify_65 : decode cX4_certify 65 = .ok (.ldc 76, 2) := by decide +kernel
theorem dX4_certify_67 : decode cX4_certify 67 = .ok (.invokespecial 78, 3) := by decide +kernel
theorem dX4_certify_70 : decode cX4_certify 70 = .ok (.athrow, 1) := by decide +kernel
theorem dX4_certify_71 : decode cX4_certify 71 = .ok (.aload_n 0, 1) := by decide +kernel
theorem dX4_certify_72 : decode cX4_certify 72 = .ok (.getfield 17, 3) := by decide +kernel
theorem dX4_certify_75 : decode cX4_certify 75 = .ok (.aload_n 0, 1) := by decide +kernel
theorem dX4_certify_76 : decode cX4_certify 76 = .ok (.getfield 71, 3) := by decide +kernel
theorem dX4_certify_79 : decode cX4_certify 79 = .ok (.new 15, 3) := by decide +kernel
theorem dX4_certify_82 : decode cX4_certify 82 = .ok (.dup, 1) := by decide +kernel
theorem dX4_certify_83 : decode cX4_certify 83 = .ok (.iload_n 1, 1) := by decide +kernel
theorem dX4_certify_84 : decode cX4_certify 84 = .ok (.iload_n 2, 1) := by decide +kernel
theorem dX4_certify_85 : decode cX4_certify 85 = .ok (.iload_n 3, 1) := by decide +kernel
theorem dX4_certify_86 : decode cX4_certify 86 = .ok (.iload 4, 2) := by decide +kernel
theorem dX4_certify_88 : decode cX4_certify 88 = .ok (.iload 5, 2) := by decide +kernel
theorem dX4_certify_90 : decode cX4_certify 90 = .ok (.iload 6, 2) := by decide +kernel
theorem dX4_certify_92 : decode cX4_certify 92 = .ok (.iload 7, 2) := by decide +kernel
theorem dX4_certify_94 : decode cX4_certify 94 = .ok (.invokespecial 81, 3) := by decide +kernel
theorem dX4_certify_97 : decode cX4_certify 97 = .ok (.aastore, 1) := by decide +kernel
theorem dX4_certify_98 : decode cX4_certify 98 = .ok (.aload_n 0, 1) := by decide +kernel
theorem dX4_certify_99 : decode cX4_certify 99 = .ok (.dup, 1) := by decide +kernel
theorem dX4_certify_100 : decode cX4_certify 100 = .ok (.getfield 71, 3) := by decide +kernel
theorem dX4_certify_103 : decode cX4_certify 103 = .ok (.iconst 1, 1) := by decide +kernel
theorem dX4_certify_104 : decode cX4_certify 104 = .ok (.iadd, 1) := by decide +kernel
theorem dX4_certify_105 : decode cX4_certify 105 = .ok (.putfield 71, 3) := by decide +kernel
theorem dX4_certify_108 : decode cX4_certify 108 = .ok (.aload_n 0, 1) := by decide +kernel
theorem dX4_certify_109 : decode cX4_certify 109 = .ok (.getfield 71, 3) := by decide +kernel
theorem dX4_certify_112 : decode cX4_certify 112 = .ok (.iconst 1, 1) := by decide +kernel
theorem dX4_certify_113 : decode cX4_certify 113 = .ok (.isub, 1) := by decide +kernel
theorem dX4_certify_114 : decode cX4_certify 114 = .ok (.ireturn, 1) := by decide +kernel
set_option maxRecDepth 20000 in
theorem ggX4_revokeSpan_X4_requireKey : GoodIn wsX4_revokeSpan wsX4_requireKey := goodIn_ca (goodIn_r _ [11, 12, 13, 10, 14, 15, 16] (by decide +kernel) (by decide +kernel)) (goodIn_sub (fun _ h => List.mem_cons_of_mem _ (List.mem_append_right _ h)) (by decide +kernel))
set_option maxRecDepth 20000 in
theorem gX4_revokeSpan_X4_requireKey : GoodIn wsX4_revokeSpan (va_wsS RX4 39 yX4_requireKey wsX4_requireKey) := goodIn_app (goodIn_of _ (by decide +kernel)) ggX4_revokeSpan_X4_requireKey
set_option maxRecDepth 20000 in
theorem ggX4_revokeSpan_X4_requireWithin : GoodIn wsX4_revokeSpan wsX4_requireWithin := goodIn_ca (goodIn_r _ [14, 15, 16] (by decide +kernel) (by decide +kernel)) (goodIn_sub (fun _ h => List.mem_cons_of_mem _ (List.mem_append_right _ h)) (by decide +kernel))
set_option maxRecDepth 20000 in
theorem gX4_revokeSpan_X4_requireWithin : GoodIn wsX4_revokeSpan (va_wsS RX4 35 yX4_requireWithin wsX4_requireWithin) := goodIn_app (goodIn_of _ (by decide +kernel)) ggX4_revokeSpan_X4_requireWithin
set_option maxRecDepth 20000 in
theorem ggX4_revokeSpan_X3_init : GoodIn wsX4_revokeSpan wsX3_init := goodIn_r _ [19, 20, 21, 22, 23, 24, 25, 52, 53, 54] (by decide +kernel) (by decide +kernel)
set_option maxRecDepth 20000 in
theorem gX4_revokeSpan_X3_init : GoodIn wsX4_revokeSpan (wsX3_init) := ggX4_revokeSpan_X3_init
set_option maxRecDepth 20000 in
theorem ggX4_revokeSpan_X4_countRevokedCertificates : GoodIn wsX4_revokeSpan wsX4_countRevokedCertificates := goodIn_r _ [29, 30, 31, 32, 33, 34, 10, 35, 3, 4, 36, 37, 38, 7, 39, 23, 24, 25, 40, 41, 42, 43, 44, 45, 46, 47, 48, 49, 50, 51, 55, 56, 57, 58, 59, 60, 61, 52, 53, 54] (by decide +kernel) (by decide +kernel)
set_option maxRecDepth 20000 in
theorem gX4_revokeSpan_X4_countRevokedCertificates : GoodIn wsX4_revokeSpan (wsV RX4 91 RX4 yX4_countRevokedCertificates wsX4_countRevokedCertificates) := goodIn_app (goodIn_of _ (by decide +kernel)) ggX4_revokeSpan_X4_countRevokedCertificates
theorem dX4_revokeSpan_0 : decode cX4_revokeSpan 0 = .ok (.iload_n 1, 1) := by decide +kernel
theorem dX4_revokeSpan_1 : decode cX4_revokeSpan 1 = .ok (.invokestatic 39, 3) := by decide +kernel
theorem dX4_revokeSpan_4 : decode cX4_revokeSpan 4 = .ok (.iload_n 2, 1) := by decide +kernel
theorem dX4_revokeSpan_5 : decode cX4_revokeSpan 5 = .ok (.iconst 0, 1) := by decide +kernel
theorem dX4_revokeSpan_6 : decode cX4_revokeSpan 6 = .ok (.sipush 999, 3) := by decide +kernel
theorem dX4_revokeSpan_9 : decode cX4_revokeSpan 9 = .ok (.invokestatic 35, 3) := by decide +kernel
theorem dX4_revokeSpan_12 : decode cX4_revokeSpan 12 = .ok (.iload_n 3, 1) := by decide +kernel
theorem dX4_revokeSpan_13 : decode cX4_revokeSpan 13 = .ok (.iload_n 2, 1) := by decide +kernel
theorem dX4_revokeSpan_14 : decode cX4_revokeSpan 14 = .ok (.sipush 999, 3) := by decide +kernel
theorem dX4_revokeSpan_17 : decode cX4_revokeSpan 17 = .ok (.invokestatic 35, 3) := by decide +kernel
theorem dX4_revokeSpan_20 : decode cX4_revokeSpan 20 = .ok (.aload_n 0, 1) := by decide +kernel
theorem dX4_revokeSpan_21 : decode cX4_revokeSpan 21 = .ok (.getfield 84, 3) := by decide +kernel
theorem dX4_revokeSpan_24 : decode cX4_revokeSpan 24 = .ok (.bipush 20, 2) := by decide +kernel
theorem dX4_revokeSpan_26 : decode cX4_revokeSpan 26 = .ok (.if_icmp .lt 13, 3) := by decide +kernel
theorem dX4_revokeSpan_29 : decode cX4_revokeSpan 29 = .ok (.new 74, 3) := by decide +kernel
theorem dX4_revokeSpan_32 : decode cX4_revokeSpan 32 = .ok (.dup, 1) := by decide +kernel
theorem dX4_revokeSpan_33 : decode cX4_revokeSpan 33 = .ok (.ldc 87, 2) := by decide +kernel
theorem dX4_revokeSpan_35 : decode cX4_revokeSpan 35 = .ok (.invokespecial 78, 3) := by decide +kernel
theorem dX4_revokeSpan_38 : decode cX4_revokeSpan 38 = .ok (.athrow, 1) := by decide +kernel
theorem dX4_revokeSpan_39 : decode cX4_revokeSpan 39 = .ok (.aload_n 0, 1) := by decide +kernel
theorem dX4_revokeSpan_40 : decode cX4_revokeSpan 40 = .ok (.getfield 23, 3) := by decide +kernel
theorem dX4_revokeSpan_43 : decode cX4_revokeSpan 43 = .ok (.aload_n 0, 1) := by decide +kernel
theorem dX4_revokeSpan_44 : decode cX4_revokeSpan 44 = .ok (.getfield 84, 3) := by decide +kernel
theorem dX4_revokeSpan_47 : decode cX4_revokeSpan 47 = .ok (.new 21, 3) := by decide +kernel
theorem dX4_revokeSpan_50 : decode cX4_revokeSpan 50 = .ok (.dup, 1) := by decide +kernel
theorem dX4_revokeSpan_51 : decode cX4_revokeSpan 51 = .ok (.iload_n 1, 1) := by decide +kernel
theorem dX4_revokeSpan_52 : decode cX4_revokeSpan 52 = .ok (.iload_n 2, 1) := by decide +kernel
theorem dX4_revokeSpan_53 : decode cX4_revokeSpan 53 = .ok (.iload_n 3, 1) := by decide +kernel
theorem dX4_revokeSpan_54 : decode cX4_revokeSpan 54 = .ok (.invokespecial 89, 3) := by decide +kernel
theorem dX4_revokeSpan_57 : decode cX4_revokeSpan 57 = .ok (.aastore, 1) := by decide +kernel
theorem dX4_revokeSpan_58 : decode cX4_revokeSpan 58 = .ok (.aload_n 0, 1) := by decide +kernel
theorem dX4_revokeSpan_59 : decode cX4_revokeSpan 59 = .ok (.dup, 1) := by decide +kernel
theorem dX4_revokeSpan_60 : decode cX4_revokeSpan 60 = .ok (.getfield 84, 3) := by decide +kernel
theorem dX4_revokeSpan_63 : decode cX4_revokeSpan 63 = .ok (.iconst 1, 1) := by decide +kernel
theorem dX4_revokeSpan_64 : decode cX4_revokeSpan 64 = .ok (.iadd, 1) := by decide +kernel
theorem dX4_revokeSpan_65 : decode cX4_revokeSpan 65 = .ok (.putfield 84, 3) := by decide +kernel
theorem dX4_revokeSpan_68 : decode cX4_revokeSpan 68 = .ok (.aload_n 0, 1) := by decide +kernel
theorem dX4_revokeSpan_69 : decode cX4_revokeSpan 69 = .ok (.invokevirtual 91, 3) := by decide +kernel
theorem dX4_revokeSpan_72 : decode cX4_revokeSpan 72 = .ok (.ireturn, 1) := by decide +kernel
set_option maxRecDepth 20000 in
theorem ggX4_setFirstSight_X4_requireWithin : GoodIn wsX4_setFirstSight wsX4_requireWithin := goodIn_ca (goodIn_r _ [6, 7, 8] (by decide +kernel) (by decide +kernel)) (goodIn_sub (fun _ h => List.mem_cons_of_mem _ (List.mem_append_right _ h)) (by decide +kernel))
set_option maxRecDepth 20000 in
theorem gX4_setFirstSight_X4_requireWithin : GoodIn wsX4_setFirstSight (va_wsS RX4 35 yX4_requireWithin wsX4_requireWithin) := goodIn_app (goodIn_of _ (by decide +kernel)) ggX4_setFirstSight_X4_requireWithin
theorem dX4_setFirstSight_0 : decode cX4_setFirstSight 0 = .ok (.iload_n 1, 1) := by decide +kernel
theorem dX4_setFirstSight_1 : decode cX4_setFirstSight 1 = .ok (.iconst 0, 1) := by decide +kernel
theorem dX4_setFirstSight_2 : decode cX4_setFirstSight 2 = .ok (.iconst 2, 1) := by decide +kernel
theorem dX4_setFirstSight_3 : decode cX4_setFirstSight 3 = .ok (.invokestatic 35, 3) := by decide +kernel
theorem dX4_setFirstSight_6 : decode cX4_setFirstSight 6 = .ok (.aload_n 0, 1) := by decide +kernel
theorem dX4_setFirstSight_7 : decode cX4_setFirstSight 7 = .ok (.getfield 27, 3) := by decide +kernel
theorem dX4_setFirstSight_10 : decode cX4_setFirstSight 10 = .ok (.istore_n 3, 1) := by decide +kernel
theorem dX4_setFirstSight_11 : decode cX4_setFirstSight 11 = .ok (.aload_n 0, 1) := by decide +kernel
theorem dX4_setFirstSight_12 : decode cX4_setFirstSight 12 = .ok (.iload_n 1, 1) := by decide +kernel
theorem dX4_setFirstSight_13 : decode cX4_setFirstSight 13 = .ok (.putfield 27, 3) := by decide +kernel
theorem dX4_setFirstSight_16 : decode cX4_setFirstSight 16 = .ok (.aload_n 0, 1) := by decide +kernel
theorem dX4_setFirstSight_17 : decode cX4_setFirstSight 17 = .ok (.iload_n 2, 1) := by decide +kernel
theorem dX4_setFirstSight_18 : decode cX4_setFirstSight 18 = .ok (.putfield 95, 3) := by decide +kernel
theorem dX4_setFirstSight_21 : decode cX4_setFirstSight 21 = .ok (.iload_n 3, 1) := by decide +kernel
theorem dX4_setFirstSight_22 : decode cX4_setFirstSight 22 = .ok (.ireturn, 1) := by decide +kernel
set_option maxRecDepth 20000 in
theorem ggX4_answer_X4_certificateAt : GoodIn wsX4_answer wsX4_certificateAt := goodIn_ca (goodIn_r _ [8, 9, 10, 11, 12, 154, 155, 156, 157, 158, 159, 160, 161, 162, 163, 164, 165] (by decide +kernel) (by decide +kernel)) (goodIn_sub (fun _ h => List.mem_cons_of_mem _ (List.mem_append_left _ (List.mem_append_left _ (List.mem_append_left _ (List.mem_append_right _ h))))) (by decide +kernel))
set_option maxRecDepth 20000 in
theorem gX4_answer_X4_certificateAt : GoodIn wsX4_answer (wsV RX4 99 RX4 yX4_certificateAt wsX4_certificateAt) := goodIn_app (goodIn_of _ (by decide +kernel)) ggX4_answer_X4_certificateAt
set_option maxRecDepth 20000 in
theorem ggX4_answer_X4_requireNameAndPort : GoodIn wsX4_answer wsX4_requireNameAndPort := goodIn_ca (goodIn_r _ [15, 16, 17, 7, 18, 19, 20] (by decide +kernel) (by decide +kernel)) (goodIn_sub (fun _ h => List.mem_cons_of_mem _ (List.mem_append_left _ (List.mem_append_left _ (List.mem_append_right _ h)))) (by decide +kernel))
set_option maxRecDepth 20000 in
theorem gX4_answer_X4_requireNameAndPort : GoodIn wsX4_answer (va_wsS RX4 54 yX4_requireNameAndPort wsX4_requireNameAndPort) := goodIn_app (goodIn_of _ (by decide +kernel)) ggX4_answer_X4_requireNameAndPort
set_option maxRecDepth 20000 in
theorem ggX4_answer_X4_requireKey : GoodIn wsX4_answer wsX4_requireKey := goodIn_ca (goodIn_r _ [23, 16, 17, 7, 18, 19, 20] (by decide +kernel) (by decide +kernel)) (goodIn_sub (fun _ h => List.mem_cons_of_mem _ (List.mem_append_left _ (List.mem_append_left _ (List.mem_append_right _ h)))) (by decide +kernel))
set_option maxRecDepth 20000 in
theorem gX4_answer_X4_requireKey : GoodIn wsX4_answer (va_wsS RX4 39 yX4_requireKey wsX4_requireKey) := goodIn_app (goodIn_of _ (by decide +kernel)) ggX4_answer_X4_requireKey
set_option maxRecDepth 20000 in
theorem ggX4_answer_X4_judgementOf : GoodIn wsX4_answer wsX4_judgementOf := goodIn_r _ [27, 28, 29, 7, 30, 31, 32, 33, 34, 3, 35, 36, 37, 38, 39, 40, 41, 42, 43, 44, 45, 46, 47, 48, 49, 50, 51, 52, 53, 54, 55, 56, 57, 58, 59, 60, 61, 62, 63, 64, 65, 66, 67, 68, 69, 70, 71, 72, 73, 74, 75, 76, 77, 78, 79, 80, 81, 82, 83, 84, 85, 86, 87, 88, 89, 90, 91, 92, 93, 94, 95, 96, 97, 98, 99, 100, 101, 102, 103, 104, 105, 106, 107, 108, 166, 167, 168, 169, 170, 171, 172, 154, 155, 156, 157, 158, 159, 160, 161, 162, 163, 164, 165, 173, 174, 175, 176, 177, 178, 179, 180, 181, 182, 183, 184, 185, 186, 187, 188, 189] (by decide +kernel) (by decide +kernel)
set_option maxRecDepth 20000 in
theorem gX4_answer_X4_judgementOf : GoodIn wsX4_answer (wsV RX4 103 RX4 yX4_judgementOf wsX4_judgementOf) := goodIn_app (goodIn_of _ (by decide +kernel)) ggX4_answer_X4_judgementOf
set_option maxRecDepth 20000 in
theorem ggX4_answer_X4_authorityOf : GoodIn wsX4_answer wsX4_authorityOf := goodIn_r _ [30, 166, 167, 168, 169, 170, 171, 172] (by decide +kernel) (by decide +kernel)
set_option maxRecDepth 20000 in
theorem gX4_answer_X4_authorityOf : GoodIn wsX4_answer (va_wsS RX4 107 yX4_authorityOf wsX4_authorityOf) := goodIn_app (goodIn_of _ (by decide +kernel)) ggX4_answer_X4_authorityOf
set_option maxRecDepth 20000 in
theorem ggX4_answer_X4_seeToday : GoodIn wsX4_answer wsX4_seeToday := goodIn_r _ [112, 3, 35, 77, 78, 79, 80, 43, 81, 82, 68, 69, 70, 71, 72, 40, 41, 42, 44, 45, 46, 47, 48, 49, 50, 51, 52, 53, 54, 55, 56, 57, 58, 59, 60, 61, 62, 7, 63, 154, 155, 156, 157, 158, 159, 160, 161, 162, 163, 164, 165, 173, 174, 175, 176, 177, 178, 179, 180, 181, 182, 183, 184, 185, 186] (by decide +kernel) (by decide +kernel)
set_option maxRecDepth 20000 in
theorem gX4_answer_X4_seeToday : GoodIn wsX4_answer (wsV RX4 111 RX4 yX4_seeToday wsX4_seeToday) := goodIn_app (goodIn_of _ (by decide +kernel)) ggX4_answer_X4_seeToday
set_option maxRecDepth 20000 in
theorem ggX4_answer_X4_letWait : GoodIn wsX4_answer wsX4_letWait := goodIn_r _ [116, 117, 118, 1, 154, 155, 156, 157, 158, 159, 160, 161, 162, 163, 164, 165] (by decide +kernel) (by decide +kernel)
set_option maxRecDepth 20000 in
theorem gX4_answer_X4_letWait : GoodIn wsX4_answer (wsV RX4 115 RX4 yX4_letWait wsX4_letWait) := goodIn_app (goodIn_of _ (by decide +kernel)) ggX4_answer_X4_letWait
set_option maxRecDepth 20000 in
theorem ggX4_answer_X4_appendSighted : GoodIn wsX4_answer wsX4_appendSighted := goodIn_ca (goodIn_ca (goodIn_r _ [122, 123, 124, 125, 126, 7, 127, 128, 129, 3, 35, 77, 130, 131, 132, 43, 133, 134, 72, 135, 82, 49, 45, 136, 137, 138, 139, 48, 47, 46, 51, 52, 53, 140, 141, 142, 143, 144, 50, 145, 146, 57, 147, 148, 149, 150, 151, 152, 61, 60, 59, 153, 154, 155, 156, 157, 158, 159, 160, 161, 162, 163, 164, 165, 173, 174, 175, 176, 177, 178, 179, 180, 181, 182, 183, 184, 185, 186] (by decide +kernel) (by decide +kernel)) (goodIn_sub (fun _ h => List.mem_cons_of_mem _ (List.mem_append_left _ (List.mem_append_right _ h))) (by decide +kernel))) (goodIn_sub (fun _ h => List.mem_cons_of_mem _ (List.mem_append_right _ h)) (by decide +kernel))
set_option maxRecDepth 20000 in
theorem gX4_answer_X4_appendSighted : GoodIn wsX4_answer (wsV RX4 118 RX4 yX4_appendSighted wsX4_appendSighted) := goodIn_app (goodIn_of _ (by decide +kernel)) ggX4_answer_X4_appendSighted
theorem dX4_answer_0 : decode cX4_answer 0 = .ok (.aload_n 0, 1) := by decide +kernel
theorem dX4_answer_1 : decode cX4_answer 1 = .ok (.iload 4, 2) := by decide +kernel
theorem dX4_answer_3 : decode cX4_answer 3 = .ok (.invokevirtual 99, 3) := by decide +kernel
theorem dX4_answer_6 : decode cX4_answer 6 = .ok (.astore 5, 2) := by decide +kernel
theorem dX4_answer_8 : decode cX4_answer 8 = .ok (.iload_n 1, 1) := by decide +kernel
theorem dX4_answer_9 : decode cX4_answer 9 = .ok (.iload_n 2, 1) := by decide +kernel
theorem dX4_answer_10 : decode cX4_answer 10 = .ok (.invokestatic 54, 3) := by decide +kernel
theorem dX4_answer_13 : decode cX4_answer 13 = .ok (.iload_n 3, 1) := by decide +kernel
theorem dX4_answer_14 : decode cX4_answer 14 = .ok (.invokestatic 39, 3) := by decide +kernel
theorem dX4_answer_17 : decode cX4_answer 17 = .ok (.aload_n 0, 1) := by decide +kernel
theorem dX4_answer_18 : decode cX4_answer 18 = .ok (.iload_n 1, 1) := by decide +kernel
theorem dX4_answer_19 : decode cX4_answer 19 = .ok (.iload_n 2, 1) := by decide +kernel
theorem dX4_answer_20 : decode cX4_answer 20 = .ok (.iload_n 3, 1) := by decide +kernel
theorem dX4_answer_21 : decode cX4_answer 21 = .ok (.aload 5, 2) := by decide +kernel
theorem dX4_answer_23 : decode cX4_answer 23 = .ok (.invokevirtual 103, 3) := by decide +kernel
theorem dX4_answer_26 : decode cX4_answer 26 = .ok (.istore 6, 2) := by decide +kernel
theorem dX4_answer_28 : decode cX4_answer 28 = .ok (.aload_n 0, 1) := by decide +kernel
theorem dX4_answer_29 : decode cX4_answer 29 = .ok (.iconst (-1), 1) := by decide +kernel
theorem dX4_answer_30 : decode cX4_answer 30 = .ok (.putfield 31, 3) := by decide +kernel
theorem dX4_answer_33 : decode cX4_answer 33 = .ok (.iload 6, 2) := by decide +kernel
theorem dX4_answer_35 : decode cX4_answer 35 = .ok (.iconst 1, 1) := by decide +kernel
theorem dX4_answer_36 : decode cX4_answer 36 = .ok (.if_icmp .eq 9, 3) := by decide +kernel
theorem dX4_answer_39 : decode cX4_answer 39 = .ok (.iload 6, 2) := by decide +kernel
theorem dX4_answer_41 : decode cX4_answer 41 = .ok (.iconst 2, 1) := by decide +kernel
theorem dX4_answer_42 : decode cX4_answer 42 = .ok (.if_icmp .ne 18, 3) := by decide +kernel
theorem dX4_answer_45 : decode cX4_answer 45 = .ok (.aload_n 0, 1) := by decide +kernel
theorem dX4_answer_46 : decode cX4_answer 46 = .ok (.iload_n 1, 1) := by decide +kernel
theorem dX4_answer_47 : decode cX4_answer 47 = .ok (.iload_n 2, 1) := by decide +kernel
theorem dX4_answer_48 : decode cX4_answer 48 = .ok (.iload_n 3, 1) := by decide +kernel
theorem dX4_answer_49 : decode cX4_answer 49 = .ok (.aload 5, 2) := by decide +kernel
theorem dX4_answer_51 : decode cX4_answer 51 = .ok (.invokestatic 107, 3) := by decide +kernel
theorem dX4_answer_54 : decode cX4_answer 54 = .ok (.invokevirtual 111, 3) := by decide +kernel
theorem dX4_answer_57 : decode cX4_answer 57 = .ok (.goto 62, 3) := by decide +kernel
theorem dX4_answer_60 : decode cX4_answer 60 = .ok (.iload 6, 2) := by decide +kernel
theorem dX4_answer_62 : decode cX4_answer 62 = .ok (.iconst 4, 1) := by decide +kernel
theorem dX4_answer_63 : decode cX4_answer 63 = .ok (.if_icmp .eq 17, 3) := by decide +kernel
theorem dX4_answer_66 : decode cX4_answer 66 = .ok (.iload 6, 2) := by decide +kernel
theorem dX4_answer_68 : decode cX4_answer 68 = .ok (.iconst 5, 1) := by decide +kernel
theorem dX4_answer_69 : decode cX4_answer 69 = .ok (.if_icmp .ne 21, 3) := by decide +kernel
theorem dX4_answer_72 : decode cX4_answer 72 = .ok (.aload_n 0, 1) := by decide +kernel
theorem dX4_answer_73 : decode cX4_answer 73 = .ok (.getfield 27, 3) := by decide +kernel
theorem dX4_answer_76 : decode cX4_answer 76 = .ok (.iconst 1, 1) := by decide +kernel
theorem dX4_answer_77 : decode cX4_answer 77 = .ok (.if_icmp .ne 13, 3) := by decide +kernel
theorem dX4_answer_80 : decode cX4_answer 80 = .ok (.aload_n 0, 1) := by decide +kernel
theorem dX4_answer_81 : decode cX4_answer 81 = .ok (.iload_n 1, 1) := by decide +kernel
theorem dX4_answer_82 : decode cX4_answer 82 = .ok (.iload_n 2, 1) := by decide +kernel
theorem dX4_answer_83 : decode cX4_answer 83 = .ok (.iload_n 3, 1) := by decide +kernel
theorem dX4_answer_84 : decode cX4_answer 84 = .ok (.invokevirtual 115, 3) := by decide +kernel
theorem dX4_answer_87 : decode cX4_answer 87 = .ok (.goto 32, 3) := by decide +kernel
theorem dX4_answer_90 : decode cX4_answer 90 = .ok (.iload 6, 2) := by decide +kernel
theorem dX4_answer_92 : decode cX4_answer 92 = .ok (.iconst 5, 1) := by decide +kernel
theorem dX4_answer_93 : decode cX4_answer 93 = .ok (.if_icmp .ne 26, 3) := by decide +kernel
theorem dX4_answer_96 : decode cX4_answer 96 = .ok (.aload_n 0, 1) := by decide +kernel
theorem dX4_answer_97 : decode cX4_answer 97 = .ok (.getfield 27, 3) := by decide +kernel
theorem dX4_answer_100 : decode cX4_answer 100 = .ok (.ifCond .ne 19, 3) := by decide +kernel
theorem dX4_answer_103 : decode cX4_answer 103 = .ok (.aload_n 0, 1) := by decide +kernel
theorem dX4_answer_104 : decode cX4_answer 104 = .ok (.getfield 47, 3) := by decide +kernel
theorem dX4_answer_107 : decode cX4_answer 107 = .ok (.bipush 40, 2) := by decide +kernel
theorem dX4_answer_109 : decode cX4_answer 109 = .ok (.if_icmp .ge 10, 3) := by decide +kernel
theorem dX4_answer_112 : decode cX4_answer 112 = .ok (.aload_n 0, 1) := by decide +kernel
theorem dX4_answer_113 : decode cX4_answer 113 = .ok (.iload_n 1, 1) := by decide +kernel
theorem dX4_answer_114 : decode cX4_answer 114 = .ok (.iload_n 2, 1) := by decide +kernel
theorem dX4_answer_115 : decode cX4_answer 115 = .ok (.iload_n 3, 1) := by decide +kernel
theorem dX4_answer_116 : decode cX4_answer 116 = .ok (.invokevirtual 118, 3) := by decide +kernel
theorem dX4_answer_119 : decode cX4_answer 119 = .ok (.iload 6, 2) := by decide +kernel
theorem dX4_answer_121 : decode cX4_answer 121 = .ok (.ireturn, 1) := by decide +kernel
set_option maxRecDepth 20000 in
theorem ggX4_confirm_X4_appendSighted : GoodIn wsX4_confirm wsX4_appendSighted := goodIn_ca (goodIn_ca (goodIn_r _ [11, 12, 13, 14, 15, 10, 16, 1, 2, 6, 17, 18, 19, 20, 21, 22, 23, 24, 25, 26, 27, 28, 29, 30, 31, 32, 33, 34, 35, 36, 37, 38, 39, 40, 41, 42, 43, 44, 45, 46, 47, 48, 49, 50, 51, 52, 53, 54, 55, 56, 57, 58, 59, 60, 61, 62, 63, 64, 65, 66, 67, 68, 69, 70, 71, 72, 73, 74, 75, 76, 77, 78, 79, 80, 81, 82, 83, 84] (by decide +kernel) (by decide +kernel)) (goodIn_sub (fun _ h => List.mem_cons_of_mem _ (List.mem_append_left _ (List.mem_append_right _ h))) (by decide +kernel))) (goodIn_sub (fun _ h => List.mem_cons_of_mem _ (List.mem_append_right _ h)) (by decide +kernel))
set_option maxRecDepth 20000 in
theorem gX4_confirm_X4_appendSighted : GoodIn wsX4_confirm (wsV RX4 118 RX4 yX4_appendSighted wsX4_appendSighted) := goodIn_app (goodIn_of _ (by decide +kernel)) ggX4_confirm_X4_appendSighted
theorem dX4_confirm_0 : decode cX4_confirm 0 = .ok (.aload_n 0, 1) := by decide +kernel
theorem dX4_confirm_1 : decode cX4_confirm 1 = .ok (.getfield 31, 3) := by decide +kernel
theorem dX4_confirm_4 : decode cX4_confirm 4 = .ok (.iconst (-1), 1) := by decide +kernel
theorem dX4_confirm_5 : decode cX4_confirm 5 = .ok (.if_icmp .ne 13, 3) := by decide +kernel
theorem dX4_confirm_8 : decode cX4_confirm 8 = .ok (.new 74, 3) := by decide +kernel
theorem dX4_confirm_11 : decode cX4_confirm 11 = .ok (.dup, 1) := by decide +kernel
theorem dX4_confirm_12 : decode cX4_confirm 12 = .ok (.ldc 121, 2) := by decide +kernel
theorem dX4_confirm_14 : decode cX4_confirm 14 = .ok (.invokespecial 78, 3) := by decide +kernel
theorem dX4_confirm_17 : decode cX4_confirm 17 = .ok (.athrow, 1) := by decide +kernel
theorem dX4_confirm_18 : decode cX4_confirm 18 = .ok (.aload_n 0, 1) := by decide +kernel
theorem dX4_confirm_19 : decode cX4_confirm 19 = .ok (.aload_n 0, 1) := by decide +kernel
theorem dX4_confirm_20 : decode cX4_confirm 20 = .ok (.getfield 123, 3) := by decide +kernel
theorem dX4_confirm_23 : decode cX4_confirm 23 = .ok (.aload_n 0, 1) := by decide +kernel
theorem dX4_confirm_24 : decode cX4_confirm 24 = .ok (.getfield 126, 3) := by decide +kernel
theorem dX4_confirm_27 : decode cX4_confirm 27 = .ok (.aload_n 0, 1) := by decide +kernel
theorem dX4_confirm_28 : decode cX4_confirm 28 = .ok (.getfield 31, 3) := by decide +kernel
theorem dX4_confirm_31 : decode cX4_confirm 31 = .ok (.invokevirtual 118, 3) := by decide +kernel
theorem dX4_confirm_34 : decode cX4_confirm 34 = .ok (.aload_n 0, 1) := by decide +kernel
theorem dX4_confirm_35 : decode cX4_confirm 35 = .ok (.iconst (-1), 1) := by decide +kernel
theorem dX4_confirm_36 : decode cX4_confirm 36 = .ok (.putfield 31, 3) := by decide +kernel
theorem dX4_confirm_39 : decode cX4_confirm 39 = .ok (.aload_n 0, 1) := by decide +kernel
theorem dX4_confirm_40 : decode cX4_confirm 40 = .ok (.getfield 47, 3) := by decide +kernel
theorem dX4_confirm_43 : decode cX4_confirm 43 = .ok (.iconst 1, 1) := by decide +kernel
theorem dX4_confirm_44 : decode cX4_confirm 44 = .ok (.isub, 1) := by decide +kernel
theorem dX4_confirm_45 : decode cX4_confirm 45 = .ok (.ireturn, 1) := by decide +kernel
set_option maxRecDepth 20000 in
theorem ggX4_turn_X4_requireNameAndPort : GoodIn wsX4_turn wsX4_requireNameAndPort := goodIn_ca (goodIn_r _ [8, 9, 10, 7, 11, 1, 2] (by decide +kernel) (by decide +kernel)) (goodIn_sub (fun _ h => List.mem_cons_of_mem _ (List.mem_append_left _ (List.mem_append_right _ h))) (by decide +kernel))
set_option maxRecDepth 20000 in
theorem gX4_turn_X4_requireNameAndPort : GoodIn wsX4_turn (va_wsS RX4 54 yX4_requireNameAndPort wsX4_requireNameAndPort) := goodIn_app (goodIn_of _ (by decide +kernel)) ggX4_turn_X4_requireNameAndPort
set_option maxRecDepth 20000 in
theorem ggX4_turn_X4_requireKey : GoodIn wsX4_turn wsX4_requireKey := goodIn_ca (goodIn_r _ [14, 9, 10, 7, 11, 1, 2] (by decide +kernel) (by decide +kernel)) (goodIn_sub (fun _ h => List.mem_cons_of_mem _ (List.mem_append_left _ (List.mem_append_right _ h))) (by decide +kernel))
set_option maxRecDepth 20000 in
theorem gX4_turn_X4_requireKey : GoodIn wsX4_turn (va_wsS RX4 39 yX4_requireKey wsX4_requireKey) := goodIn_app (goodIn_of _ (by decide +kernel)) ggX4_turn_X4_requireKey
set_option maxRecDepth 20000 in
theorem ggX4_turn_X4_requireWithin : GoodIn wsX4_turn wsX4_requireWithin := goodIn_ca (goodIn_r _ [11, 1, 2] (by decide +kernel) (by decide +kernel)) (goodIn_sub (fun _ h => List.mem_cons_of_mem _ (List.mem_append_left _ (List.mem_append_right _ h))) (by decide +kernel))
set_option maxRecDepth 20000 in
theorem gX4_turn_X4_requireWithin : GoodIn wsX4_turn (va_wsS RX4 35 yX4_requireWithin wsX4_requireWithin) := goodIn_app (goodIn_of _ (by decide +kernel)) ggX4_turn_X4_requireWithin
set_option maxRecDepth 20000 in
theorem ggX4_turn_X4_judgementByLines : GoodIn wsX4_turn wsX4_judgementByLines := goodIn_r _ [18, 19, 20, 21, 22, 23, 24, 25, 26, 27, 28, 29, 30, 31, 32, 33, 34, 35, 36, 37, 38, 39, 40, 41, 42, 43, 44, 45, 46, 47, 7, 48, 49, 50, 51, 52, 53, 54, 55, 56, 57, 58, 59, 60, 61, 62, 63, 64, 65, 66, 67, 68, 69, 70, 93, 94, 95, 96, 97, 98, 99, 100, 101, 102, 103, 104, 105, 106, 107, 108, 109, 110, 111, 112, 113, 114, 115, 116, 117, 118] (by decide +kernel) (by decide +kernel)
set_option maxRecDepth 20000 in
theorem gX4_turn_X4_judgementByLines : GoodIn wsX4_turn (wsV RX4 134 RX4 yX4_judgementByLines wsX4_judgementByLines) := goodIn_app (goodIn_of _ (by decide +kernel)) ggX4_turn_X4_judgementByLines
set_option maxRecDepth 20000 in
theorem ggX4_turn_X4_turnLines : GoodIn wsX4_turn wsX4_turnLines := goodIn_ca (goodIn_r _ [74, 19, 20, 62, 58, 59, 60, 7, 61, 63, 64, 65, 28, 66, 67, 25, 26, 27, 29, 30, 31, 32, 33, 34, 35, 36, 37, 38, 39, 40, 41, 42, 43, 44, 45, 46, 47, 48, 75, 76, 77, 78, 3, 4, 79, 80, 81, 82, 83, 57, 84, 85, 86, 87, 88, 89, 90, 91, 92, 93, 94, 95, 96, 97, 98, 99, 100, 101, 102, 103, 104, 105, 106, 107, 108, 109, 110, 111, 112, 113, 114, 115, 116, 117, 118] (by decide +kernel) (by decide +kernel)) (goodIn_sub (fun _ h => List.mem_cons_of_mem _ (List.mem_append_right _ h)) (by decide +kernel))
set_option maxRecDepth 20000 in
theorem gX4_turn_X4_turnLines : GoodIn wsX4_turn (wsV RX4 142 RX4 yX4_turnLines wsX4_turnLines) := goodIn_app (goodIn_of _ (by decide +kernel)) ggX4_turn_X4_turnLines
theorem dX4_turn_0 : decode cX4_turn 0 = .ok (.iload_n 1, 1) := by decide +kernel
theorem dX4_turn_1 : decode cX4_turn 1 = .ok (.iload_n 2, 1) := by decide +kernel
theorem dX4_turn_2 : decode cX4_turn 2 = .ok (.invokestatic 54, 3) := by decide +kernel
theorem dX4_turn_5 : decode cX4_turn 5 = .ok (.iload_n 3, 1) := by decide +kernel
theorem dX4_turn_6 : decode cX4_turn 6 = .ok (.invokestatic 39, 3) := by decide +kernel
theorem dX4_turn_9 : decode cX4_turn 9 = .ok (.iload 4, 2) := by decide +kernel
theorem dX4_turn_11 : decode cX4_turn 11 = .ok (.invokestatic 39, 3) := by decide +kernel
theorem dX4_turn_14 : decode cX4_turn 14 = .ok (.iload 5, 2) := by decide +kernel
theorem dX4_turn_16 : decode cX4_turn 16 = .ok (.iconst 0, 1) := by decide +kernel
theorem dX4_turn_17 : decode cX4_turn 17 = .ok (.sipush 1000, 3) := by decide +kernel
theorem dX4_turn_20 : decode cX4_turn 20 = .ok (.invokestatic 35, 3) := by decide +kernel
theorem dX4_turn_23 : decode cX4_turn 23 = .ok (.iload_n 3, 1) := by decide +kernel
theorem dX4_turn_24 : decode cX4_turn 24 = .ok (.iload 4, 2) := by decide +kernel
theorem dX4_turn_26 : decode cX4_turn 26 = .ok (.if_icmp .ne 13, 3) := by decide +kernel
theorem dX4_turn_29 : decode cX4_turn 29 = .ok (.new 129, 3) := by decide +kernel
theorem dX4_turn_32 : decode cX4_turn 32 = .ok (.dup, 1) := by decide +kernel
theorem dX4_turn_33 : decode cX4_turn 33 = .ok (.ldc 131, 2) := by decide +kernel
theorem dX4_turn_35 : decode cX4_turn 35 = .ok (.invokespecial 133, 3) := by decide +kernel
theorem dX4_turn_38 : decode cX4_turn 38 = .ok (.athrow, 1) := by decide +kernel
theorem dX4_turn_39 : decode cX4_turn 39 = .ok (.aload_n 0, 1) := by decide +kernel
theorem dX4_turn_40 : decode cX4_turn 40 = .ok (.iload_n 1, 1) := by decide +kernel
theorem dX4_turn_41 : decode cX4_turn 41 = .ok (.iload_n 2, 1) := by decide +kernel
theorem dX4_turn_42 : decode cX4_turn 42 = .ok (.iload_n 3, 1) := by decide +kernel
theorem dX4_turn_43 : decode cX4_turn 43 = .ok (.iconst (-1), 1) := by decide +kernel
theorem dX4_turn_44 : decode cX4_turn 44 = .ok (.invokevirtual 134, 3) := by decide +kernel
theorem dX4_turn_47 : decode cX4_turn 47 = .ok (.iconst 2, 1) := by decide +kernel
theorem dX4_turn_48 : decode cX4_turn 48 = .ok (.if_icmp .eq 13, 3) := by decide +kernel
theorem dX4_turn_51 : decode cX4_turn 51 = .ok (.new 74, 3) := by decide +kernel
theorem dX4_turn_54 : decode cX4_turn 54 = .ok (.dup, 1) := by decide +kernel
theorem dX4_turn_55 : decode cX4_turn 55 = .ok (.ldc 138, 2) := by decide +kernel
theorem dX4_turn_57 : decode cX4_turn 57 = .ok (.invokespecial 78, 3) := by decide +kernel
theorem dX4_turn_60 : decode cX4_turn 60 = .ok (.athrow, 1) := by decide +kernel
theorem dX4_turn_61 : decode cX4_turn 61 = .ok (.aload_n 0, 1) := by decide +kernel
theorem dX4_turn_62 : decode cX4_turn 62 = .ok (.iload_n 1, 1) := by decide +kernel
theorem dX4_turn_63 : decode cX4_turn 63 = .ok (.iload_n 2, 1) := by decide +kernel
theorem dX4_turn_64 : decode cX4_turn 64 = .ok (.iload 4, 2) := by decide +kernel
theorem dX4_turn_66 : decode cX4_turn 66 = .ok (.iconst (-1), 1) := by decide +kernel
theorem dX4_turn_67 : decode cX4_turn 67 = .ok (.invokevirtual 134, 3) := by decide +kernel
theorem dX4_turn_70 : decode cX4_turn 70 = .ok (.ifCond .ne 13, 3) := by decide +kernel
theorem dX4_turn_73 : decode cX4_turn 73 = .ok (.new 74, 3) := by decide +kernel
theorem dX4_turn_76 : decode cX4_turn 76 = .ok (.dup, 1) := by decide +kernel
theorem dX4_turn_77 : decode cX4_turn 77 = .ok (.ldc 140, 2) := by decide +kernel
theorem dX4_turn_79 : decode cX4_turn 79 = .ok (.invokespecial 78, 3) := by decide +kernel
theorem dX4_turn_82 : decode cX4_turn 82 = .ok (.athrow, 1) := by decide +kernel
theorem dX4_turn_83 : decode cX4_turn 83 = .ok (.aload_n 0, 1) := by decide +kernel
theorem dX4_turn_84 : decode cX4_turn 84 = .ok (.iload_n 1, 1) := by decide +kernel
theorem dX4_turn_85 : decode cX4_turn 85 = .ok (.iload_n 2, 1) := by decide +kernel
theorem dX4_turn_86 : decode cX4_turn 86 = .ok (.iload_n 3, 1) := by decide +kernel
theorem dX4_turn_87 : decode cX4_turn 87 = .ok (.iload 4, 2) := by decide +kernel
theorem dX4_turn_89 : decode cX4_turn 89 = .ok (.iload 5, 2) := by decide +kernel
theorem dX4_turn_91 : decode cX4_turn 91 = .ok (.invokevirtual 142, 3) := by decide +kernel
theorem dX4_turn_94 : decode cX4_turn 94 = .ok (.ireturn, 1) := by decide +kernel
set_option maxRecDepth 20000 in
theorem ggX4_pass_X4_requireWithin : GoodIn wsX4_pass wsX4_requireWithin := goodIn_ca (goodIn_r _ [7, 8, 9] (by decide +kernel) (by decide +kernel)) (goodIn_sub (fun _ h => List.mem_cons_of_mem _ (List.mem_append_right _ h)) (by decide +kernel))
set_option maxRecDepth 20000 in
theorem gX4_pass_X4_requireWithin : GoodIn wsX4_pass (va_wsS RX4 35 yX4_requireWithin wsX4_requireWithin) := goodIn_app (goodIn_of _ (by decide +kernel)) ggX4_pass_X4_requireWithin
theorem dX4_pass_0 : decode cX4_pass 0 = .ok (.iload_n 1, 1) := by decide +kernel
theorem dX4_pass_1 : decode cX4_pass 1 = .ok (.iconst 1, 1) := by decide +kernel
theorem dX4_pass_2 : decode cX4_pass 2 = .ok (.sipush 1000, 3) := by decide +kernel
theorem dX4_pass_5 : decode cX4_pass 5 = .ok (.invokestatic 35, 3) := by decide +kernel
theorem dX4_pass_8 : decode cX4_pass 8 = .ok (.aload_n 0, 1) := by decide +kernel
theorem dX4_pass_9 : decode cX4_pass 9 = .ok (.getfield 146, 3) := by decide +kernel
theorem dX4_pass_12 : decode cX4_pass 12 = .ok (.iload_n 1, 1) := by decide +kernel
theorem dX4_pass_13 : decode cX4_pass 13 = .ok (.iadd, 1) := by decide +kernel
theorem dX4_pass_14 : decode cX4_pass 14 = .ok (.sipush 5000, 3) := by decide +kernel
theorem dX4_pass_17 : decode cX4_pass 17 = .ok (.if_icmp .le 13, 3) := by decide +kernel
theorem dX4_pass_20 : decode cX4_pass 20 = .ok (.new 74, 3) := by decide +kernel
theorem dX4_pass_23 : decode cX4_pass 23 = .ok (.dup, 1) := by decide +kernel
theorem dX4_pass_24 : decode cX4_pass 24 = .ok (.ldc 149, 2) := by decide +kernel
theorem dX4_pass_26 : decode cX4_pass 26 = .ok (.invokespecial 78, 3) := by decide +kernel
theorem dX4_pass_29 : decode cX4_pass 29 = .ok (.athrow, 1) := by decide +kernel
theorem dX4_pass_30 : decode cX4_pass 30 = .ok (.aload_n 0, 1) := by decide +kernel
theorem dX4_pass_31 : decode cX4_pass 31 = .ok (.dup, 1) := by decide +kernel
theorem dX4_pass_32 : decode cX4_pass 32 = .ok (.getfield 146, 3) := by decide +kernel
theorem dX4_pass_35 : decode cX4_pass 35 = .ok (.iload_n 1, 1) := by decide +kernel
theorem dX4_pass_36 : decode cX4_pass 36 = .ok (.iadd, 1) := by decide +kernel
theorem dX4_pass_37 : decode cX4_pass 37 = .ok (.putfield 146, 3) := by decide +kernel
theorem dX4_pass_40 : decode cX4_pass 40 = .ok (.aload_n 0, 1) := by decide +kernel
theorem dX4_pass_41 : decode cX4_pass 41 = .ok (.getfield 146, 3) := by decide +kernel
theorem dX4_pass_44 : decode cX4_pass 44 = .ok (.ireturn, 1) := by decide +kernel
set_option maxRecDepth 20000 in
theorem ggX4_clean_X4_requireWithin : GoodIn wsX4_clean wsX4_requireWithin := goodIn_ca (goodIn_r _ [6, 7, 8] (by decide +kernel) (by decide +kernel)) (goodIn_sub (fun _ h => List.mem_cons_of_mem _ (List.mem_append_right _ h)) (by decide +kernel))
set_option maxRecDepth 20000 in
theorem gX4_clean_X4_requireWithin : GoodIn wsX4_clean (va_wsS RX4 35 yX4_requireWithin wsX4_requireWithin) := goodIn_app (goodIn_of _ (by decide +kernel)) ggX4_clean_X4_requireWithin
set_option maxRecDepth 20000 in
theorem ggX4_clean_X4_isToBeCleaned : GoodIn wsX4_clean wsX4_isToBeCleaned := goodIn_r _ [12, 13, 14, 15, 16, 17, 18, 19, 36, 37, 38, 39, 40, 41, 42, 43, 44, 45, 24, 25, 26, 27, 28, 29, 30, 31, 32, 33, 34, 35] (by decide +kernel) (by decide +kernel)
set_option maxRecDepth 20000 in
theorem gX4_clean_X4_isToBeCleaned : GoodIn wsX4_clean (wsV RX4 151 RX4 yX4_isToBeCleaned wsX4_isToBeCleaned) := goodIn_app (goodIn_of _ (by decide +kernel)) ggX4_clean_X4_isToBeCleaned
set_option maxRecDepth 20000 in
theorem ggX4_clean_X4_takeOut : GoodIn wsX4_clean wsX4_takeOut := goodIn_r _ [23, 2, 1, 24, 25, 26, 27, 28, 29, 30, 31, 32, 33, 34, 35] (by decide +kernel) (by decide +kernel)
set_option maxRecDepth 20000 in
theorem gX4_clean_X4_takeOut : GoodIn wsX4_clean (wsV RX4 68 RX4 yX4_takeOut wsX4_takeOut) := goodIn_app (goodIn_of _ (by decide +kernel)) ggX4_clean_X4_takeOut
theorem dX4_clean_0 : decode cX4_clean 0 = .ok (.iload_n 1, 1) := by decide +kernel
theorem dX4_clean_1 : decode cX4_clean 1 = .ok (.iconst 1, 1) := by decide +kernel
theorem dX4_clean_2 : decode cX4_clean 2 = .ok (.sipush 5000, 3) := by decide +kernel
theorem dX4_clean_5 : decode cX4_clean 5 = .ok (.invokestatic 35, 3) := by decide +kernel
theorem dX4_clean_8 : decode cX4_clean 8 = .ok (.iconst 0, 1) := by decide +kernel
theorem dX4_clean_9 : decode cX4_clean 9 = .ok (.istore_n 2, 1) := by decide +kernel
theorem dX4_clean_10 : decode cX4_clean 10 = .ok (.aload_n 0, 1) := by decide +kernel
theorem dX4_clean_11 : decode cX4_clean 11 = .ok (.getfield 47, 3) := by decide +kernel
theorem dX4_clean_14 : decode cX4_clean 14 = .ok (.iconst 1, 1) := by decide +kernel
theorem dX4_clean_15 : decode cX4_clean 15 = .ok (.isub, 1) := by decide +kernel
theorem dX4_clean_16 : decode cX4_clean 16 = .ok (.istore_n 3, 1) := by decide +kernel
theorem dX4_clean_17 : decode cX4_clean 17 = .ok (.iload_n 3, 1) := by decide +kernel
theorem dX4_clean_18 : decode cX4_clean 18 = .ok (.ifCond .lt 31, 3) := by decide +kernel
theorem dX4_clean_21 : decode cX4_clean 21 = .ok (.aload_n 0, 1) := by decide +kernel
theorem dX4_clean_22 : decode cX4_clean 22 = .ok (.aload_n 0, 1) := by decide +kernel
theorem dX4_clean_23 : decode cX4_clean 23 = .ok (.getfield 11, 3) := by decide +kernel
theorem dX4_clean_26 : decode cX4_clean 26 = .ok (.iload_n 3, 1) := by decide +kernel
theorem dX4_clean_27 : decode cX4_clean 27 = .ok (.aaload, 1) := by decide +kernel
theorem dX4_clean_28 : decode cX4_clean 28 = .ok (.iload_n 1, 1) := by decide +kernel
theorem dX4_clean_29 : decode cX4_clean 29 = .ok (.invokevirtual 151, 3) := by decide +kernel
theorem dX4_clean_32 : decode cX4_clean 32 = .ok (.ifCond .eq 11, 3) := by decide +kernel
theorem dX4_clean_35 : decode cX4_clean 35 = .ok (.aload_n 0, 1) := by decide +kernel
theorem dX4_clean_36 : decode cX4_clean 36 = .ok (.iload_n 3, 1) := by decide +kernel
theorem dX4_clean_37 : decode cX4_clean 37 = .ok (.invokevirtual 68, 3) := by decide +kernel
theorem dX4_clean_40 : decode cX4_clean 40 = .ok (.iinc 2 1, 3) := by decide +kernel
theorem dX4_clean_43 : decode cX4_clean 43 = .ok (.iinc 3 (-1), 3) := by decide +kernel
theorem dX4_clean_46 : decode cX4_clean 46 = .ok (.goto (-29), 3) := by decide +kernel
theorem dX4_clean_49 : decode cX4_clean 49 = .ok (.iload_n 2, 1) := by decide +kernel
theorem dX4_clean_50 : decode cX4_clean 50 = .ok (.ireturn, 1) := by decide +kernel
set_option maxRecDepth 20000 in
theorem ggX4_judge_X4_certificateAt : GoodIn wsX4_judge wsX4_certificateAt := goodIn_ca (goodIn_r _ [5, 6, 7, 8, 9, 107, 108, 109, 110, 111, 112, 113, 114, 115, 116, 117, 118] (by decide +kernel) (by decide +kernel)) (goodIn_sub (fun _ h => List.mem_cons_of_mem _ (List.mem_append_left _ (List.mem_append_right _ h))) (by decide +kernel))
set_option maxRecDepth 20000 in
theorem gX4_judge_X4_certificateAt : GoodIn wsX4_judge (wsV RX4 99 RX4 yX4_certificateAt wsX4_certificateAt) := goodIn_app (goodIn_of _ (by decide +kernel)) ggX4_judge_X4_certificateAt
set_option maxRecDepth 20000 in
theorem ggX4_judge_X4_requireNameAndPort : GoodIn wsX4_judge wsX4_requireNameAndPort := goodIn_ca (goodIn_r _ [12, 13, 14, 4, 15, 16, 17] (by decide +kernel) (by decide +kernel)) (goodIn_sub (fun _ h => List.mem_cons_of_mem _ (List.mem_append_right _ h)) (by decide +kernel))
set_option maxRecDepth 20000 in
theorem gX4_judge_X4_requireNameAndPort : GoodIn wsX4_judge (va_wsS RX4 54 yX4_requireNameAndPort wsX4_requireNameAndPort) := goodIn_app (goodIn_of _ (by decide +kernel)) ggX4_judge_X4_requireNameAndPort
set_option maxRecDepth 20000 in
theorem ggX4_judge_X4_requireKey : GoodIn wsX4_judge wsX4_requireKey := goodIn_ca (goodIn_r _ [20, 13, 14, 4, 15, 16, 17] (by decide +kernel) (by decide +kernel)) (goodIn_sub (fun _ h => List.mem_cons_of_mem _ (List.mem_append_right _ h)) (by decide +kernel))
set_option maxRecDepth 20000 in
theorem gX4_judge_X4_requireKey : GoodIn wsX4_judge (va_wsS RX4 39 yX4_requireKey wsX4_requireKey) := goodIn_app (goodIn_of _ (by decide +kernel)) ggX4_judge_X4_requireKey
set_option maxRecDepth 20000 in
theorem ggX4_judge_X4_judgementOf : GoodIn wsX4_judge wsX4_judgementOf := goodIn_r _ [24, 25, 26, 4, 27, 28, 29, 30, 31, 32, 33, 34, 35, 36, 37, 38, 39, 40, 41, 42, 43, 44, 45, 46, 47, 48, 49, 50, 51, 52, 53, 54, 55, 56, 57, 58, 59, 60, 61, 62, 63, 64, 65, 66, 67, 68, 69, 70, 71, 72, 73, 74, 75, 76, 77, 78, 79, 80, 81, 82, 83, 84, 85, 86, 87, 88, 89, 90, 91, 92, 93, 94, 95, 96, 97, 98, 99, 100, 101, 102, 103, 104, 105, 106, 119, 120, 121, 122, 123, 124, 125, 107, 108, 109, 110, 111, 112, 113, 114, 115, 116, 117, 118, 126, 127, 128, 129, 130, 131, 132, 133, 134, 135, 136, 137, 138, 139, 140, 141, 142] (by decide +kernel) (by decide +kernel)
set_option maxRecDepth 20000 in
theorem gX4_judge_X4_judgementOf : GoodIn wsX4_judge (wsV RX4 103 RX4 yX4_judgementOf wsX4_judgementOf) := goodIn_app (goodIn_of _ (by decide +kernel)) ggX4_judge_X4_judgementOf
theorem dX4_judge_0 : decode cX4_judge 0 = .ok (.aload_n 0, 1) := by decide +kernel
theorem dX4_judge_1 : decode cX4_judge 1 = .ok (.iload 4, 2) := by decide +kernel
theorem dX4_judge_3 : decode cX4_judge 3 = .ok (.invokevirtual 99, 3) := by decide +kernel
theorem dX4_judge_6 : decode cX4_judge 6 = .ok (.astore 5, 2) := by decide +kernel
theorem dX4_judge_8 : decode cX4_judge 8 = .ok (.iload_n 1, 1) := by decide +kernel
theorem dX4_judge_9 : decode cX4_judge 9 = .ok (.iload_n 2, 1) := by decide +kernel
theorem dX4_judge_10 : decode cX4_judge 10 = .ok (.invokestatic 54, 3) := by decide +kernel
theorem dX4_judge_13 : decode cX4_judge 13 = .ok (.iload_n 3, 1) := by decide +kernel
theorem dX4_judge_14 : decode cX4_judge 14 = .ok (.invokestatic 39, 3) := by decide +kernel
theorem dX4_judge_17 : decode cX4_judge 17 = .ok (.aload_n 0, 1) := by decide +kernel
theorem dX4_judge_18 : decode cX4_judge 18 = .ok (.iload_n 1, 1) := by decide +kernel
theorem dX4_judge_19 : decode cX4_judge 19 = .ok (.iload_n 2, 1) := by decide +kernel
theorem dX4_judge_20 : decode cX4_judge 20 = .ok (.iload_n 3, 1) := by decide +kernel
theorem dX4_judge_21 : decode cX4_judge 21 = .ok (.aload 5, 2) := by decide +kernel
theorem dX4_judge_23 : decode cX4_judge 23 = .ok (.invokevirtual 103, 3) := by decide +kernel
theorem dX4_judge_26 : decode cX4_judge 26 = .ok (.ireturn, 1) := by decide +kernel
set_option maxRecDepth 20000 in
theorem ggX4_judgeByReading_X4_requireNameAndPort : GoodIn wsX4_judgeByReading wsX4_requireNameAndPort := goodIn_ca (goodIn_r _ [4, 5, 6, 3, 7, 8, 9] (by decide +kernel) (by decide +kernel)) (goodIn_sub (fun _ h => List.mem_cons_of_mem _ (List.mem_append_right _ h)) (by decide +kernel))
set_option maxRecDepth 20000 in
theorem gX4_judgeByReading_X4_requireNameAndPort : GoodIn wsX4_judgeByReading (va_wsS RX4 54 yX4_requireNameAndPort wsX4_requireNameAndPort) := goodIn_app (goodIn_of _ (by decide +kernel)) ggX4_judgeByReading_X4_requireNameAndPort
set_option maxRecDepth 20000 in
theorem ggX4_judgeByReading_X4_requireKey : GoodIn wsX4_judgeByReading wsX4_requireKey := goodIn_ca (goodIn_r _ [12, 5, 6, 3, 7, 8, 9] (by decide +kernel) (by decide +kernel)) (goodIn_sub (fun _ h => List.mem_cons_of_mem _ (List.mem_append_right _ h)) (by decide +kernel))
set_option maxRecDepth 20000 in
theorem gX4_judgeByReading_X4_requireKey : GoodIn wsX4_judgeByReading (va_wsS RX4 39 yX4_requireKey wsX4_requireKey) := goodIn_app (goodIn_of _ (by decide +kernel)) ggX4_judgeByReading_X4_requireKey
set_option maxRecDepth 20000 in
theorem ggX4_judgeByReading_X4_judgementByLines : GoodIn wsX4_judgeByReading wsX4_judgementByLines := goodIn_r _ [16, 17, 18, 19, 20, 21, 22, 23, 24, 25, 26, 27, 28, 29, 30, 31, 32, 33, 34, 35, 36, 37, 38, 39, 40, 41, 42, 43, 44, 45, 3, 46, 47, 48, 49, 50, 51, 52, 53, 54, 55, 56, 57, 58, 59, 60, 61, 62, 63, 64, 65, 66, 67, 68, 69, 70, 71, 72, 73, 74, 75, 76, 77, 78, 79, 80, 81, 82, 83, 84, 85, 86, 87, 88, 89, 90, 91, 92, 93, 94] (by decide +kernel) (by decide +kernel)
set_option maxRecDepth 20000 in
theorem gX4_judgeByReading_X4_judgementByLines : GoodIn wsX4_judgeByReading (wsV RX4 134 RX4 yX4_judgementByLines wsX4_judgementByLines) := goodIn_app (goodIn_of _ (by decide +kernel)) ggX4_judgeByReading_X4_judgementByLines
theorem dX4_judgeByReading_0 : decode cX4_judgeByReading 0 = .ok (.iload_n 1, 1) := by decide +kernel
theorem dX4_judgeByReading_1 : decode cX4_judgeByReading 1 = .ok (.iload_n 2, 1) := by decide +kernel
theorem dX4_judgeByReading_2 : decode cX4_judgeByReading 2 = .ok (.invokestatic 54, 3) := by decide +kernel
theorem dX4_judgeByReading_5 : decode cX4_judgeByReading 5 = .ok (.iload_n 3, 1) := by decide +kernel
theorem dX4_judgeByReading_6 : decode cX4_judgeByReading 6 = .ok (.invokestatic 39, 3) := by decide +kernel
theorem dX4_judgeByReading_9 : decode cX4_judgeByReading 9 = .ok (.aload_n 0, 1) := by decide +kernel
theorem dX4_judgeByReading_10 : decode cX4_judgeByReading 10 = .ok (.iload_n 1, 1) := by decide +kernel
theorem dX4_judgeByReading_11 : decode cX4_judgeByReading 11 = .ok (.iload_n 2, 1) := by decide +kernel
theorem dX4_judgeByReading_12 : decode cX4_judgeByReading 12 = .ok (.iload_n 3, 1) := by decide +kernel
theorem dX4_judgeByReading_13 : decode cX4_judgeByReading 13 = .ok (.iconst (-1), 1) := by decide +kernel
theorem dX4_judgeByReading_14 : decode cX4_judgeByReading 14 = .ok (.invokevirtual 134, 3) := by decide +kernel
theorem dX4_judgeByReading_17 : decode cX4_judgeByReading 17 = .ok (.ireturn, 1) := by decide +kernel
theorem dX4_day_0 : decode cX4_day 0 = .ok (.aload_n 0, 1) := by decide +kernel
theorem dX4_day_1 : decode cX4_day 1 = .ok (.getfield 146, 3) := by decide +kernel
theorem dX4_day_4 : decode cX4_day 4 = .ok (.ireturn, 1) := by decide +kernel
theorem dX4_lines_0 : decode cX4_lines 0 = .ok (.aload_n 0, 1) := by decide +kernel
theorem dX4_lines_1 : decode cX4_lines 1 = .ok (.getfield 47, 3) := by decide +kernel
theorem dX4_lines_4 : decode cX4_lines 4 = .ok (.ireturn, 1) := by decide +kernel
set_option maxRecDepth 20000 in
theorem ggX4_keyOf_X4_lineAt : GoodIn wsX4_keyOf wsX4_lineAt := goodIn_ca (goodIn_r _ [5, 6, 7, 8, 9, 20, 21, 22, 23, 24, 25, 26, 27, 28, 29, 30, 31] (by decide +kernel) (by decide +kernel)) (goodIn_sub (fun _ h => List.mem_cons_of_mem _ (List.mem_append_right _ h)) (by decide +kernel))
set_option maxRecDepth 20000 in
theorem gX4_keyOf_X4_lineAt : GoodIn wsX4_keyOf (wsV RX4 50 RX4 yX4_lineAt wsX4_lineAt) := goodIn_app (goodIn_of _ (by decide +kernel)) ggX4_keyOf_X4_lineAt
theorem dX4_keyOf_0 : decode cX4_keyOf 0 = .ok (.aload_n 0, 1) := by decide +kernel
theorem dX4_keyOf_1 : decode cX4_keyOf 1 = .ok (.iload_n 1, 1) := by decide +kernel
theorem dX4_keyOf_2 : decode cX4_keyOf 2 = .ok (.invokevirtual 50, 3) := by decide +kernel
theorem dX4_keyOf_5 : decode cX4_keyOf 5 = .ok (.astore_n 2, 1) := by decide +kernel
theorem dX4_keyOf_6 : decode cX4_keyOf 6 = .ok (.sipush 1000, 3) := by decide +kernel
theorem dX4_keyOf_9 : decode cX4_keyOf 9 = .ok (.aload_n 2, 1) := by decide +kernel
theorem dX4_keyOf_10 : decode cX4_keyOf 10 = .ok (.getfield 155, 3) := by decide +kernel
theorem dX4_keyOf_13 : decode cX4_keyOf 13 = .ok (.imul, 1) := by decide +kernel
theorem dX4_keyOf_14 : decode cX4_keyOf 14 = .ok (.aload_n 2, 1) := by decide +kernel
theorem dX4_keyOf_15 : decode cX4_keyOf 15 = .ok (.getfield 65, 3) := by decide +kernel
theorem dX4_keyOf_18 : decode cX4_keyOf 18 = .ok (.iadd, 1) := by decide +kernel
theorem dX4_keyOf_19 : decode cX4_keyOf 19 = .ok (.ireturn, 1) := by decide +kernel
set_option maxRecDepth 20000 in
theorem ggX4_seen_X4_lineAt : GoodIn wsX4_seen wsX4_lineAt := goodIn_ca (goodIn_r _ [5, 6, 7, 8, 9, 20, 21, 22, 23, 24, 25, 26, 27, 28, 29, 30, 31] (by decide +kernel) (by decide +kernel)) (goodIn_sub (fun _ h => List.mem_cons_of_mem _ (List.mem_append_right _ h)) (by decide +kernel))
set_option maxRecDepth 20000 in
theorem gX4_seen_X4_lineAt : GoodIn wsX4_seen (wsV RX4 50 RX4 yX4_lineAt wsX4_lineAt) := goodIn_app (goodIn_of _ (by decide +kernel)) ggX4_seen_X4_lineAt
theorem dX4_seen_0 : decode cX4_seen 0 = .ok (.aload_n 0, 1) := by decide +kernel
theorem dX4_seen_1 : decode cX4_seen 1 = .ok (.iload_n 1, 1) := by decide +kernel
theorem dX4_seen_2 : decode cX4_seen 2 = .ok (.invokevirtual 50, 3) := by decide +kernel
theorem dX4_seen_5 : decode cX4_seen 5 = .ok (.getfield 158, 3) := by decide +kernel
theorem dX4_seen_8 : decode cX4_seen 8 = .ok (.ireturn, 1) := by decide +kernel
set_option maxRecDepth 20000 in
theorem ggX4_end_X4_lineAt : GoodIn wsX4_end wsX4_lineAt := goodIn_ca (goodIn_r _ [5, 6, 7, 8, 9, 20, 21, 22, 23, 24, 25, 26, 27, 28, 29, 30, 31] (by decide +kernel) (by decide +kernel)) (goodIn_sub (fun _ h => List.mem_cons_of_mem _ (List.mem_append_right _ h)) (by decide +kernel))
set_option maxRecDepth 20000 in
theorem gX4_end_X4_lineAt : GoodIn wsX4_end (wsV RX4 50 RX4 yX4_lineAt wsX4_lineAt) := goodIn_app (goodIn_of _ (by decide +kernel)) ggX4_end_X4_lineAt
theorem dX4_end_0 : decode cX4_end 0 = .ok (.aload_n 0, 1) := by decide +kernel
theorem dX4_end_1 : decode cX4_end 1 = .ok (.iload_n 1, 1) := by decide +kernel
theorem dX4_end_2 : decode cX4_end 2 = .ok (.invokevirtual 50, 3) := by decide +kernel
theorem dX4_end_5 : decode cX4_end 5 = .ok (.getfield 161, 3) := by decide +kernel
theorem dX4_end_8 : decode cX4_end 8 = .ok (.ireturn, 1) := by decide +kernel
set_option maxRecDepth 20000 in
theorem ggX4_matches_X4_lineAt : GoodIn wsX4_matches wsX4_lineAt := goodIn_ca (goodIn_r _ [5, 6, 7, 8, 9, 42, 43, 44, 45, 46, 47, 48, 49, 50, 51, 52, 53] (by decide +kernel) (by decide +kernel)) (goodIn_sub (fun _ h => List.mem_cons_of_mem _ (List.mem_append_left _ (List.mem_append_right _ h))) (by decide +kernel))
set_option maxRecDepth 20000 in
theorem gX4_matches_X4_lineAt : GoodIn wsX4_matches (wsV RX4 50 RX4 yX4_lineAt wsX4_lineAt) := goodIn_app (goodIn_of _ (by decide +kernel)) ggX4_matches_X4_lineAt
set_option maxRecDepth 20000 in
theorem ggX4_matches_X4_requireNameAndPort : GoodIn wsX4_matches wsX4_requireNameAndPort := goodIn_ca (goodIn_r _ [12, 13, 14, 4, 15, 16, 17] (by decide +kernel) (by decide +kernel)) (goodIn_sub (fun _ h => List.mem_cons_of_mem _ (List.mem_append_right _ h)) (by decide +kernel))
set_option maxRecDepth 20000 in
theorem gX4_matches_X4_requireNameAndPort : GoodIn wsX4_matches (va_wsS RX4 54 yX4_requireNameAndPort wsX4_requireNameAndPort) := goodIn_app (goodIn_of _ (by decide +kernel)) ggX4_matches_X4_requireNameAndPort
set_option maxRecDepth 20000 in
theorem ggX4_matches_X1_covers : GoodIn wsX4_matches wsX1_covers := goodIn_r _ [22, 23, 24, 25, 26, 27, 28, 29, 30, 21, 31, 32, 33, 34, 35, 36, 37, 38, 39, 40, 4, 41, 54, 55, 56, 57, 58, 59, 60, 61, 62, 63, 64, 65, 66, 67] (by decide +kernel) (by decide +kernel)
set_option maxRecDepth 20000 in
theorem gX4_matches_X1_covers : GoodIn wsX4_matches (wsV RX4 164 RX1 yX1_covers wsX1_covers) := goodIn_app (goodIn_of _ (by decide +kernel)) ggX4_matches_X1_covers
theorem dX4_matches_0 : decode cX4_matches 0 = .ok (.aload_n 0, 1) := by decide +kernel
theorem dX4_matches_1 : decode cX4_matches 1 = .ok (.iload_n 1, 1) := by decide +kernel
theorem dX4_matches_2 : decode cX4_matches 2 = .ok (.invokevirtual 50, 3) := by decide +kernel
theorem dX4_matches_5 : decode cX4_matches 5 = .ok (.astore 4, 2) := by decide +kernel
theorem dX4_matches_7 : decode cX4_matches 7 = .ok (.iload_n 2, 1) := by decide +kernel
theorem dX4_matches_8 : decode cX4_matches 8 = .ok (.iload_n 3, 1) := by decide +kernel
theorem dX4_matches_9 : decode cX4_matches 9 = .ok (.invokestatic 54, 3) := by decide +kernel
theorem dX4_matches_12 : decode cX4_matches 12 = .ok (.aload 4, 2) := by decide +kernel
theorem dX4_matches_14 : decode cX4_matches 14 = .ok (.iload_n 2, 1) := by decide +kernel
theorem dX4_matches_15 : decode cX4_matches 15 = .ok (.iload_n 3, 1) := by decide +kernel
theorem dX4_matches_16 : decode cX4_matches 16 = .ok (.invokevirtual 164, 3) := by decide +kernel
theorem dX4_matches_19 : decode cX4_matches 19 = .ok (.ireturn, 1) := by decide +kernel
set_option maxRecDepth 20000 in
theorem ggX4_find_X4_requireNameAndPort : GoodIn wsX4_find wsX4_requireNameAndPort := goodIn_ca (goodIn_r _ [6, 7, 8, 5, 9, 10, 11] (by decide +kernel) (by decide +kernel)) (goodIn_sub (fun _ h => List.mem_cons_of_mem _ (List.mem_append_right _ h)) (by decide +kernel))
set_option maxRecDepth 20000 in
theorem gX4_find_X4_requireNameAndPort : GoodIn wsX4_find (va_wsS RX4 54 yX4_requireNameAndPort wsX4_requireNameAndPort) := goodIn_app (goodIn_of _ (by decide +kernel)) ggX4_find_X4_requireNameAndPort
set_option maxRecDepth 20000 in
theorem ggX4_find_X1_covers : GoodIn wsX4_find wsX1_covers := goodIn_r _ [16, 17, 18, 19, 20, 21, 22, 23, 24, 15, 25, 26, 27, 28, 29, 30, 31, 32, 33, 34, 5, 35, 48, 49, 50, 51, 52, 53, 54, 55, 56, 57, 58, 59, 60, 61] (by decide +kernel) (by decide +kernel)
set_option maxRecDepth 20000 in
theorem gX4_find_X1_covers : GoodIn wsX4_find (wsV RX4 164 RX1 yX1_covers wsX1_covers) := goodIn_app (goodIn_of _ (by decide +kernel)) ggX4_find_X1_covers
theorem dX4_find_0 : decode cX4_find 0 = .ok (.iload_n 1, 1) := by decide +kernel
theorem dX4_find_1 : decode cX4_find 1 = .ok (.iload_n 2, 1) := by decide +kernel
theorem dX4_find_2 : decode cX4_find 2 = .ok (.invokestatic 54, 3) := by decide +kernel
theorem dX4_find_5 : decode cX4_find 5 = .ok (.iconst 0, 1) := by decide +kernel
theorem dX4_find_6 : decode cX4_find 6 = .ok (.istore_n 3, 1) := by decide +kernel
theorem dX4_find_7 : decode cX4_find 7 = .ok (.iload_n 3, 1) := by decide +kernel
theorem dX4_find_8 : decode cX4_find 8 = .ok (.aload_n 0, 1) := by decide +kernel
theorem dX4_find_9 : decode cX4_find 9 = .ok (.getfield 47, 3) := by decide +kernel
theorem dX4_find_12 : decode cX4_find 12 = .ok (.if_icmp .ge 25, 3) := by decide +kernel
theorem dX4_find_15 : decode cX4_find 15 = .ok (.aload_n 0, 1) := by decide +kernel
theorem dX4_find_16 : decode cX4_find 16 = .ok (.getfield 11, 3) := by decide +kernel
theorem dX4_find_19 : decode cX4_find 19 = .ok (.iload_n 3, 1) := by decide +kernel
theorem dX4_find_20 : decode cX4_find 20 = .ok (.aaload, 1) := by decide +kernel
theorem dX4_find_21 : decode cX4_find 21 = .ok (.iload_n 1, 1) := by decide +kernel
theorem dX4_find_22 : decode cX4_find 22 = .ok (.iload_n 2, 1) := by decide +kernel
theorem dX4_find_23 : decode cX4_find 23 = .ok (.invokevirtual 164, 3) := by decide +kernel
theorem dX4_find_26 : decode cX4_find 26 = .ok (.ifCond .eq 5, 3) := by decide +kernel
theorem dX4_find_29 : decode cX4_find 29 = .ok (.iload_n 3, 1) := by decide +kernel
theorem dX4_find_30 : decode cX4_find 30 = .ok (.ireturn, 1) := by decide +kernel
theorem dX4_find_31 : decode cX4_find 31 = .ok (.iinc 3 1, 3) := by decide +kernel
theorem dX4_find_34 : decode cX4_find 34 = .ok (.goto (-27), 3) := by decide +kernel
theorem dX4_find_37 : decode cX4_find 37 = .ok (.iconst (-1), 1) := by decide +kernel
theorem dX4_find_38 : decode cX4_find 38 = .ok (.ireturn, 1) := by decide +kernel
set_option maxRecDepth 20000 in
theorem ggX4_linesOf_X4_requireKey : GoodIn wsX4_linesOf wsX4_requireKey := goodIn_ca (goodIn_r _ [6, 7, 8, 5, 9, 10, 11] (by decide +kernel) (by decide +kernel)) (goodIn_sub (fun _ h => List.mem_cons_of_mem _ (List.mem_append_right _ h)) (by decide +kernel))
set_option maxRecDepth 20000 in
theorem gX4_linesOf_X4_requireKey : GoodIn wsX4_linesOf (va_wsS RX4 39 yX4_requireKey wsX4_requireKey) := goodIn_app (goodIn_of _ (by decide +kernel)) ggX4_linesOf_X4_requireKey
theorem dX4_linesOf_0 : decode cX4_linesOf 0 = .ok (.iload_n 1, 1) := by decide +kernel
theorem dX4_linesOf_1 : decode cX4_linesOf 1 = .ok (.invokestatic 39, 3) := by decide +kernel
theorem dX4_linesOf_4 : decode cX4_linesOf 4 = .ok (.lconst 0, 1) := by decide +kernel
theorem dX4_linesOf_5 : decode cX4_linesOf 5 = .ok (.lstore_n 2, 1) := by decide +kernel
theorem dX4_linesOf_6 : decode cX4_linesOf 6 = .ok (.iconst 0, 1) := by decide +kernel
theorem dX4_linesOf_7 : decode cX4_linesOf 7 = .ok (.istore 4, 2) := by decide +kernel
theorem dX4_linesOf_9 : decode cX4_linesOf 9 = .ok (.iload 4, 2) := by decide +kernel
theorem dX4_linesOf_11 : decode cX4_linesOf 11 = .ok (.aload_n 0, 1) := by decide +kernel
theorem dX4_linesOf_12 : decode cX4_linesOf 12 = .ok (.getfield 47, 3) := by decide +kernel
theorem dX4_linesOf_15 : decode cX4_linesOf 15 = .ok (.if_icmp .ge 30, 3) := by decide +kernel
theorem dX4_linesOf_18 : decode cX4_linesOf 18 = .ok (.aload_n 0, 1) := by decide +kernel
theorem dX4_linesOf_19 : decode cX4_linesOf 19 = .ok (.getfield 11, 3) := by decide +kernel
theorem dX4_linesOf_22 : decode cX4_linesOf 22 = .ok (.iload 4, 2) := by decide +kernel
theorem dX4_linesOf_24 : decode cX4_linesOf 24 = .ok (.aaload, 1) := by decide +kernel
theorem dX4_linesOf_25 : decode cX4_linesOf 25 = .ok (.getfield 65, 3) := by decide +kernel
theorem dX4_linesOf_28 : decode cX4_linesOf 28 = .ok (.iload_n 1, 1) := by decide +kernel
theorem dX4_linesOf_29 : decode cX4_linesOf 29 = .ok (.if_icmp .ne 10, 3) := by decide +kernel
theorem dX4_linesOf_32 : decode cX4_linesOf 32 = .ok (.lload_n 2, 1) := by decide +kernel
theorem dX4_linesOf_33 : decode cX4_linesOf 33 = .ok (.lconst 1, 1) := by decide +kernel
theorem dX4_linesOf_34 : decode cX4_linesOf 34 = .ok (.iload 4, 2) := by decide +kernel
theorem dX4_linesOf_36 : decode cX4_linesOf 36 = .ok (.lshl, 1) := by decide +kernel
theorem dX4_linesOf_37 : decode cX4_linesOf 37 = .ok (.lor, 1) := by decide +kernel
theorem dX4_linesOf_38 : decode cX4_linesOf 38 = .ok (.lstore_n 2, 1) := by decide +kernel
theorem dX4_linesOf_39 : decode cX4_linesOf 39 = .ok (.iinc 4 1, 3) := by decide +kernel
theorem dX4_linesOf_42 : decode cX4_linesOf 42 = .ok (.goto (-33), 3) := by decide +kernel
theorem dX4_linesOf_45 : decode cX4_linesOf 45 = .ok (.lload_n 2, 1) := by decide +kernel
theorem dX4_linesOf_46 : decode cX4_linesOf 46 = .ok (.lreturn, 1) := by decide +kernel
theorem dX4_waiting_0 : decode cX4_waiting 0 = .ok (.aload_n 0, 1) := by decide +kernel
theorem dX4_waiting_1 : decode cX4_waiting 1 = .ok (.getfield 31, 3) := by decide +kernel
theorem dX4_waiting_4 : decode cX4_waiting 4 = .ok (.ireturn, 1) := by decide +kernel
theorem dX4_requireWithin_0 : decode cX4_requireWithin 0 = .ok (.iload_n 0, 1) := by decide +kernel
theorem dX4_requireWithin_1 : decode cX4_requireWithin 1 = .ok (.iload_n 1, 1) := by decide +kernel
theorem dX4_requireWithin_2 : decode cX4_requireWithin 2 = .ok (.if_icmp .lt 8, 3) := by decide +kernel
theorem dX4_requireWithin_5 : decode cX4_requireWithin 5 = .ok (.iload_n 0, 1) := by decide +kernel
theorem dX4_requireWithin_6 : decode cX4_requireWithin 6 = .ok (.iload_n 2, 1) := by decide +kernel
theorem dX4_requireWithin_7 : decode cX4_requireWithin 7 = .ok (.if_icmp .le 13, 3) := by decide +kernel
theorem dX4_requireWithin_10 : decode cX4_requireWithin 10 = .ok (.new 129, 3) := by decide +kernel
theorem dX4_requireWithin_13 : decode cX4_requireWithin 13 = .ok (.dup, 1) := by decide +kernel
theorem dX4_requireWithin_14 : decode cX4_requireWithin 14 = .ok (.ldc 168, 2) := by decide +kernel
theorem dX4_requireWithin_16 : decode cX4_requireWithin 16 = .ok (.invokespecial 133, 3) := by decide +kernel
theorem dX4_requireWithin_19 : decode cX4_requireWithin 19 = .ok (.athrow, 1) := by decide +kernel
theorem dX4_requireWithin_20 : decode cX4_requireWithin 20 = .ok (.return_, 1) := by decide +kernel
set_option maxRecDepth 20000 in
theorem ggX4_requireKey_X4_requireWithin : GoodIn wsX4_requireKey wsX4_requireWithin := goodIn_ca (goodIn_r _ [4, 5, 6] (by decide +kernel) (by decide +kernel)) (goodIn_sub (fun _ h => List.mem_cons_of_mem _ (List.mem_append_right _ h)) (by decide +kernel))
set_option maxRecDepth 20000 in
theorem gX4_requireKey_X4_requireWithin : GoodIn wsX4_requireKey (va_wsS RX4 35 yX4_requireWithin wsX4_requireWithin) := goodIn_app (goodIn_of _ (by decide +kernel)) ggX4_requireKey_X4_requireWithin
theorem dX4_requireKey_0 : decode cX4_requireKey 0 = .ok (.iload_n 0, 1) := by decide +kernel
theorem dX4_requireKey_1 : decode cX4_requireKey 1 = .ok (.iconst 0, 1) := by decide +kernel
theorem dX4_requireKey_2 : decode cX4_requireKey 2 = .ok (.sipush 199, 3) := by decide +kernel
theorem dX4_requireKey_5 : decode cX4_requireKey 5 = .ok (.invokestatic 35, 3) := by decide +kernel
theorem dX4_requireKey_8 : decode cX4_requireKey 8 = .ok (.return_, 1) := by decide +kernel
set_option maxRecDepth 20000 in
theorem ggX4_requireNameAndPort_X4_requireWithin : GoodIn wsX4_requireNameAndPort wsX4_requireWithin := goodIn_ca (goodIn_r _ [4, 5, 6] (by decide +kernel) (by decide +kernel)) (goodIn_sub (fun _ h => List.mem_cons_of_mem _ (List.mem_append_right _ h)) (by decide +kernel))
set_option maxRecDepth 20000 in
theorem gX4_requireNameAndPort_X4_requireWithin : GoodIn wsX4_requireNameAndPort (va_wsS RX4 35 yX4_requireWithin wsX4_requireWithin) := goodIn_app (goodIn_of _ (by decide +kernel)) ggX4_requireNameAndPort_X4_requireWithin
theorem dX4_requireNameAndPort_0 : decode cX4_requireNameAndPort 0 = .ok (.iload_n 0, 1) := by decide +kernel
theorem dX4_requireNameAndPort_1 : decode cX4_requireNameAndPort 1 = .ok (.iconst 0, 1) := by decide +kernel
theorem dX4_requireNameAndPort_2 : decode cX4_requireNameAndPort 2 = .ok (.sipush 9999, 3) := by decide +kernel
theorem dX4_requireNameAndPort_5 : decode cX4_requireNameAndPort 5 = .ok (.invokestatic 35, 3) := by decide +kernel
theorem dX4_requireNameAndPort_8 : decode cX4_requireNameAndPort 8 = .ok (.iload_n 1, 1) := by decide +kernel
theorem dX4_requireNameAndPort_9 : decode cX4_requireNameAndPort 9 = .ok (.iconst 0, 1) := by decide +kernel
theorem dX4_requireNameAndPort_10 : decode cX4_requireNameAndPort 10 = .ok (.iconst 3, 1) := by decide +kernel
theorem dX4_requireNameAndPort_11 : decode cX4_requireNameAndPort 11 = .ok (.invokestatic 35, 3) := by decide +kernel
theorem dX4_requireNameAndPort_14 : decode cX4_requireNameAndPort 14 = .ok (.return_, 1) := by decide +kernel
theorem dX4_lineAt_0 : decode cX4_lineAt 0 = .ok (.iload_n 1, 1) := by decide +kernel
theorem dX4_lineAt_1 : decode cX4_lineAt 1 = .ok (.ifCond .lt 11, 3) := by decide +kernel
theorem dX4_lineAt_4 : decode cX4_lineAt 4 = .ok (.iload_n 1, 1) := by decide +kernel
theorem dX4_lineAt_5 : decode cX4_lineAt 5 = .ok (.aload_n 0, 1) := by decide +kernel
theorem dX4_lineAt_6 : decode cX4_lineAt 6 = .ok (.getfield 47, 3) := by decide +kernel
theorem dX4_lineAt_9 : decode cX4_lineAt 9 = .ok (.if_icmp .lt 13, 3) := by decide +kernel
theorem dX4_lineAt_12 : decode cX4_lineAt 12 = .ok (.new 170, 3) := by decide +kernel
theorem dX4_lineAt_15 : decode cX4_lineAt 15 = .ok (.dup, 1) := by decide +kernel
theorem dX4_lineAt_16 : decode cX4_lineAt 16 = .ok (.ldc 172, 2) := by decide +kernel
theorem dX4_lineAt_18 : decode cX4_lineAt 18 = .ok (.invokespecial 174, 3) := by decide +kernel
theorem dX4_lineAt_21 : decode cX4_lineAt 21 = .ok (.athrow, 1) := by decide +kernel
theorem dX4_lineAt_22 : decode cX4_lineAt 22 = .ok (.aload_n 0, 1) := by decide +kernel
theorem dX4_lineAt_23 : decode cX4_lineAt 23 = .ok (.getfield 11, 3) := by decide +kernel
theorem dX4_lineAt_26 : decode cX4_lineAt 26 = .ok (.iload_n 1, 1) := by decide +kernel
theorem dX4_lineAt_27 : decode cX4_lineAt 27 = .ok (.aaload, 1) := by decide +kernel
theorem dX4_lineAt_28 : decode cX4_lineAt 28 = .ok (.areturn, 1) := by decide +kernel
theorem dX4_certificateAt_0 : decode cX4_certificateAt 0 = .ok (.iload_n 1, 1) := by decide +kernel
theorem dX4_certificateAt_1 : decode cX4_certificateAt 1 = .ok (.iconst (-1), 1) := by decide +kernel
theorem dX4_certificateAt_2 : decode cX4_certificateAt 2 = .ok (.if_icmp .ne 5, 3) := by decide +kernel
theorem dX4_certificateAt_5 : decode cX4_certificateAt 5 = .ok (.aconst_null, 1) := by decide +kernel
theorem dX4_certificateAt_6 : decode cX4_certificateAt 6 = .ok (.areturn, 1) := by decide +kernel
theorem dX4_certificateAt_7 : decode cX4_certificateAt 7 = .ok (.iload_n 1, 1) := by decide +kernel
theorem dX4_certificateAt_8 : decode cX4_certificateAt 8 = .ok (.ifCond .lt 11, 3) := by decide +kernel
theorem dX4_certificateAt_11 : decode cX4_certificateAt 11 = .ok (.iload_n 1, 1) := by decide +kernel
theorem dX4_certificateAt_12 : decode cX4_certificateAt 12 = .ok (.aload_n 0, 1) := by decide +kernel
theorem dX4_certificateAt_13 : decode cX4_certificateAt 13 = .ok (.getfield 71, 3) := by decide +kernel
theorem dX4_certificateAt_16 : decode cX4_certificateAt 16 = .ok (.if_icmp .lt 13, 3) := by decide +kernel
theorem dX4_certificateAt_19 : decode cX4_certificateAt 19 = .ok (.new 170, 3) := by decide +kernel
theorem dX4_certificateAt_22 : decode cX4_certificateAt 22 = .ok (.dup, 1) := by decide +kernel
theorem dX4_certificateAt_23 : decode cX4_certificateAt 23 = .ok (.ldc 175, 2) := by decide +kernel
theorem dX4_certificateAt_25 : decode cX4_certificateAt 25 = .ok (.invokespecial 174, 3) := by decide +kernel
theorem dX4_certificateAt_28 : decode cX4_certificateAt 28 = .ok (.athrow, 1) := by decide +kernel
theorem dX4_certificateAt_29 : decode cX4_certificateAt 29 = .ok (.aload_n 0, 1) := by decide +kernel
theorem dX4_certificateAt_30 : decode cX4_certificateAt 30 = .ok (.getfield 17, 3) := by decide +kernel
theorem dX4_certificateAt_33 : decode cX4_certificateAt 33 = .ok (.iload_n 1, 1) := by decide +kernel
theorem dX4_certificateAt_34 : decode cX4_certificateAt 34 = .ok (.aaload, 1) := by decide +kernel
theorem dX4_certificateAt_35 : decode cX4_certificateAt 35 = .ok (.areturn, 1) := by decide +kernel
set_option maxRecDepth 20000 in
theorem ggX4_appendLine_X1_begin : GoodIn wsX4_appendLine wsX1_begin := goodIn_r _ [10, 11, 12, 13, 14, 15, 16, 29, 30, 31, 32, 33, 34, 35, 36, 37, 38] (by decide +kernel) (by decide +kernel)
set_option maxRecDepth 20000 in
theorem gX4_appendLine_X1_begin : GoodIn wsX4_appendLine (wsV RX4 179 RX1 yX1_begin wsX1_begin) := goodIn_app (goodIn_of _ (by decide +kernel)) ggX4_appendLine_X1_begin
theorem dX4_appendLine_0 : decode cX4_appendLine 0 = .ok (.aload_n 0, 1) := by decide +kernel
theorem dX4_appendLine_1 : decode cX4_appendLine 1 = .ok (.getfield 47, 3) := by decide +kernel
theorem dX4_appendLine_4 : decode cX4_appendLine 4 = .ok (.bipush 40, 2) := by decide +kernel
theorem dX4_appendLine_6 : decode cX4_appendLine 6 = .ok (.if_icmp .lt 13, 3) := by decide +kernel
theorem dX4_appendLine_9 : decode cX4_appendLine 9 = .ok (.new 74, 3) := by decide +kernel
theorem dX4_appendLine_12 : decode cX4_appendLine 12 = .ok (.dup, 1) := by decide +kernel
theorem dX4_appendLine_13 : decode cX4_appendLine 13 = .ok (.ldc 177, 2) := by decide +kernel
theorem dX4_appendLine_15 : decode cX4_appendLine 15 = .ok (.invokespecial 78, 3) := by decide +kernel
theorem dX4_appendLine_18 : decode cX4_appendLine 18 = .ok (.athrow, 1) := by decide +kernel
theorem dX4_appendLine_19 : decode cX4_appendLine 19 = .ok (.aload_n 0, 1) := by decide +kernel
theorem dX4_appendLine_20 : decode cX4_appendLine 20 = .ok (.getfield 11, 3) := by decide +kernel
theorem dX4_appendLine_23 : decode cX4_appendLine 23 = .ok (.aload_n 0, 1) := by decide +kernel
theorem dX4_appendLine_24 : decode cX4_appendLine 24 = .ok (.getfield 47, 3) := by decide +kernel
theorem dX4_appendLine_27 : decode cX4_appendLine 27 = .ok (.aaload, 1) := by decide +kernel
theorem dX4_appendLine_28 : decode cX4_appendLine 28 = .ok (.astore_n 3, 1) := by decide +kernel
theorem dX4_appendLine_29 : decode cX4_appendLine 29 = .ok (.aload_n 0, 1) := by decide +kernel
theorem dX4_appendLine_30 : decode cX4_appendLine 30 = .ok (.dup, 1) := by decide +kernel
theorem dX4_appendLine_31 : decode cX4_appendLine 31 = .ok (.getfield 47, 3) := by decide +kernel
theorem dX4_appendLine_34 : decode cX4_appendLine 34 = .ok (.iconst 1, 1) := by decide +kernel
theorem dX4_appendLine_35 : decode cX4_appendLine 35 = .ok (.iadd, 1) := by decide +kernel
theorem dX4_appendLine_36 : decode cX4_appendLine 36 = .ok (.putfield 47, 3) := by decide +kernel
theorem dX4_appendLine_39 : decode cX4_appendLine 39 = .ok (.aload_n 3, 1) := by decide +kernel
theorem dX4_appendLine_40 : decode cX4_appendLine 40 = .ok (.iload_n 1, 1) := by decide +kernel
theorem dX4_appendLine_41 : decode cX4_appendLine 41 = .ok (.iload_n 2, 1) := by decide +kernel
theorem dX4_appendLine_42 : decode cX4_appendLine 42 = .ok (.aload_n 0, 1) := by decide +kernel
theorem dX4_appendLine_43 : decode cX4_appendLine 43 = .ok (.getfield 146, 3) := by decide +kernel
theorem dX4_appendLine_46 : decode cX4_appendLine 46 = .ok (.invokevirtual 179, 3) := by decide +kernel
theorem dX4_appendLine_49 : decode cX4_appendLine 49 = .ok (.aload_n 3, 1) := by decide +kernel
theorem dX4_appendLine_50 : decode cX4_appendLine 50 = .ok (.areturn, 1) := by decide +kernel
set_option maxRecDepth 20000 in
theorem ggX4_appendSighted_X4_appendLine : GoodIn wsX4_appendSighted wsX4_appendLine := goodIn_ca (goodIn_r _ [6, 7, 8, 9, 10, 11, 12, 13, 14, 15, 16, 17, 18, 19, 20, 21, 22, 52, 53, 54, 55, 56, 57, 58, 59, 60, 61, 62, 63, 64, 65, 66, 67, 68, 69, 70, 71, 72, 73] (by decide +kernel) (by decide +kernel)) (goodIn_sub (fun _ h => List.mem_cons_of_mem _ (List.mem_append_left _ (List.mem_append_right _ h))) (by decide +kernel))
set_option maxRecDepth 20000 in
theorem gX4_appendSighted_X4_appendLine : GoodIn wsX4_appendSighted (wsV RX4 43 RX4 yX4_appendLine wsX4_appendLine) := goodIn_app (goodIn_of _ (by decide +kernel)) ggX4_appendSighted_X4_appendLine
set_option maxRecDepth 20000 in
theorem ggX4_appendSighted_X1_takeHash : GoodIn wsX4_appendSighted wsX1_takeHash := goodIn_r _ [26, 22, 27, 28, 29, 30, 31, 15, 32, 64, 65, 66, 67, 68, 69, 70, 71, 72, 73] (by decide +kernel) (by decide +kernel)
set_option maxRecDepth 20000 in
theorem gX4_appendSighted_X1_takeHash : GoodIn wsX4_appendSighted (wsV RX4 62 RX1 yX1_takeHash wsX1_takeHash) := goodIn_app (goodIn_of _ (by decide +kernel)) ggX4_appendSighted_X1_takeHash
set_option maxRecDepth 20000 in
theorem ggX4_appendSighted_X1_takePattern : GoodIn wsX4_appendSighted wsX1_takePattern := goodIn_ca (goodIn_r _ [36, 37, 8, 22, 21, 38, 39, 40, 41, 42, 43, 44, 45, 46, 47, 48, 49, 50, 51, 64, 65, 66, 67, 68, 69, 70, 71, 72, 73, 74, 75, 76, 77] (by decide +kernel) (by decide +kernel)) (goodIn_sub (fun _ h => List.mem_cons_of_mem _ (List.mem_append_right _ h)) (by decide +kernel))
set_option maxRecDepth 20000 in
theorem gX4_appendSighted_X1_takePattern : GoodIn wsX4_appendSighted (wsV RX4 58 RX1 yX1_takePattern wsX1_takePattern) := goodIn_app (goodIn_of _ (by decide +kernel)) ggX4_appendSighted_X1_takePattern
theorem dX4_appendSighted_0 : decode cX4_appendSighted 0 = .ok (.aload_n 0, 1) := by decide +kernel
theorem dX4_appendSighted_1 : decode cX4_appendSighted 1 = .ok (.iconst 0, 1) := by decide +kernel
theorem dX4_appendSighted_2 : decode cX4_appendSighted 2 = .ok (.iload_n 3, 1) := by decide +kernel
theorem dX4_appendSighted_3 : decode cX4_appendSighted 3 = .ok (.invokevirtual 43, 3) := by decide +kernel
theorem dX4_appendSighted_6 : decode cX4_appendSighted 6 = .ok (.astore 4, 2) := by decide +kernel
theorem dX4_appendSighted_8 : decode cX4_appendSighted 8 = .ok (.aload_n 0, 1) := by decide +kernel
theorem dX4_appendSighted_9 : decode cX4_appendSighted 9 = .ok (.getfield 95, 3) := by decide +kernel
theorem dX4_appendSighted_12 : decode cX4_appendSighted 12 = .ok (.ifCond .eq 22, 3) := by decide +kernel
theorem dX4_appendSighted_15 : decode cX4_appendSighted 15 = .ok (.aload 4, 2) := by decide +kernel
theorem dX4_appendSighted_17 : decode cX4_appendSighted 17 = .ok (.iload_n 1, 1) := by decide +kernel
theorem dX4_appendSighted_18 : decode cX4_appendSighted 18 = .ok (.iload_n 2, 1) := by decide +kernel
theorem dX4_appendSighted_19 : decode cX4_appendSighted 19 = .ok (.bipush 7, 2) := by decide +kernel
theorem dX4_appendSighted_21 : decode cX4_appendSighted 21 = .ok (.iload_n 1, 1) := by decide +kernel
theorem dX4_appendSighted_22 : decode cX4_appendSighted 22 = .ok (.imul, 1) := by decide +kernel
theorem dX4_appendSighted_23 : decode cX4_appendSighted 23 = .ok (.iload_n 3, 1) := by decide +kernel
theorem dX4_appendSighted_24 : decode cX4_appendSighted 24 = .ok (.iadd, 1) := by decide +kernel
theorem dX4_appendSighted_25 : decode cX4_appendSighted 25 = .ok (.bipush 100, 2) := by decide +kernel
theorem dX4_appendSighted_27 : decode cX4_appendSighted 27 = .ok (.irem, 1) := by decide +kernel
theorem dX4_appendSighted_28 : decode cX4_appendSighted 28 = .ok (.invokevirtual 62, 3) := by decide +kernel
theorem dX4_appendSighted_31 : decode cX4_appendSighted 31 = .ok (.goto 14, 3) := by decide +kernel
theorem dX4_appendSighted_34 : decode cX4_appendSighted 34 = .ok (.aload 4, 2) := by decide +kernel
theorem dX4_appendSighted_36 : decode cX4_appendSighted 36 = .ok (.iload_n 1, 1) := by decide +kernel
theorem dX4_appendSighted_37 : decode cX4_appendSighted 37 = .ok (.bipush 15, 2) := by decide +kernel
theorem dX4_appendSighted_39 : decode cX4_appendSighted 39 = .ok (.iload_n 2, 1) := by decide +kernel
theorem dX4_appendSighted_40 : decode cX4_appendSighted 40 = .ok (.iconst 0, 1) := by decide +kernel
theorem dX4_appendSighted_41 : decode cX4_appendSighted 41 = .ok (.invokevirtual 58, 3) := by decide +kernel
theorem dX4_appendSighted_44 : decode cX4_appendSighted 44 = .ok (.pop, 1) := by decide +kernel
theorem dX4_appendSighted_45 : decode cX4_appendSighted 45 = .ok (.return_, 1) := by decide +kernel
theorem dX4_takeOut_0 : decode cX4_takeOut 0 = .ok (.aload_n 0, 1) := by decide +kernel
theorem dX4_takeOut_1 : decode cX4_takeOut 1 = .ok (.getfield 11, 3) := by decide +kernel
theorem dX4_takeOut_4 : decode cX4_takeOut 4 = .ok (.iload_n 1, 1) := by decide +kernel
theorem dX4_takeOut_5 : decode cX4_takeOut 5 = .ok (.aaload, 1) := by decide +kernel
theorem dX4_takeOut_6 : decode cX4_takeOut 6 = .ok (.astore_n 2, 1) := by decide +kernel
theorem dX4_takeOut_7 : decode cX4_takeOut 7 = .ok (.iload_n 1, 1) := by decide +kernel
theorem dX4_takeOut_8 : decode cX4_takeOut 8 = .ok (.iconst 1, 1) := by decide +kernel
theorem dX4_takeOut_9 : decode cX4_takeOut 9 = .ok (.iadd, 1) := by decide +kernel
theorem dX4_takeOut_10 : decode cX4_takeOut 10 = .ok (.istore_n 3, 1) := by decide +kernel
theorem dX4_takeOut_11 : decode cX4_takeOut 11 = .ok (.iload_n 3, 1) := by decide +kernel
theorem dX4_takeOut_12 : decode cX4_takeOut 12 = .ok (.aload_n 0, 1) := by decide +kernel
theorem dX4_takeOut_13 : decode cX4_takeOut 13 = .ok (.getfield 47, 3) := by decide +kernel
theorem dX4_takeOut_16 : decode cX4_takeOut 16 = .ok (.if_icmp .ge 23, 3) := by decide +kernel
theorem dX4_takeOut_19 : decode cX4_takeOut 19 = .ok (.aload_n 0, 1) := by decide +kernel
theorem dX4_takeOut_20 : decode cX4_takeOut 20 = .ok (.getfield 11, 3) := by decide +kernel
theorem dX4_takeOut_23 : decode cX4_takeOut 23 = .ok (.iload_n 3, 1) := by decide +kernel
theorem dX4_takeOut_24 : decode cX4_takeOut 24 = .ok (.iconst 1, 1) := by decide +kernel
theorem dX4_takeOut_25 : decode cX4_takeOut 25 = .ok (.isub, 1) := by decide +kernel
theorem dX4_takeOut_26 : decode cX4_takeOut 26 = .ok (.aload_n 0, 1) := by decide +kernel
theorem dX4_takeOut_27 : decode cX4_takeOut 27 = .ok (.getfield 11, 3) := by decide +kernel
theorem dX4_takeOut_30 : decode cX4_takeOut 30 = .ok (.iload_n 3, 1) := by decide +kernel
theorem dX4_takeOut_31 : decode cX4_takeOut 31 = .ok (.aaload, 1) := by decide +kernel
theorem dX4_takeOut_32 : decode cX4_takeOut 32 = .ok (.aastore, 1) := by decide +kernel
theorem dX4_takeOut_33 : decode cX4_takeOut 33 = .ok (.iinc 3 1, 3) := by decide +kernel
theorem dX4_takeOut_36 : decode cX4_takeOut 36 = .ok (.goto (-25), 3) := by decide +kernel
theorem dX4_takeOut_39 : decode cX4_takeOut 39 = .ok (.aload_n 0, 1) := by decide +kernel
theorem dX4_takeOut_40 : decode cX4_takeOut 40 = .ok (.dup, 1) := by decide +kernel
theorem dX4_takeOut_41 : decode cX4_takeOut 41 = .ok (.getfield 47, 3) := by decide +kernel
theorem dX4_takeOut_44 : decode cX4_takeOut 44 = .ok (.iconst 1, 1) := by decide +kernel
theorem dX4_takeOut_45 : decode cX4_takeOut 45 = .ok (.isub, 1) := by decide +kernel
theorem dX4_takeOut_46 : decode cX4_takeOut 46 = .ok (.putfield 47, 3) := by decide +kernel
theorem dX4_takeOut_49 : decode cX4_takeOut 49 = .ok (.aload_n 0, 1) := by decide +kernel
theorem dX4_takeOut_50 : decode cX4_takeOut 50 = .ok (.getfield 11, 3) := by decide +kernel
theorem dX4_takeOut_53 : decode cX4_takeOut 53 = .ok (.aload_n 0, 1) := by decide +kernel
theorem dX4_takeOut_54 : decode cX4_takeOut 54 = .ok (.getfield 47, 3) := by decide +kernel
theorem dX4_takeOut_57 : decode cX4_takeOut 57 = .ok (.aload_n 2, 1) := by decide +kernel
theorem dX4_takeOut_58 : decode cX4_takeOut 58 = .ok (.aastore, 1) := by decide +kernel
theorem dX4_takeOut_59 : decode cX4_takeOut 59 = .ok (.return_, 1) := by decide +kernel
set_option maxRecDepth 20000 in
theorem ggX4_turnLines_X4_isLivePlain : GoodIn wsX4_turnLines wsX4_isLivePlain := goodIn_r _ [8, 3, 9, 10, 11, 12, 13, 14, 71, 72, 73, 74, 75, 76, 77, 78, 79, 80, 59, 60, 61, 62, 63, 64, 65, 66, 67, 68, 69, 70] (by decide +kernel) (by decide +kernel)
set_option maxRecDepth 20000 in
theorem gX4_turnLines_X4_isLivePlain : GoodIn wsX4_turnLines (wsV RX4 182 RX4 yX4_isLivePlain wsX4_isLivePlain) := goodIn_app (goodIn_of _ (by decide +kernel)) ggX4_turnLines_X4_isLivePlain
set_option maxRecDepth 20000 in
theorem ggX4_turnLines_X1_covers : GoodIn wsX4_turnLines wsX1_covers := goodIn_r _ [18, 19, 20, 21, 22, 23, 24, 25, 26, 12, 27, 28, 29, 30, 31, 32, 33, 34, 35, 36, 7, 37, 71, 72, 73, 74, 75, 76, 77, 78, 79, 80, 81, 82, 83, 84] (by decide +kernel) (by decide +kernel)
set_option maxRecDepth 20000 in
theorem gX4_turnLines_X1_covers : GoodIn wsX4_turnLines (wsV RX4 164 RX1 yX1_covers wsX1_covers) := goodIn_app (goodIn_of _ (by decide +kernel)) ggX4_turnLines_X1_covers
set_option maxRecDepth 20000 in
theorem ggX4_turnLines_X4_appendLine : GoodIn wsX4_turnLines wsX4_appendLine := goodIn_ca (goodIn_r _ [41, 42, 43, 1, 2, 3, 44, 45, 46, 12, 47, 48, 49, 50, 14, 23, 19, 59, 60, 61, 62, 63, 64, 65, 66, 67, 68, 69, 70, 71, 72, 73, 74, 75, 76, 77, 78, 79, 80] (by decide +kernel) (by decide +kernel)) (goodIn_sub (fun _ h => List.mem_cons_of_mem _ (List.mem_append_right _ h)) (by decide +kernel))
set_option maxRecDepth 20000 in
theorem gX4_turnLines_X4_appendLine : GoodIn wsX4_turnLines (wsV RX4 43 RX4 yX4_appendLine wsX4_appendLine) := goodIn_app (goodIn_of _ (by decide +kernel)) ggX4_turnLines_X4_appendLine
set_option maxRecDepth 20000 in
theorem ggX4_turnLines_X1_takeMatching : GoodIn wsX4_turnLines wsX1_takeMatching := goodIn_r _ [54, 23, 24, 19, 22, 21, 20, 71, 72, 73, 74, 75, 76, 77, 78, 79, 80] (by decide +kernel) (by decide +kernel)
set_option maxRecDepth 20000 in
theorem gX4_turnLines_X1_takeMatching : GoodIn wsX4_turnLines (wsV RX4 186 RX1 yX1_takeMatching wsX1_takeMatching) := goodIn_app (goodIn_of _ (by decide +kernel)) ggX4_turnLines_X1_takeMatching
set_option maxRecDepth 20000 in
theorem ggX4_turnLines_X1_endBy : GoodIn wsX4_turnLines wsX1_endBy := goodIn_r _ [58, 14, 71, 72, 73, 74, 75, 76, 77, 78, 79, 80] (by decide +kernel) (by decide +kernel)
set_option maxRecDepth 20000 in
theorem gX4_turnLines_X1_endBy : GoodIn wsX4_turnLines (wsV RX4 190 RX1 yX1_endBy wsX1_endBy) := goodIn_app (goodIn_of _ (by decide +kernel)) ggX4_turnLines_X1_endBy
theorem dX4_turnLines_0 : decode cX4_turnLines 0 = .ok (.aload_n 0, 1) := by decide +kernel
theorem dX4_turnLines_1 : decode cX4_turnLines 1 = .ok (.getfield 47, 3) := by decide +kernel
theorem dX4_turnLines_4 : decode cX4_turnLines 4 = .ok (.istore 6, 2) := by decide +kernel
theorem dX4_turnLines_6 : decode cX4_turnLines 6 = .ok (.iconst 0, 1) := by decide +kernel
theorem dX4_turnLines_7 : decode cX4_turnLines 7 = .ok (.istore 7, 2) := by decide +kernel
theorem dX4_turnLines_9 : decode cX4_turnLines 9 = .ok (.iload 7, 2) := by decide +kernel
theorem dX4_turnLines_11 : decode cX4_turnLines 11 = .ok (.iload 6, 2) := by decide +kernel
theorem dX4_turnLines_13 : decode cX4_turnLines 13 = .ok (.if_icmp .ge 79, 3) := by decide +kernel
theorem dX4_turnLines_16 : decode cX4_turnLines 16 = .ok (.aload_n 0, 1) := by decide +kernel
theorem dX4_turnLines_17 : decode cX4_turnLines 17 = .ok (.getfield 47, 3) := by decide +kernel
theorem dX4_turnLines_20 : decode cX4_turnLines 20 = .ok (.bipush 40, 2) := by decide +kernel
theorem dX4_turnLines_22 : decode cX4_turnLines 22 = .ok (.if_icmp .ge 70, 3) := by decide +kernel
theorem dX4_turnLines_25 : decode cX4_turnLines 25 = .ok (.aload_n 0, 1) := by decide +kernel
theorem dX4_turnLines_26 : decode cX4_turnLines 26 = .ok (.getfield 11, 3) := by decide +kernel
theorem dX4_turnLines_29 : decode cX4_turnLines 29 = .ok (.iload 7, 2) := by decide +kernel
theorem dX4_turnLines_31 : decode cX4_turnLines 31 = .ok (.aaload, 1) := by decide +kernel
theorem dX4_turnLines_32 : decode cX4_turnLines 32 = .ok (.astore 8, 2) := by decide +kernel
theorem dX4_turnLines_34 : decode cX4_turnLines 34 = .ok (.aload_n 0, 1) := by decide +kernel
theorem dX4_turnLines_35 : decode cX4_turnLines 35 = .ok (.aload 8, 2) := by decide +kernel
theorem dX4_turnLines_37 : decode cX4_turnLines 37 = .ok (.invokevirtual 182, 3) := by decide +kernel
theorem dX4_turnLines_40 : decode cX4_turnLines 40 = .ok (.ifCond .eq 46, 3) := by decide +kernel
theorem dX4_turnLines_43 : decode cX4_turnLines 43 = .ok (.aload 8, 2) := by decide +kernel
theorem dX4_turnLines_45 : decode cX4_turnLines 45 = .ok (.getfield 65, 3) := by decide +kernel
theorem dX4_turnLines_48 : decode cX4_turnLines 48 = .ok (.iload_n 3, 1) := by decide +kernel
theorem dX4_turnLines_49 : decode cX4_turnLines 49 = .ok (.if_icmp .ne 37, 3) := by decide +kernel
theorem dX4_turnLines_52 : decode cX4_turnLines 52 = .ok (.aload 8, 2) := by decide +kernel
theorem dX4_turnLines_54 : decode cX4_turnLines 54 = .ok (.iload_n 1, 1) := by decide +kernel
theorem dX4_turnLines_55 : decode cX4_turnLines 55 = .ok (.iload_n 2, 1) := by decide +kernel
theorem dX4_turnLines_56 : decode cX4_turnLines 56 = .ok (.invokevirtual 164, 3) := by decide +kernel
theorem dX4_turnLines_59 : decode cX4_turnLines 59 = .ok (.ifCond .eq 27, 3) := by decide +kernel
theorem dX4_turnLines_62 : decode cX4_turnLines 62 = .ok (.aload_n 0, 1) := by decide +kernel
theorem dX4_turnLines_63 : decode cX4_turnLines 63 = .ok (.iconst 0, 1) := by decide +kernel
theorem dX4_turnLines_64 : decode cX4_turnLines 64 = .ok (.iload 4, 2) := by decide +kernel
theorem dX4_turnLines_66 : decode cX4_turnLines 66 = .ok (.invokevirtual 43, 3) := by decide +kernel
theorem dX4_turnLines_69 : decode cX4_turnLines 69 = .ok (.aload 8, 2) := by decide +kernel
theorem dX4_turnLines_71 : decode cX4_turnLines 71 = .ok (.invokevirtual 186, 3) := by decide +kernel
theorem dX4_turnLines_74 : decode cX4_turnLines 74 = .ok (.aload 8, 2) := by decide +kernel
theorem dX4_turnLines_76 : decode cX4_turnLines 76 = .ok (.aload_n 0, 1) := by decide +kernel
theorem dX4_turnLines_77 : decode cX4_turnLines 77 = .ok (.getfield 146, 3) := by decide +kernel
theorem dX4_turnLines_80 : decode cX4_turnLines 80 = .ok (.iload 5, 2) := by decide +kernel
theorem dX4_turnLines_82 : decode cX4_turnLines 82 = .ok (.iadd, 1) := by decide +kernel
theorem dX4_turnLines_83 : decode cX4_turnLines 83 = .ok (.invokevirtual 190, 3) := by decide +kernel
theorem dX4_turnLines_86 : decode cX4_turnLines 86 = .ok (.iinc 7 1, 3) := by decide +kernel
theorem dX4_turnLines_89 : decode cX4_turnLines 89 = .ok (.goto (-80), 3) := by decide +kernel
theorem dX4_turnLines_92 : decode cX4_turnLines 92 = .ok (.aload_n 0, 1) := by decide +kernel
theorem dX4_turnLines_93 : decode cX4_turnLines 93 = .ok (.getfield 47, 3) := by decide +kernel
theorem dX4_turnLines_96 : decode cX4_turnLines 96 = .ok (.iload 6, 2) := by decide +kernel
theorem dX4_turnLines_98 : decode cX4_turnLines 98 = .ok (.isub, 1) := by decide +kernel
theorem dX4_turnLines_99 : decode cX4_turnLines 99 = .ok (.ireturn, 1) := by decide +kernel
set_option maxRecDepth 20000 in
theorem ggX4_isToBeCleaned_X1_hasEnded : GoodIn wsX4_isToBeCleaned wsX1_hasEnded := goodIn_r _ [6, 7, 8, 9, 10, 11, 12, 13, 14, 15, 16, 17] (by decide +kernel) (by decide +kernel)
set_option maxRecDepth 20000 in
theorem gX4_isToBeCleaned_X1_hasEnded : GoodIn wsX4_isToBeCleaned (wsV RX4 193 RX1 yX1_hasEnded wsX1_hasEnded) := goodIn_app (goodIn_of _ (by decide +kernel)) ggX4_isToBeCleaned_X1_hasEnded
theorem dX4_isToBeCleaned_0 : decode cX4_isToBeCleaned 0 = .ok (.aload_n 1, 1) := by decide +kernel
theorem dX4_isToBeCleaned_1 : decode cX4_isToBeCleaned 1 = .ok (.getfield 155, 3) := by decide +kernel
theorem dX4_isToBeCleaned_4 : decode cX4_isToBeCleaned 4 = .ok (.ifCond .ne 31, 3) := by decide +kernel
theorem dX4_isToBeCleaned_7 : decode cX4_isToBeCleaned 7 = .ok (.aload_n 1, 1) := by decide +kernel
theorem dX4_isToBeCleaned_8 : decode cX4_isToBeCleaned 8 = .ok (.aload_n 0, 1) := by decide +kernel
theorem dX4_isToBeCleaned_9 : decode cX4_isToBeCleaned 9 = .ok (.getfield 146, 3) := by decide +kernel
theorem dX4_isToBeCleaned_12 : decode cX4_isToBeCleaned 12 = .ok (.invokevirtual 193, 3) := by decide +kernel
theorem dX4_isToBeCleaned_15 : decode cX4_isToBeCleaned 15 = .ok (.ifCond .ne 16, 3) := by decide +kernel
theorem dX4_isToBeCleaned_18 : decode cX4_isToBeCleaned 18 = .ok (.aload_n 0, 1) := by decide +kernel
theorem dX4_isToBeCleaned_19 : decode cX4_isToBeCleaned 19 = .ok (.getfield 146, 3) := by decide +kernel
theorem dX4_isToBeCleaned_22 : decode cX4_isToBeCleaned 22 = .ok (.aload_n 1, 1) := by decide +kernel
theorem dX4_isToBeCleaned_23 : decode cX4_isToBeCleaned 23 = .ok (.getfield 158, 3) := by decide +kernel
theorem dX4_isToBeCleaned_26 : decode cX4_isToBeCleaned 26 = .ok (.isub, 1) := by decide +kernel
theorem dX4_isToBeCleaned_27 : decode cX4_isToBeCleaned 27 = .ok (.iload_n 2, 1) := by decide +kernel
theorem dX4_isToBeCleaned_28 : decode cX4_isToBeCleaned 28 = .ok (.if_icmp .lt 7, 3) := by decide +kernel
theorem dX4_isToBeCleaned_31 : decode cX4_isToBeCleaned 31 = .ok (.iconst 1, 1) := by decide +kernel
theorem dX4_isToBeCleaned_32 : decode cX4_isToBeCleaned 32 = .ok (.goto 4, 3) := by decide +kernel
theorem dX4_isToBeCleaned_35 : decode cX4_isToBeCleaned 35 = .ok (.iconst 0, 1) := by decide +kernel
theorem dX4_isToBeCleaned_36 : decode cX4_isToBeCleaned 36 = .ok (.ireturn, 1) := by decide +kernel
set_option maxRecDepth 20000 in
theorem ggX4_seeToday_X1_hasEnded : GoodIn wsX4_seeToday wsX1_hasEnded := goodIn_r _ [8, 9, 51, 52, 53, 54, 55, 56, 57, 58, 59, 60] (by decide +kernel) (by decide +kernel)
set_option maxRecDepth 20000 in
theorem gX4_seeToday_X1_hasEnded : GoodIn wsX4_seeToday (wsV RX4 193 RX1 yX1_hasEnded wsX1_hasEnded) := goodIn_app (goodIn_of _ (by decide +kernel)) ggX4_seeToday_X1_hasEnded
set_option maxRecDepth 20000 in
theorem ggX4_seeToday_X1_hasEither : GoodIn wsX4_seeToday wsX1_hasEither := goodIn_r _ [13, 14, 51, 52, 53, 54, 55, 56, 57, 58, 59, 60] (by decide +kernel) (by decide +kernel)
set_option maxRecDepth 20000 in
theorem gX4_seeToday_X1_hasEither : GoodIn wsX4_seeToday (wsV RX4 197 RX1 yX1_hasEither wsX1_hasEither) := goodIn_app (goodIn_of _ (by decide +kernel)) ggX4_seeToday_X1_hasEither
set_option maxRecDepth 20000 in
theorem ggX4_seeToday_X1_covers : GoodIn wsX4_seeToday wsX1_covers := goodIn_r _ [18, 19, 20, 21, 22, 23, 24, 25, 26, 7, 27, 28, 29, 30, 31, 32, 33, 34, 35, 36, 37, 38, 51, 52, 53, 54, 55, 56, 57, 58, 59, 60, 61, 62, 63, 64] (by decide +kernel) (by decide +kernel)
set_option maxRecDepth 20000 in
theorem gX4_seeToday_X1_covers : GoodIn wsX4_seeToday (wsV RX4 164 RX1 yX1_covers wsX1_covers) := goodIn_app (goodIn_of _ (by decide +kernel)) ggX4_seeToday_X1_covers
theorem dX4_seeToday_0 : decode cX4_seeToday 0 = .ok (.iconst 0, 1) := by decide +kernel
theorem dX4_seeToday_1 : decode cX4_seeToday 1 = .ok (.istore 5, 2) := by decide +kernel
theorem dX4_seeToday_3 : decode cX4_seeToday 3 = .ok (.iload 5, 2) := by decide +kernel
theorem dX4_seeToday_5 : decode cX4_seeToday 5 = .ok (.aload_n 0, 1) := by decide +kernel
theorem dX4_seeToday_6 : decode cX4_seeToday 6 = .ok (.getfield 47, 3) := by decide +kernel
theorem dX4_seeToday_9 : decode cX4_seeToday 9 = .ok (.if_icmp .ge 69, 3) := by decide +kernel
theorem dX4_seeToday_12 : decode cX4_seeToday 12 = .ok (.aload_n 0, 1) := by decide +kernel
theorem dX4_seeToday_13 : decode cX4_seeToday 13 = .ok (.getfield 11, 3) := by decide +kernel
theorem dX4_seeToday_16 : decode cX4_seeToday 16 = .ok (.iload 5, 2) := by decide +kernel
theorem dX4_seeToday_18 : decode cX4_seeToday 18 = .ok (.aaload, 1) := by decide +kernel
theorem dX4_seeToday_19 : decode cX4_seeToday 19 = .ok (.astore 6, 2) := by decide +kernel
theorem dX4_seeToday_21 : decode cX4_seeToday 21 = .ok (.aload 6, 2) := by decide +kernel
theorem dX4_seeToday_23 : decode cX4_seeToday 23 = .ok (.getfield 155, 3) := by decide +kernel
theorem dX4_seeToday_26 : decode cX4_seeToday 26 = .ok (.iconst 1, 1) := by decide +kernel
theorem dX4_seeToday_27 : decode cX4_seeToday 27 = .ok (.if_icmp .eq 45, 3) := by decide +kernel
theorem dX4_seeToday_30 : decode cX4_seeToday 30 = .ok (.aload 6, 2) := by decide +kernel
theorem dX4_seeToday_32 : decode cX4_seeToday 32 = .ok (.aload_n 0, 1) := by decide +kernel
theorem dX4_seeToday_33 : decode cX4_seeToday 33 = .ok (.getfield 146, 3) := by decide +kernel
theorem dX4_seeToday_36 : decode cX4_seeToday 36 = .ok (.invokevirtual 193, 3) := by decide +kernel
theorem dX4_seeToday_39 : decode cX4_seeToday 39 = .ok (.ifCond .ne 33, 3) := by decide +kernel
theorem dX4_seeToday_42 : decode cX4_seeToday 42 = .ok (.aload 6, 2) := by decide +kernel
theorem dX4_seeToday_44 : decode cX4_seeToday 44 = .ok (.iload_n 3, 1) := by decide +kernel
theorem dX4_seeToday_45 : decode cX4_seeToday 45 = .ok (.iload 4, 2) := by decide +kernel
theorem dX4_seeToday_47 : decode cX4_seeToday 47 = .ok (.invokevirtual 197, 3) := by decide +kernel
theorem dX4_seeToday_50 : decode cX4_seeToday 50 = .ok (.ifCond .eq 22, 3) := by decide +kernel
theorem dX4_seeToday_53 : decode cX4_seeToday 53 = .ok (.aload 6, 2) := by decide +kernel
theorem dX4_seeToday_55 : decode cX4_seeToday 55 = .ok (.iload_n 1, 1) := by decide +kernel
theorem dX4_seeToday_56 : decode cX4_seeToday 56 = .ok (.iload_n 2, 1) := by decide +kernel
theorem dX4_seeToday_57 : decode cX4_seeToday 57 = .ok (.invokevirtual 164, 3) := by decide +kernel
theorem dX4_seeToday_60 : decode cX4_seeToday 60 = .ok (.ifCond .eq 12, 3) := by decide +kernel
theorem dX4_seeToday_63 : decode cX4_seeToday 63 = .ok (.aload 6, 2) := by decide +kernel
theorem dX4_seeToday_65 : decode cX4_seeToday 65 = .ok (.aload_n 0, 1) := by decide +kernel
theorem dX4_seeToday_66 : decode cX4_seeToday 66 = .ok (.getfield 146, 3) := by decide +kernel
theorem dX4_seeToday_69 : decode cX4_seeToday 69 = .ok (.putfield 158, 3) := by decide +kernel
theorem dX4_seeToday_72 : decode cX4_seeToday 72 = .ok (.iinc 5 1, 3) := by decide +kernel
theorem dX4_seeToday_75 : decode cX4_seeToday 75 = .ok (.goto (-72), 3) := by decide +kernel
theorem dX4_seeToday_78 : decode cX4_seeToday 78 = .ok (.return_, 1) := by decide +kernel
theorem dX4_letWait_0 : decode cX4_letWait 0 = .ok (.aload_n 0, 1) := by decide +kernel
theorem dX4_letWait_1 : decode cX4_letWait 1 = .ok (.iload_n 1, 1) := by decide +kernel
theorem dX4_letWait_2 : decode cX4_letWait 2 = .ok (.putfield 123, 3) := by decide +kernel
theorem dX4_letWait_5 : decode cX4_letWait 5 = .ok (.aload_n 0, 1) := by decide +kernel
theorem dX4_letWait_6 : decode cX4_letWait 6 = .ok (.iload_n 2, 1) := by decide +kernel
theorem dX4_letWait_7 : decode cX4_letWait 7 = .ok (.putfield 126, 3) := by decide +kernel
theorem dX4_letWait_10 : decode cX4_letWait 10 = .ok (.aload_n 0, 1) := by decide +kernel
theorem dX4_letWait_11 : decode cX4_letWait 11 = .ok (.iload_n 3, 1) := by decide +kernel
theorem dX4_letWait_12 : decode cX4_letWait 12 = .ok (.putfield 31, 3) := by decide +kernel
theorem dX4_letWait_15 : decode cX4_letWait 15 = .ok (.return_, 1) := by decide +kernel
set_option maxRecDepth 20000 in
theorem ggX4_judgementOf_X4_authorityOf : GoodIn wsX4_judgementOf wsX4_authorityOf := goodIn_r _ [4, 84, 85, 86, 87, 88, 89, 90] (by decide +kernel) (by decide +kernel)
set_option maxRecDepth 20000 in
theorem gX4_judgementOf_X4_authorityOf : GoodIn wsX4_judgementOf (va_wsS RX4 107 yX4_authorityOf wsX4_authorityOf) := goodIn_app (goodIn_of _ (by decide +kernel)) ggX4_judgementOf_X4_authorityOf
set_option maxRecDepth 20000 in
theorem ggX4_judgementOf_X4_judgementByLines : GoodIn wsX4_judgementOf wsX4_judgementByLines := goodIn_r _ [8, 9, 10, 11, 12, 13, 14, 15, 16, 17, 18, 19, 20, 21, 22, 23, 24, 25, 26, 27, 28, 29, 30, 31, 32, 33, 34, 35, 36, 37, 3, 38, 39, 40, 41, 42, 43, 44, 45, 46, 47, 48, 49, 50, 51, 52, 53, 54, 55, 56, 57, 58, 59, 60, 91, 92, 93, 94, 95, 96, 97, 98, 99, 100, 101, 102, 103, 104, 105, 106, 107, 108, 109, 110, 111, 112, 113, 114, 115, 116] (by decide +kernel) (by decide +kernel)
set_option maxRecDepth 20000 in
theorem gX4_judgementOf_X4_judgementByLines : GoodIn wsX4_judgementOf (wsV RX4 134 RX4 yX4_judgementByLines wsX4_judgementByLines) := goodIn_app (goodIn_of _ (by decide +kernel)) ggX4_judgementOf_X4_judgementByLines
set_option maxRecDepth 20000 in
theorem ggX4_judgementOf_X4_isGood : GoodIn wsX4_judgementOf wsX4_isGood := goodIn_r _ [64, 52, 65, 37, 3, 38, 66, 67, 68, 69, 70, 71, 72, 73, 74, 75, 76, 77, 78, 79, 80, 81, 82, 83, 9, 10, 53, 54, 55, 18, 56, 57, 15, 16, 17, 19, 20, 21, 22, 23, 24, 25, 26, 27, 28, 29, 30, 31, 32, 33, 34, 35, 36, 84, 85, 86, 87, 88, 89, 90, 91, 92, 93, 94, 95, 96, 97, 98, 99, 100, 101, 102, 117, 118, 119, 103, 104, 105, 106, 107, 108, 109, 110, 111, 112, 113, 114, 115, 116] (by decide +kernel) (by decide +kernel)
set_option maxRecDepth 20000 in
theorem gX4_judgementOf_X4_isGood : GoodIn wsX4_judgementOf (wsV RX4 201 RX4 yX4_isGood wsX4_isGood) := goodIn_app (goodIn_of _ (by decide +kernel)) ggX4_judgementOf_X4_isGood
theorem dX4_judgementOf_0 : decode cX4_judgementOf 0 = .ok (.aload_n 0, 1) := by decide +kernel
theorem dX4_judgementOf_1 : decode cX4_judgementOf 1 = .ok (.iload_n 1, 1) := by decide +kernel
theorem dX4_judgementOf_2 : decode cX4_judgementOf 2 = .ok (.iload_n 2, 1) := by decide +kernel
theorem dX4_judgementOf_3 : decode cX4_judgementOf 3 = .ok (.iload_n 3, 1) := by decide +kernel
theorem dX4_judgementOf_4 : decode cX4_judgementOf 4 = .ok (.aload 4, 2) := by decide +kernel
theorem dX4_judgementOf_6 : decode cX4_judgementOf 6 = .ok (.invokestatic 107, 3) := by decide +kernel
theorem dX4_judgementOf_9 : decode cX4_judgementOf 9 = .ok (.invokevirtual 134, 3) := by decide +kernel
theorem dX4_judgementOf_12 : decode cX4_judgementOf 12 = .ok (.istore 5, 2) := by decide +kernel
theorem dX4_judgementOf_14 : decode cX4_judgementOf 14 = .ok (.iload 5, 2) := by decide +kernel
theorem dX4_judgementOf_16 : decode cX4_judgementOf 16 = .ok (.ifCond .eq 30, 3) := by decide +kernel
theorem dX4_judgementOf_19 : decode cX4_judgementOf 19 = .ok (.aload 4, 2) := by decide +kernel
theorem dX4_judgementOf_21 : decode cX4_judgementOf 21 = .ok (.ifnull 25, 3) := by decide +kernel
theorem dX4_judgementOf_24 : decode cX4_judgementOf 24 = .ok (.aload 4, 2) := by decide +kernel
theorem dX4_judgementOf_26 : decode cX4_judgementOf 26 = .ok (.getfield 200, 3) := by decide +kernel
theorem dX4_judgementOf_29 : decode cX4_judgementOf 29 = .ok (.iload_n 3, 1) := by decide +kernel
theorem dX4_judgementOf_30 : decode cX4_judgementOf 30 = .ok (.if_icmp .ne 16, 3) := by decide +kernel
theorem dX4_judgementOf_33 : decode cX4_judgementOf 33 = .ok (.aload_n 0, 1) := by decide +kernel
theorem dX4_judgementOf_34 : decode cX4_judgementOf 34 = .ok (.aload 4, 2) := by decide +kernel
theorem dX4_judgementOf_36 : decode cX4_judgementOf 36 = .ok (.iload_n 1, 1) := by decide +kernel
theorem dX4_judgementOf_37 : decode cX4_judgementOf 37 = .ok (.iload_n 2, 1) := by decide +kernel
theorem dX4_judgementOf_38 : decode cX4_judgementOf 38 = .ok (.invokevirtual 201, 3) := by decide +kernel
theorem dX4_judgementOf_41 : decode cX4_judgementOf 41 = .ok (.ifCond .eq 5, 3) := by decide +kernel
theorem dX4_judgementOf_44 : decode cX4_judgementOf 44 = .ok (.iconst 1, 1) := by decide +kernel
theorem dX4_judgementOf_45 : decode cX4_judgementOf 45 = .ok (.ireturn, 1) := by decide +kernel
theorem dX4_judgementOf_46 : decode cX4_judgementOf 46 = .ok (.iload 5, 2) := by decide +kernel
theorem dX4_judgementOf_48 : decode cX4_judgementOf 48 = .ok (.ireturn, 1) := by decide +kernel
set_option maxRecDepth 20000 in
theorem ggX4_judgementByLines_X1_covers : GoodIn wsX4_judgementByLines wsX1_covers := goodIn_r _ [11, 12, 13, 14, 15, 16, 17, 18, 19, 10, 20, 21, 22, 23, 24, 25, 26, 27, 28, 29, 30, 31, 66, 67, 68, 69, 70, 71, 72, 73, 74, 75, 76, 77, 78, 79] (by decide +kernel) (by decide +kernel)
set_option maxRecDepth 20000 in
theorem gX4_judgementByLines_X1_covers : GoodIn wsX4_judgementByLines (wsV RX4 164 RX1 yX1_covers wsX1_covers) := goodIn_app (goodIn_of _ (by decide +kernel)) ggX4_judgementByLines_X1_covers
set_option maxRecDepth 20000 in
theorem ggX4_judgementByLines_X4_judgementByMatch : GoodIn wsX4_judgementByLines wsX4_judgementByMatch := goodIn_r _ [35, 36, 37, 38, 10, 39, 40, 41, 42, 43, 30, 44, 45, 46, 47, 48, 49, 50, 51, 52, 53, 66, 67, 68, 69, 70, 71, 72, 73, 74, 75, 54, 55, 56, 57, 58, 59, 60, 61, 62, 63, 64, 65] (by decide +kernel) (by decide +kernel)
set_option maxRecDepth 20000 in
theorem gX4_judgementByLines_X4_judgementByMatch : GoodIn wsX4_judgementByLines (wsV RX4 205 RX4 yX4_judgementByMatch wsX4_judgementByMatch) := goodIn_app (goodIn_of _ (by decide +kernel)) ggX4_judgementByLines_X4_judgementByMatch
theorem dX4_judgementByLines_0 : decode cX4_judgementByLines 0 = .ok (.iconst 5, 1) := by decide +kernel
theorem dX4_judgementByLines_1 : decode cX4_judgementByLines 1 = .ok (.istore 5, 2) := by decide +kernel
theorem dX4_judgementByLines_3 : decode cX4_judgementByLines 3 = .ok (.iconst 0, 1) := by decide +kernel
theorem dX4_judgementByLines_4 : decode cX4_judgementByLines 4 = .ok (.istore 6, 2) := by decide +kernel
theorem dX4_judgementByLines_6 : decode cX4_judgementByLines 6 = .ok (.iload 6, 2) := by decide +kernel
theorem dX4_judgementByLines_8 : decode cX4_judgementByLines 8 = .ok (.aload_n 0, 1) := by decide +kernel
theorem dX4_judgementByLines_9 : decode cX4_judgementByLines 9 = .ok (.getfield 47, 3) := by decide +kernel
theorem dX4_judgementByLines_12 : decode cX4_judgementByLines 12 = .ok (.if_icmp .ge 45, 3) := by decide +kernel
theorem dX4_judgementByLines_15 : decode cX4_judgementByLines 15 = .ok (.aload_n 0, 1) := by decide +kernel
theorem dX4_judgementByLines_16 : decode cX4_judgementByLines 16 = .ok (.getfield 11, 3) := by decide +kernel
theorem dX4_judgementByLines_19 : decode cX4_judgementByLines 19 = .ok (.iload 6, 2) := by decide +kernel
theorem dX4_judgementByLines_21 : decode cX4_judgementByLines 21 = .ok (.aaload, 1) := by decide +kernel
theorem dX4_judgementByLines_22 : decode cX4_judgementByLines 22 = .ok (.iload_n 1, 1) := by decide +kernel
theorem dX4_judgementByLines_23 : decode cX4_judgementByLines 23 = .ok (.iload_n 2, 1) := by decide +kernel
theorem dX4_judgementByLines_24 : decode cX4_judgementByLines 24 = .ok (.invokevirtual 164, 3) := by decide +kernel
theorem dX4_judgementByLines_27 : decode cX4_judgementByLines 27 = .ok (.ifCond .eq 24, 3) := by decide +kernel
theorem dX4_judgementByLines_30 : decode cX4_judgementByLines 30 = .ok (.iload 5, 2) := by decide +kernel
theorem dX4_judgementByLines_32 : decode cX4_judgementByLines 32 = .ok (.aload_n 0, 1) := by decide +kernel
theorem dX4_judgementByLines_33 : decode cX4_judgementByLines 33 = .ok (.aload_n 0, 1) := by decide +kernel
theorem dX4_judgementByLines_34 : decode cX4_judgementByLines 34 = .ok (.getfield 11, 3) := by decide +kernel
theorem dX4_judgementByLines_37 : decode cX4_judgementByLines 37 = .ok (.iload 6, 2) := by decide +kernel
theorem dX4_judgementByLines_39 : decode cX4_judgementByLines 39 = .ok (.aaload, 1) := by decide +kernel
theorem dX4_judgementByLines_40 : decode cX4_judgementByLines 40 = .ok (.iload_n 3, 1) := by decide +kernel
theorem dX4_judgementByLines_41 : decode cX4_judgementByLines 41 = .ok (.iload 4, 2) := by decide +kernel
theorem dX4_judgementByLines_43 : decode cX4_judgementByLines 43 = .ok (.invokevirtual 205, 3) := by decide +kernel
theorem dX4_judgementByLines_46 : decode cX4_judgementByLines 46 = .ok (.invokestatic 209, 3) := by decide +kernel
theorem dX4_judgementByLines_49 : decode cX4_judgementByLines 49 = .ok (.istore 5, 2) := by decide +kernel
theorem dX4_judgementByLines_51 : decode cX4_judgementByLines 51 = .ok (.iinc 6 1, 3) := by decide +kernel
theorem dX4_judgementByLines_54 : decode cX4_judgementByLines 54 = .ok (.goto (-48), 3) := by decide +kernel
theorem dX4_judgementByLines_57 : decode cX4_judgementByLines 57 = .ok (.iload 5, 2) := by decide +kernel
theorem dX4_judgementByLines_59 : decode cX4_judgementByLines 59 = .ok (.ireturn, 1) := by decide +kernel
set_option maxRecDepth 20000 in
theorem ggX4_judgementByMatch_X1_hasEither : GoodIn wsX4_judgementByMatch wsX1_hasEither := goodIn_r _ [5, 6, 21, 22, 23, 24, 25, 26, 27, 28, 29, 30] (by decide +kernel) (by decide +kernel)
set_option maxRecDepth 20000 in
theorem gX4_judgementByMatch_X1_hasEither : GoodIn wsX4_judgementByMatch (wsV RX4 197 RX1 yX1_hasEither wsX1_hasEither) := goodIn_app (goodIn_of _ (by decide +kernel)) ggX4_judgementByMatch_X1_hasEither
set_option maxRecDepth 20000 in
theorem ggX4_judgementByMatch_X4_isLivePlain : GoodIn wsX4_judgementByMatch wsX4_isLivePlain := goodIn_r _ [11, 12, 13, 14, 15, 4, 16, 17, 21, 22, 23, 24, 25, 26, 27, 28, 29, 30, 31, 32, 33, 34, 35, 36, 37, 38, 39, 40, 41, 42] (by decide +kernel) (by decide +kernel)
set_option maxRecDepth 20000 in
theorem gX4_judgementByMatch_X4_isLivePlain : GoodIn wsX4_judgementByMatch (wsV RX4 182 RX4 yX4_isLivePlain wsX4_isLivePlain) := goodIn_app (goodIn_of _ (by decide +kernel)) ggX4_judgementByMatch_X4_isLivePlain
set_option maxRecDepth 20000 in
theorem ggX4_judgementByMatch_X4_kindOf : GoodIn wsX4_judgementByMatch wsX4_kindOf := goodIn_r _ [20] (by decide +kernel) (by decide +kernel)
set_option maxRecDepth 20000 in
theorem gX4_judgementByMatch_X4_kindOf : GoodIn wsX4_judgementByMatch (va_wsS RX4 215 yX4_kindOf wsX4_kindOf) := goodIn_app (goodIn_of _ (by decide +kernel)) ggX4_judgementByMatch_X4_kindOf
theorem dX4_judgementByMatch_0 : decode cX4_judgementByMatch 0 = .ok (.aload_n 1, 1) := by decide +kernel
theorem dX4_judgementByMatch_1 : decode cX4_judgementByMatch 1 = .ok (.getfield 155, 3) := by decide +kernel
theorem dX4_judgementByMatch_4 : decode cX4_judgementByMatch 4 = .ok (.iconst 1, 1) := by decide +kernel
theorem dX4_judgementByMatch_5 : decode cX4_judgementByMatch 5 = .ok (.if_icmp .ne 14, 3) := by decide +kernel
theorem dX4_judgementByMatch_8 : decode cX4_judgementByMatch 8 = .ok (.aload_n 1, 1) := by decide +kernel
theorem dX4_judgementByMatch_9 : decode cX4_judgementByMatch 9 = .ok (.iload_n 2, 1) := by decide +kernel
theorem dX4_judgementByMatch_10 : decode cX4_judgementByMatch 10 = .ok (.iload_n 3, 1) := by decide +kernel
theorem dX4_judgementByMatch_11 : decode cX4_judgementByMatch 11 = .ok (.invokevirtual 197, 3) := by decide +kernel
theorem dX4_judgementByMatch_14 : decode cX4_judgementByMatch 14 = .ok (.ifCond .eq 5, 3) := by decide +kernel
theorem dX4_judgementByMatch_17 : decode cX4_judgementByMatch 17 = .ok (.iconst 0, 1) := by decide +kernel
theorem dX4_judgementByMatch_18 : decode cX4_judgementByMatch 18 = .ok (.ireturn, 1) := by decide +kernel
theorem dX4_judgementByMatch_19 : decode cX4_judgementByMatch 19 = .ok (.aload_n 0, 1) := by decide +kernel
theorem dX4_judgementByMatch_20 : decode cX4_judgementByMatch 20 = .ok (.aload_n 1, 1) := by decide +kernel
theorem dX4_judgementByMatch_21 : decode cX4_judgementByMatch 21 = .ok (.invokevirtual 182, 3) := by decide +kernel
theorem dX4_judgementByMatch_24 : decode cX4_judgementByMatch 24 = .ok (.ifCond .ne 5, 3) := by decide +kernel
theorem dX4_judgementByMatch_27 : decode cX4_judgementByMatch 27 = .ok (.iconst 5, 1) := by decide +kernel
theorem dX4_judgementByMatch_28 : decode cX4_judgementByMatch 28 = .ok (.ireturn, 1) := by decide +kernel
theorem dX4_judgementByMatch_29 : decode cX4_judgementByMatch 29 = .ok (.aload_n 1, 1) := by decide +kernel
theorem dX4_judgementByMatch_30 : decode cX4_judgementByMatch 30 = .ok (.getfield 65, 3) := by decide +kernel
theorem dX4_judgementByMatch_33 : decode cX4_judgementByMatch 33 = .ok (.iload_n 2, 1) := by decide +kernel
theorem dX4_judgementByMatch_34 : decode cX4_judgementByMatch 34 = .ok (.if_icmp .ne 5, 3) := by decide +kernel
theorem dX4_judgementByMatch_37 : decode cX4_judgementByMatch 37 = .ok (.iconst 2, 1) := by decide +kernel
theorem dX4_judgementByMatch_38 : decode cX4_judgementByMatch 38 = .ok (.ireturn, 1) := by decide +kernel
theorem dX4_judgementByMatch_39 : decode cX4_judgementByMatch 39 = .ok (.aload_n 1, 1) := by decide +kernel
theorem dX4_judgementByMatch_40 : decode cX4_judgementByMatch 40 = .ok (.getfield 65, 3) := by decide +kernel
theorem dX4_judgementByMatch_43 : decode cX4_judgementByMatch 43 = .ok (.invokestatic 215, 3) := by decide +kernel
theorem dX4_judgementByMatch_46 : decode cX4_judgementByMatch 46 = .ok (.iload_n 2, 1) := by decide +kernel
theorem dX4_judgementByMatch_47 : decode cX4_judgementByMatch 47 = .ok (.invokestatic 215, 3) := by decide +kernel
theorem dX4_judgementByMatch_50 : decode cX4_judgementByMatch 50 = .ok (.if_icmp .ne 7, 3) := by decide +kernel
theorem dX4_judgementByMatch_53 : decode cX4_judgementByMatch 53 = .ok (.iconst 3, 1) := by decide +kernel
theorem dX4_judgementByMatch_54 : decode cX4_judgementByMatch 54 = .ok (.goto 4, 3) := by decide +kernel
theorem dX4_judgementByMatch_57 : decode cX4_judgementByMatch 57 = .ok (.iconst 4, 1) := by decide +kernel
theorem dX4_judgementByMatch_58 : decode cX4_judgementByMatch 58 = .ok (.ireturn, 1) := by decide +kernel
set_option maxRecDepth 20000 in
theorem ggX4_isLivePlain_X1_hasEnded : GoodIn wsX4_isLivePlain wsX1_hasEnded := goodIn_r _ [6, 7, 8, 9, 10, 11, 12, 13, 14, 15, 16, 17] (by decide +kernel) (by decide +kernel)
set_option maxRecDepth 20000 in
theorem gX4_isLivePlain_X1_hasEnded : GoodIn wsX4_isLivePlain (wsV RX4 193 RX1 yX1_hasEnded wsX1_hasEnded) := goodIn_app (goodIn_of _ (by decide +kernel)) ggX4_isLivePlain_X1_hasEnded
theorem dX4_isLivePlain_0 : decode cX4_isLivePlain 0 = .ok (.aload_n 1, 1) := by decide +kernel
theorem dX4_isLivePlain_1 : decode cX4_isLivePlain 1 = .ok (.getfield 155, 3) := by decide +kernel
theorem dX4_isLivePlain_4 : decode cX4_isLivePlain 4 = .ok (.ifCond .ne 18, 3) := by decide +kernel
theorem dX4_isLivePlain_7 : decode cX4_isLivePlain 7 = .ok (.aload_n 1, 1) := by decide +kernel
theorem dX4_isLivePlain_8 : decode cX4_isLivePlain 8 = .ok (.aload_n 0, 1) := by decide +kernel
theorem dX4_isLivePlain_9 : decode cX4_isLivePlain 9 = .ok (.getfield 146, 3) := by decide +kernel
theorem dX4_isLivePlain_12 : decode cX4_isLivePlain 12 = .ok (.invokevirtual 193, 3) := by decide +kernel
theorem dX4_isLivePlain_15 : decode cX4_isLivePlain 15 = .ok (.ifCond .ne 7, 3) := by decide +kernel
theorem dX4_isLivePlain_18 : decode cX4_isLivePlain 18 = .ok (.iconst 1, 1) := by decide +kernel
theorem dX4_isLivePlain_19 : decode cX4_isLivePlain 19 = .ok (.goto 4, 3) := by decide +kernel
theorem dX4_isLivePlain_22 : decode cX4_isLivePlain 22 = .ok (.iconst 0, 1) := by decide +kernel
theorem dX4_isLivePlain_23 : decode cX4_isLivePlain 23 = .ok (.ireturn, 1) := by decide +kernel
theorem dX4_kindOf_0 : decode cX4_kindOf 0 = .ok (.iload_n 0, 1) := by decide +kernel
theorem dX4_kindOf_1 : decode cX4_kindOf 1 = .ok (.iconst 3, 1) := by decide +kernel
theorem dX4_kindOf_2 : decode cX4_kindOf 2 = .ok (.irem, 1) := by decide +kernel
theorem dX4_kindOf_3 : decode cX4_kindOf 3 = .ok (.ireturn, 1) := by decide +kernel
theorem dX4_authorityOf_0 : decode cX4_authorityOf 0 = .ok (.aload_n 0, 1) := by decide +kernel
theorem dX4_authorityOf_1 : decode cX4_authorityOf 1 = .ok (.ifnonnull 7, 3) := by decide +kernel
theorem dX4_authorityOf_4 : decode cX4_authorityOf 4 = .ok (.iconst (-1), 1) := by decide +kernel
theorem dX4_authorityOf_5 : decode cX4_authorityOf 5 = .ok (.goto 7, 3) := by decide +kernel
theorem dX4_authorityOf_8 : decode cX4_authorityOf 8 = .ok (.aload_n 0, 1) := by decide +kernel
theorem dX4_authorityOf_9 : decode cX4_authorityOf 9 = .ok (.getfield 219, 3) := by decide +kernel
theorem dX4_authorityOf_12 : decode cX4_authorityOf 12 = .ok (.ireturn, 1) := by decide +kernel
set_option maxRecDepth 20000 in
theorem ggX4_isGood_X4_isSameAt : GoodIn wsX4_isGood wsX4_isSameAt := goodIn_r _ [5] (by decide +kernel) (by decide +kernel)
set_option maxRecDepth 20000 in
theorem gX4_isGood_X4_isSameAt : GoodIn wsX4_isGood (va_wsS RX4 228 yX4_isSameAt wsX4_isSameAt) := goodIn_app (goodIn_of _ (by decide +kernel)) ggX4_isGood_X4_isSameAt
set_option maxRecDepth 20000 in
theorem ggX4_isGood_X4_isInRevokedSpan : GoodIn wsX4_isGood wsX4_isInRevokedSpan := goodIn_r _ [9, 10, 11, 12, 13, 14, 15, 16, 17, 18, 19, 60, 61, 62, 63, 64, 65, 66, 67, 68, 69, 70, 71, 53, 54, 55, 56, 57, 58, 59, 72, 73, 74] (by decide +kernel) (by decide +kernel)
set_option maxRecDepth 20000 in
theorem gX4_isGood_X4_isInRevokedSpan : GoodIn wsX4_isGood (wsV RX4 238 RX4 yX4_isInRevokedSpan wsX4_isInRevokedSpan) := goodIn_app (goodIn_of _ (by decide +kernel)) ggX4_isGood_X4_isInRevokedSpan
set_option maxRecDepth 20000 in
theorem ggX4_isGood_X4_hasAuthority : GoodIn wsX4_isGood wsX4_hasAuthority := goodIn_r _ [23, 24, 25, 1, 26, 27, 28, 29, 30, 31, 32, 33, 34, 35, 36, 37, 38, 39, 40, 41, 42, 43, 44, 45, 46, 47, 48, 49, 50, 51, 52, 3, 4, 5, 60, 61, 62, 63, 64, 65, 66, 67, 68, 69, 70, 71, 75, 76, 77, 78, 79, 80, 81, 82, 83, 84, 85, 86, 87, 88] (by decide +kernel) (by decide +kernel)
set_option maxRecDepth 20000 in
theorem gX4_isGood_X4_hasAuthority : GoodIn wsX4_isGood (wsV RX4 242 RX4 yX4_hasAuthority wsX4_hasAuthority) := goodIn_app (goodIn_of _ (by decide +kernel)) ggX4_isGood_X4_hasAuthority
theorem dX4_isGood_0 : decode cX4_isGood 0 = .ok (.aload_n 1, 1) := by decide +kernel
theorem dX4_isGood_1 : decode cX4_isGood 1 = .ok (.getfield 222, 3) := by decide +kernel
theorem dX4_isGood_4 : decode cX4_isGood 4 = .ok (.aload_n 1, 1) := by decide +kernel
theorem dX4_isGood_5 : decode cX4_isGood 5 = .ok (.getfield 225, 3) := by decide +kernel
theorem dX4_isGood_8 : decode cX4_isGood 8 = .ok (.iload_n 2, 1) := by decide +kernel
theorem dX4_isGood_9 : decode cX4_isGood 9 = .ok (.invokestatic 228, 3) := by decide +kernel
theorem dX4_isGood_12 : decode cX4_isGood 12 = .ok (.ifCond .eq 50, 3) := by decide +kernel
theorem dX4_isGood_15 : decode cX4_isGood 15 = .ok (.aload_n 0, 1) := by decide +kernel
theorem dX4_isGood_16 : decode cX4_isGood 16 = .ok (.getfield 146, 3) := by decide +kernel
theorem dX4_isGood_19 : decode cX4_isGood 19 = .ok (.aload_n 1, 1) := by decide +kernel
theorem dX4_isGood_20 : decode cX4_isGood 20 = .ok (.getfield 232, 3) := by decide +kernel
theorem dX4_isGood_23 : decode cX4_isGood 23 = .ok (.if_icmp .lt 39, 3) := by decide +kernel
theorem dX4_isGood_26 : decode cX4_isGood 26 = .ok (.aload_n 0, 1) := by decide +kernel
theorem dX4_isGood_27 : decode cX4_isGood 27 = .ok (.getfield 146, 3) := by decide +kernel
theorem dX4_isGood_30 : decode cX4_isGood 30 = .ok (.aload_n 1, 1) := by decide +kernel
theorem dX4_isGood_31 : decode cX4_isGood 31 = .ok (.getfield 235, 3) := by decide +kernel
theorem dX4_isGood_34 : decode cX4_isGood 34 = .ok (.if_icmp .gt 28, 3) := by decide +kernel
theorem dX4_isGood_37 : decode cX4_isGood 37 = .ok (.aload_n 0, 1) := by decide +kernel
theorem dX4_isGood_38 : decode cX4_isGood 38 = .ok (.aload_n 1, 1) := by decide +kernel
theorem dX4_isGood_39 : decode cX4_isGood 39 = .ok (.invokevirtual 238, 3) := by decide +kernel
theorem dX4_isGood_42 : decode cX4_isGood 42 = .ok (.ifCond .ne 20, 3) := by decide +kernel
theorem dX4_isGood_45 : decode cX4_isGood 45 = .ok (.aload_n 0, 1) := by decide +kernel
theorem dX4_isGood_46 : decode cX4_isGood 46 = .ok (.aload_n 1, 1) := by decide +kernel
theorem dX4_isGood_47 : decode cX4_isGood 47 = .ok (.getfield 219, 3) := by decide +kernel
theorem dX4_isGood_50 : decode cX4_isGood 50 = .ok (.iload_n 2, 1) := by decide +kernel
theorem dX4_isGood_51 : decode cX4_isGood 51 = .ok (.iload_n 3, 1) := by decide +kernel
theorem dX4_isGood_52 : decode cX4_isGood 52 = .ok (.invokevirtual 242, 3) := by decide +kernel
theorem dX4_isGood_55 : decode cX4_isGood 55 = .ok (.ifCond .eq 7, 3) := by decide +kernel
theorem dX4_isGood_58 : decode cX4_isGood 58 = .ok (.iconst 1, 1) := by decide +kernel
theorem dX4_isGood_59 : decode cX4_isGood 59 = .ok (.goto 4, 3) := by decide +kernel
theorem dX4_isGood_62 : decode cX4_isGood 62 = .ok (.iconst 0, 1) := by decide +kernel
theorem dX4_isGood_63 : decode cX4_isGood 63 = .ok (.ireturn, 1) := by decide +kernel
set_option maxRecDepth 20000 in
theorem ggX4_hasAuthority_X1_hasEnded : GoodIn wsX4_hasAuthority wsX1_hasEnded := goodIn_r _ [8, 9, 46, 47, 48, 49, 50, 51, 52, 53, 54, 55] (by decide +kernel) (by decide +kernel)
set_option maxRecDepth 20000 in
theorem gX4_hasAuthority_X1_hasEnded : GoodIn wsX4_hasAuthority (wsV RX4 193 RX1 yX1_hasEnded wsX1_hasEnded) := goodIn_app (goodIn_of _ (by decide +kernel)) ggX4_hasAuthority_X1_hasEnded
set_option maxRecDepth 20000 in
theorem ggX4_hasAuthority_X1_covers : GoodIn wsX4_hasAuthority wsX1_covers := goodIn_r _ [13, 14, 15, 16, 17, 18, 19, 20, 21, 7, 22, 23, 24, 25, 26, 27, 28, 29, 30, 31, 32, 33, 46, 47, 48, 49, 50, 51, 52, 53, 54, 55, 56, 57, 58, 59] (by decide +kernel) (by decide +kernel)
set_option maxRecDepth 20000 in
theorem gX4_hasAuthority_X1_covers : GoodIn wsX4_hasAuthority (wsV RX4 164 RX1 yX1_covers wsX1_covers) := goodIn_app (goodIn_of _ (by decide +kernel)) ggX4_hasAuthority_X1_covers
theorem dX4_hasAuthority_0 : decode cX4_hasAuthority 0 = .ok (.iconst 0, 1) := by decide +kernel
theorem dX4_hasAuthority_1 : decode cX4_hasAuthority 1 = .ok (.istore 4, 2) := by decide +kernel
theorem dX4_hasAuthority_3 : decode cX4_hasAuthority 3 = .ok (.iload 4, 2) := by decide +kernel
theorem dX4_hasAuthority_5 : decode cX4_hasAuthority 5 = .ok (.aload_n 0, 1) := by decide +kernel
theorem dX4_hasAuthority_6 : decode cX4_hasAuthority 6 = .ok (.getfield 47, 3) := by decide +kernel
theorem dX4_hasAuthority_9 : decode cX4_hasAuthority 9 = .ok (.if_icmp .ge 60, 3) := by decide +kernel
theorem dX4_hasAuthority_12 : decode cX4_hasAuthority 12 = .ok (.aload_n 0, 1) := by decide +kernel
theorem dX4_hasAuthority_13 : decode cX4_hasAuthority 13 = .ok (.getfield 11, 3) := by decide +kernel
theorem dX4_hasAuthority_16 : decode cX4_hasAuthority 16 = .ok (.iload 4, 2) := by decide +kernel
theorem dX4_hasAuthority_18 : decode cX4_hasAuthority 18 = .ok (.aaload, 1) := by decide +kernel
theorem dX4_hasAuthority_19 : decode cX4_hasAuthority 19 = .ok (.astore 5, 2) := by decide +kernel
theorem dX4_hasAuthority_21 : decode cX4_hasAuthority 21 = .ok (.aload 5, 2) := by decide +kernel
theorem dX4_hasAuthority_23 : decode cX4_hasAuthority 23 = .ok (.getfield 155, 3) := by decide +kernel
theorem dX4_hasAuthority_26 : decode cX4_hasAuthority 26 = .ok (.iconst 2, 1) := by decide +kernel
theorem dX4_hasAuthority_27 : decode cX4_hasAuthority 27 = .ok (.if_icmp .ne 36, 3) := by decide +kernel
theorem dX4_hasAuthority_30 : decode cX4_hasAuthority 30 = .ok (.aload 5, 2) := by decide +kernel
theorem dX4_hasAuthority_32 : decode cX4_hasAuthority 32 = .ok (.getfield 65, 3) := by decide +kernel
theorem dX4_hasAuthority_35 : decode cX4_hasAuthority 35 = .ok (.iload_n 1, 1) := by decide +kernel
theorem dX4_hasAuthority_36 : decode cX4_hasAuthority 36 = .ok (.if_icmp .ne 27, 3) := by decide +kernel
theorem dX4_hasAuthority_39 : decode cX4_hasAuthority 39 = .ok (.aload 5, 2) := by decide +kernel
theorem dX4_hasAuthority_41 : decode cX4_hasAuthority 41 = .ok (.aload_n 0, 1) := by decide +kernel
theorem dX4_hasAuthority_42 : decode cX4_hasAuthority 42 = .ok (.getfield 146, 3) := by decide +kernel
theorem dX4_hasAuthority_45 : decode cX4_hasAuthority 45 = .ok (.invokevirtual 193, 3) := by decide +kernel
theorem dX4_hasAuthority_48 : decode cX4_hasAuthority 48 = .ok (.ifCond .ne 15, 3) := by decide +kernel
theorem dX4_hasAuthority_51 : decode cX4_hasAuthority 51 = .ok (.aload 5, 2) := by decide +kernel
theorem dX4_hasAuthority_53 : decode cX4_hasAuthority 53 = .ok (.iload_n 2, 1) := by decide +kernel
theorem dX4_hasAuthority_54 : decode cX4_hasAuthority 54 = .ok (.iload_n 3, 1) := by decide +kernel
theorem dX4_hasAuthority_55 : decode cX4_hasAuthority 55 = .ok (.invokevirtual 164, 3) := by decide +kernel
theorem dX4_hasAuthority_58 : decode cX4_hasAuthority 58 = .ok (.ifCond .eq 5, 3) := by decide +kernel
theorem dX4_hasAuthority_61 : decode cX4_hasAuthority 61 = .ok (.iconst 1, 1) := by decide +kernel
theorem dX4_hasAuthority_62 : decode cX4_hasAuthority 62 = .ok (.ireturn, 1) := by decide +kernel
theorem dX4_hasAuthority_63 : decode cX4_hasAuthority 63 = .ok (.iinc 4 1, 3) := by decide +kernel
theorem dX4_hasAuthority_66 : decode cX4_hasAuthority 66 = .ok (.goto (-63), 3) := by decide +kernel
theorem dX4_hasAuthority_69 : decode cX4_hasAuthority 69 = .ok (.iconst 0, 1) := by decide +kernel
theorem dX4_hasAuthority_70 : decode cX4_hasAuthority 70 = .ok (.ireturn, 1) := by decide +kernel
set_option maxRecDepth 20000 in
theorem ggX4_isInRevokedSpan_X3_holds : GoodIn wsX4_isInRevokedSpan wsX3_holds := goodIn_r _ [7, 8, 9, 10, 30, 31, 32] (by decide +kernel) (by decide +kernel)
set_option maxRecDepth 20000 in
theorem gX4_isInRevokedSpan_X3_holds : GoodIn wsX4_isInRevokedSpan (wsV RX4 248 RX3 yX3_holds wsX3_holds) := goodIn_app (goodIn_of _ (by decide +kernel)) ggX4_isInRevokedSpan_X3_holds
theorem dX4_isInRevokedSpan_0 : decode cX4_isInRevokedSpan 0 = .ok (.iconst 0, 1) := by decide +kernel
theorem dX4_isInRevokedSpan_1 : decode cX4_isInRevokedSpan 1 = .ok (.istore_n 2, 1) := by decide +kernel
theorem dX4_isInRevokedSpan_2 : decode cX4_isInRevokedSpan 2 = .ok (.iload_n 2, 1) := by decide +kernel
theorem dX4_isInRevokedSpan_3 : decode cX4_isInRevokedSpan 3 = .ok (.aload_n 0, 1) := by decide +kernel
theorem dX4_isInRevokedSpan_4 : decode cX4_isInRevokedSpan 4 = .ok (.getfield 84, 3) := by decide +kernel
theorem dX4_isInRevokedSpan_7 : decode cX4_isInRevokedSpan 7 = .ok (.if_icmp .ge 31, 3) := by decide +kernel
theorem dX4_isInRevokedSpan_10 : decode cX4_isInRevokedSpan 10 = .ok (.aload_n 0, 1) := by decide +kernel
theorem dX4_isInRevokedSpan_11 : decode cX4_isInRevokedSpan 11 = .ok (.getfield 23, 3) := by decide +kernel
theorem dX4_isInRevokedSpan_14 : decode cX4_isInRevokedSpan 14 = .ok (.iload_n 2, 1) := by decide +kernel
theorem dX4_isInRevokedSpan_15 : decode cX4_isInRevokedSpan 15 = .ok (.aaload, 1) := by decide +kernel
theorem dX4_isInRevokedSpan_16 : decode cX4_isInRevokedSpan 16 = .ok (.aload_n 1, 1) := by decide +kernel
theorem dX4_isInRevokedSpan_17 : decode cX4_isInRevokedSpan 17 = .ok (.getfield 219, 3) := by decide +kernel
theorem dX4_isInRevokedSpan_20 : decode cX4_isInRevokedSpan 20 = .ok (.aload_n 1, 1) := by decide +kernel
theorem dX4_isInRevokedSpan_21 : decode cX4_isInRevokedSpan 21 = .ok (.getfield 245, 3) := by decide +kernel
theorem dX4_isInRevokedSpan_24 : decode cX4_isInRevokedSpan 24 = .ok (.invokevirtual 248, 3) := by decide +kernel
theorem dX4_isInRevokedSpan_27 : decode cX4_isInRevokedSpan 27 = .ok (.ifCond .eq 5, 3) := by decide +kernel
theorem dX4_isInRevokedSpan_30 : decode cX4_isInRevokedSpan 30 = .ok (.iconst 1, 1) := by decide +kernel
theorem dX4_isInRevokedSpan_31 : decode cX4_isInRevokedSpan 31 = .ok (.ireturn, 1) := by decide +kernel
theorem dX4_isInRevokedSpan_32 : decode cX4_isInRevokedSpan 32 = .ok (.iinc 2 1, 3) := by decide +kernel
theorem dX4_isInRevokedSpan_35 : decode cX4_isInRevokedSpan 35 = .ok (.goto (-33), 3) := by decide +kernel
theorem dX4_isInRevokedSpan_38 : decode cX4_isInRevokedSpan 38 = .ok (.iconst 0, 1) := by decide +kernel
theorem dX4_isInRevokedSpan_39 : decode cX4_isInRevokedSpan 39 = .ok (.ireturn, 1) := by decide +kernel
set_option maxRecDepth 20000 in
theorem ggX4_countRevokedCertificates_X4_isInRevokedSpan : GoodIn wsX4_countRevokedCertificates wsX4_isInRevokedSpan := goodIn_r _ [7, 8, 9, 10, 11, 12, 13, 14, 15, 16, 17, 18, 19, 20, 21, 22, 23, 24, 25, 26, 27, 28, 29, 30, 31, 32, 33, 34, 35, 36, 37, 38, 39] (by decide +kernel) (by decide +kernel)
set_option maxRecDepth 20000 in
theorem gX4_countRevokedCertificates_X4_isInRevokedSpan : GoodIn wsX4_countRevokedCertificates (wsV RX4 238 RX4 yX4_isInRevokedSpan wsX4_isInRevokedSpan) := goodIn_app (goodIn_of _ (by decide +kernel)) ggX4_countRevokedCertificates_X4_isInRevokedSpan
theorem dX4_countRevokedCertificates_0 : decode cX4_countRevokedCertificates 0 = .ok (.iconst 0, 1) := by decide +kernel
theorem dX4_countRevokedCertificates_1 : decode cX4_countRevokedCertificates 1 = .ok (.istore_n 1, 1) := by decide +kernel
theorem dX4_countRevokedCertificates_2 : decode cX4_countRevokedCertificates 2 = .ok (.iconst 0, 1) := by decide +kernel
theorem dX4_countRevokedCertificates_3 : decode cX4_countRevokedCertificates 3 = .ok (.istore_n 2, 1) := by decide +kernel
theorem dX4_countRevokedCertificates_4 : decode cX4_countRevokedCertificates 4 = .ok (.iload_n 2, 1) := by decide +kernel
theorem dX4_countRevokedCertificates_5 : decode cX4_countRevokedCertificates 5 = .ok (.aload_n 0, 1) := by decide +kernel
theorem dX4_countRevokedCertificates_6 : decode cX4_countRevokedCertificates 6 = .ok (.getfield 71, 3) := by decide +kernel
theorem dX4_countRevokedCertificates_9 : decode cX4_countRevokedCertificates 9 = .ok (.if_icmp .ge 25, 3) := by decide +kernel
theorem dX4_countRevokedCertificates_12 : decode cX4_countRevokedCertificates 12 = .ok (.aload_n 0, 1) := by decide +kernel
theorem dX4_countRevokedCertificates_13 : decode cX4_countRevokedCertificates 13 = .ok (.aload_n 0, 1) := by decide +kernel
theorem dX4_countRevokedCertificates_14 : decode cX4_countRevokedCertificates 14 = .ok (.getfield 17, 3) := by decide +kernel
theorem dX4_countRevokedCertificates_17 : decode cX4_countRevokedCertificates 17 = .ok (.iload_n 2, 1) := by decide +kernel
theorem dX4_countRevokedCertificates_18 : decode cX4_countRevokedCertificates 18 = .ok (.aaload, 1) := by decide +kernel
theorem dX4_countRevokedCertificates_19 : decode cX4_countRevokedCertificates 19 = .ok (.invokevirtual 238, 3) := by decide +kernel
theorem dX4_countRevokedCertificates_22 : decode cX4_countRevokedCertificates 22 = .ok (.ifCond .eq 6, 3) := by decide +kernel
theorem dX4_countRevokedCertificates_25 : decode cX4_countRevokedCertificates 25 = .ok (.iinc 1 1, 3) := by decide +kernel
theorem dX4_countRevokedCertificates_28 : decode cX4_countRevokedCertificates 28 = .ok (.iinc 2 1, 3) := by decide +kernel
theorem dX4_countRevokedCertificates_31 : decode cX4_countRevokedCertificates 31 = .ok (.goto (-27), 3) := by decide +kernel
theorem dX4_countRevokedCertificates_34 : decode cX4_countRevokedCertificates 34 = .ok (.iload_n 1, 1) := by decide +kernel
theorem dX4_countRevokedCertificates_35 : decode cX4_countRevokedCertificates 35 = .ok (.ireturn, 1) := by decide +kernel
theorem dX4_isSameAt_0 : decode cX4_isSameAt 0 = .ok (.iload_n 1, 1) := by decide +kernel
theorem dX4_isSameAt_1 : decode cX4_isSameAt 1 = .ok (.istore_n 3, 1) := by decide +kernel
theorem dX4_isSameAt_2 : decode cX4_isSameAt 2 = .ok (.iload_n 2, 1) := by decide +kernel
theorem dX4_isSameAt_3 : decode cX4_isSameAt 3 = .ok (.istore 4, 2) := by decide +kernel
theorem dX4_isSameAt_5 : decode cX4_isSameAt 5 = .ok (.iconst 3, 1) := by decide +kernel
theorem dX4_isSameAt_6 : decode cX4_isSameAt 6 = .ok (.istore 5, 2) := by decide +kernel
theorem dX4_isSameAt_8 : decode cX4_isSameAt 8 = .ok (.iload 5, 2) := by decide +kernel
theorem dX4_isSameAt_10 : decode cX4_isSameAt 10 = .ok (.ifCond .lt 57, 3) := by decide +kernel
theorem dX4_isSameAt_13 : decode cX4_isSameAt 13 = .ok (.iload_n 0, 1) := by decide +kernel
theorem dX4_isSameAt_14 : decode cX4_isSameAt 14 = .ok (.iload 5, 2) := by decide +kernel
theorem dX4_isSameAt_16 : decode cX4_isSameAt 16 = .ok (.ishr, 1) := by decide +kernel
theorem dX4_isSameAt_17 : decode cX4_isSameAt 17 = .ok (.iconst 1, 1) := by decide +kernel
theorem dX4_isSameAt_18 : decode cX4_isSameAt 18 = .ok (.iand, 1) := by decide +kernel
theorem dX4_isSameAt_19 : decode cX4_isSameAt 19 = .ok (.iconst 1, 1) := by decide +kernel
theorem dX4_isSameAt_20 : decode cX4_isSameAt 20 = .ok (.if_icmp .ne 7, 3) := by decide +kernel
theorem dX4_isSameAt_23 : decode cX4_isSameAt 23 = .ok (.iconst 1, 1) := by decide +kernel
theorem dX4_isSameAt_24 : decode cX4_isSameAt 24 = .ok (.goto 4, 3) := by decide +kernel
theorem dX4_isSameAt_27 : decode cX4_isSameAt 27 = .ok (.iconst 0, 1) := by decide +kernel
theorem dX4_isSameAt_28 : decode cX4_isSameAt 28 = .ok (.istore 6, 2) := by decide +kernel
theorem dX4_isSameAt_30 : decode cX4_isSameAt 30 = .ok (.iload 6, 2) := by decide +kernel
theorem dX4_isSameAt_32 : decode cX4_isSameAt 32 = .ok (.ifCond .eq 17, 3) := by decide +kernel
theorem dX4_isSameAt_35 : decode cX4_isSameAt 35 = .ok (.iload_n 3, 1) := by decide +kernel
theorem dX4_isSameAt_36 : decode cX4_isSameAt 36 = .ok (.bipush 10, 2) := by decide +kernel
theorem dX4_isSameAt_38 : decode cX4_isSameAt 38 = .ok (.irem, 1) := by decide +kernel
theorem dX4_isSameAt_39 : decode cX4_isSameAt 39 = .ok (.iload 4, 2) := by decide +kernel
theorem dX4_isSameAt_41 : decode cX4_isSameAt 41 = .ok (.bipush 10, 2) := by decide +kernel
theorem dX4_isSameAt_43 : decode cX4_isSameAt 43 = .ok (.irem, 1) := by decide +kernel
theorem dX4_isSameAt_44 : decode cX4_isSameAt 44 = .ok (.if_icmp .eq 5, 3) := by decide +kernel
theorem dX4_isSameAt_47 : decode cX4_isSameAt 47 = .ok (.iconst 0, 1) := by decide +kernel
theorem dX4_isSameAt_48 : decode cX4_isSameAt 48 = .ok (.ireturn, 1) := by decide +kernel
theorem dX4_isSameAt_49 : decode cX4_isSameAt 49 = .ok (.iload_n 3, 1) := by decide +kernel
theorem dX4_isSameAt_50 : decode cX4_isSameAt 50 = .ok (.bipush 10, 2) := by decide +kernel
theorem dX4_isSameAt_52 : decode cX4_isSameAt 52 = .ok (.idiv, 1) := by decide +kernel
theorem dX4_isSameAt_53 : decode cX4_isSameAt 53 = .ok (.istore_n 3, 1) := by decide +kernel
theorem dX4_isSameAt_54 : decode cX4_isSameAt 54 = .ok (.iload 4, 2) := by decide +kernel
theorem dX4_isSameAt_56 : decode cX4_isSameAt 56 = .ok (.bipush 10, 2) := by decide +kernel
theorem dX4_isSameAt_58 : decode cX4_isSameAt 58 = .ok (.idiv, 1) := by decide +kernel
theorem dX4_isSameAt_59 : decode cX4_isSameAt 59 = .ok (.istore 4, 2) := by decide +kernel
theorem dX4_isSameAt_61 : decode cX4_isSameAt 61 = .ok (.iinc 5 (-1), 3) := by decide +kernel
theorem dX4_isSameAt_64 : decode cX4_isSameAt 64 = .ok (.goto (-56), 3) := by decide +kernel
theorem dX4_isSameAt_67 : decode cX4_isSameAt 67 = .ok (.iconst 1, 1) := by decide +kernel
theorem dX4_isSameAt_68 : decode cX4_isSameAt 68 = .ok (.ireturn, 1) := by decide +kernel
theorem dJ9_min_7cf53_0 : decode cJ9_min_7cf53 0 = .ok (.iload_n 0, 1) := by decide +kernel
theorem dJ9_min_7cf53_1 : decode cJ9_min_7cf53 1 = .ok (.iload_n 1, 1) := by decide +kernel
theorem dJ9_min_7cf53_2 : decode cJ9_min_7cf53 2 = .ok (.if_icmp .gt 7, 3) := by decide +kernel
theorem dJ9_min_7cf53_5 : decode cJ9_min_7cf53 5 = .ok (.iload_n 0, 1) := by decide +kernel
theorem dJ9_min_7cf53_6 : decode cJ9_min_7cf53 6 = .ok (.goto 4, 3) := by decide +kernel
theorem dJ9_min_7cf53_9 : decode cJ9_min_7cf53 9 = .ok (.iload_n 1, 1) := by decide +kernel
theorem dJ9_min_7cf53_10 : decode cJ9_min_7cf53 10 = .ok (.ireturn, 1) := by decide +kernel
