theorem dX0_init_0 : decode cX0_init 0 = .ok (.aload_n 0, 1) := by decide +kernel
theorem dX0_init_1 : decode cX0_init 1 = .ok (.invokespecial 1, 3) := by decide +kernel
theorem dX0_init_4 : decode cX0_init 4 = .ok (.aload_n 0, 1) := by decide +kernel
theorem dX0_init_5 : decode cX0_init 5 = .ok (.iload_n 1, 1) := by decide +kernel
theorem dX0_init_6 : decode cX0_init 6 = .ok (.putfield 7, 3) := by decide +kernel
theorem dX0_init_9 : decode cX0_init 9 = .ok (.aload_n 0, 1) := by decide +kernel
theorem dX0_init_10 : decode cX0_init 10 = .ok (.iload_n 2, 1) := by decide +kernel
theorem dX0_init_11 : decode cX0_init 11 = .ok (.putfield 13, 3) := by decide +kernel
theorem dX0_init_14 : decode cX0_init 14 = .ok (.aload_n 0, 1) := by decide +kernel
theorem dX0_init_15 : decode cX0_init 15 = .ok (.iload_n 3, 1) := by decide +kernel
theorem dX0_init_16 : decode cX0_init 16 = .ok (.putfield 16, 3) := by decide +kernel
theorem dX0_init_19 : decode cX0_init 19 = .ok (.aload_n 0, 1) := by decide +kernel
theorem dX0_init_20 : decode cX0_init 20 = .ok (.iload 4, 2) := by decide +kernel
theorem dX0_init_22 : decode cX0_init 22 = .ok (.putfield 19, 3) := by decide +kernel
theorem dX0_init_25 : decode cX0_init 25 = .ok (.aload_n 0, 1) := by decide +kernel
theorem dX0_init_26 : decode cX0_init 26 = .ok (.iload 5, 2) := by decide +kernel
theorem dX0_init_28 : decode cX0_init 28 = .ok (.putfield 22, 3) := by decide +kernel
theorem dX0_init_31 : decode cX0_init 31 = .ok (.aload_n 0, 1) := by decide +kernel
theorem dX0_init_32 : decode cX0_init 32 = .ok (.iload 6, 2) := by decide +kernel
theorem dX0_init_34 : decode cX0_init 34 = .ok (.putfield 25, 3) := by decide +kernel
theorem dX0_init_37 : decode cX0_init 37 = .ok (.aload_n 0, 1) := by decide +kernel
theorem dX0_init_38 : decode cX0_init 38 = .ok (.iload 7, 2) := by decide +kernel
theorem dX0_init_40 : decode cX0_init 40 = .ok (.putfield 28, 3) := by decide +kernel
theorem dX0_init_43 : decode cX0_init 43 = .ok (.return_, 1) := by decide +kernel
theorem dX1_init_0 : decode cX1_init 0 = .ok (.aload_n 0, 1) := by decide +kernel
theorem dX1_init_1 : decode cX1_init 1 = .ok (.invokespecial 3, 3) := by decide +kernel
theorem dX1_init_4 : decode cX1_init 4 = .ok (.aload_n 0, 1) := by decide +kernel
theorem dX1_init_5 : decode cX1_init 5 = .ok (.iconst 4, 1) := by decide +kernel
theorem dX1_init_6 : decode cX1_init 6 = .ok (.anewarray 9, 3) := by decide +kernel
theorem dX1_init_9 : decode cX1_init 9 = .ok (.putfield 11, 3) := by decide +kernel
theorem dX1_init_12 : decode cX1_init 12 = .ok (.return_, 1) := by decide +kernel
theorem dX1_begin_0 : decode cX1_begin 0 = .ok (.aload_n 0, 1) := by decide +kernel
theorem dX1_begin_1 : decode cX1_begin 1 = .ok (.iload_n 1, 1) := by decide +kernel
theorem dX1_begin_2 : decode cX1_begin 2 = .ok (.putfield 17, 3) := by decide +kernel
theorem dX1_begin_5 : decode cX1_begin 5 = .ok (.aload_n 0, 1) := by decide +kernel
theorem dX1_begin_6 : decode cX1_begin 6 = .ok (.iload_n 2, 1) := by decide +kernel
theorem dX1_begin_7 : decode cX1_begin 7 = .ok (.putfield 21, 3) := by decide +kernel
theorem dX1_begin_10 : decode cX1_begin 10 = .ok (.aload_n 0, 1) := by decide +kernel
theorem dX1_begin_11 : decode cX1_begin 11 = .ok (.iload_n 3, 1) := by decide +kernel
theorem dX1_begin_12 : decode cX1_begin 12 = .ok (.putfield 24, 3) := by decide +kernel
theorem dX1_begin_15 : decode cX1_begin 15 = .ok (.aload_n 0, 1) := by decide +kernel
theorem dX1_begin_16 : decode cX1_begin 16 = .ok (.iconst (-1), 1) := by decide +kernel
theorem dX1_begin_17 : decode cX1_begin 17 = .ok (.putfield 27, 3) := by decide +kernel
theorem dX1_begin_20 : decode cX1_begin 20 = .ok (.aload_n 0, 1) := by decide +kernel
theorem dX1_begin_21 : decode cX1_begin 21 = .ok (.iconst 0, 1) := by decide +kernel
theorem dX1_begin_22 : decode cX1_begin 22 = .ok (.putfield 30, 3) := by decide +kernel
theorem dX1_begin_25 : decode cX1_begin 25 = .ok (.aload_n 0, 1) := by decide +kernel
theorem dX1_begin_26 : decode cX1_begin 26 = .ok (.iconst 0, 1) := by decide +kernel
theorem dX1_begin_27 : decode cX1_begin 27 = .ok (.putfield 33, 3) := by decide +kernel
theorem dX1_begin_30 : decode cX1_begin 30 = .ok (.return_, 1) := by decide +kernel
set_option maxRecDepth 20000 in
theorem ggX1_takePattern_X2_init : GoodIn wsX1_takePattern wsX2_init := goodIn_r _ [11, 12, 13, 14, 15, 16, 17, 18, 29, 30, 31, 32] (by decide +kernel) (by decide +kernel)
set_option maxRecDepth 20000 in
theorem gX1_takePattern_X2_init : GoodIn wsX1_takePattern (wsX2_init) := ggX1_takePattern_X2_init
theorem dX1_takePattern_0 : decode cX1_takePattern 0 = .ok (.aload_n 0, 1) := by decide +kernel
theorem dX1_takePattern_1 : decode cX1_takePattern 1 = .ok (.getfield 33, 3) := by decide +kernel
theorem dX1_takePattern_4 : decode cX1_takePattern 4 = .ok (.ifCond .ne 11, 3) := by decide +kernel
theorem dX1_takePattern_7 : decode cX1_takePattern 7 = .ok (.aload_n 0, 1) := by decide +kernel
theorem dX1_takePattern_8 : decode cX1_takePattern 8 = .ok (.getfield 30, 3) := by decide +kernel
theorem dX1_takePattern_11 : decode cX1_takePattern 11 = .ok (.iconst 4, 1) := by decide +kernel
theorem dX1_takePattern_12 : decode cX1_takePattern 12 = .ok (.if_icmp .lt 13, 3) := by decide +kernel
theorem dX1_takePattern_15 : decode cX1_takePattern 15 = .ok (.new 37, 3) := by decide +kernel
theorem dX1_takePattern_18 : decode cX1_takePattern 18 = .ok (.dup, 1) := by decide +kernel
theorem dX1_takePattern_19 : decode cX1_takePattern 19 = .ok (.ldc 39, 2) := by decide +kernel
theorem dX1_takePattern_21 : decode cX1_takePattern 21 = .ok (.invokespecial 41, 3) := by decide +kernel
theorem dX1_takePattern_24 : decode cX1_takePattern 24 = .ok (.athrow, 1) := by decide +kernel
theorem dX1_takePattern_25 : decode cX1_takePattern 25 = .ok (.aload_n 0, 1) := by decide +kernel
theorem dX1_takePattern_26 : decode cX1_takePattern 26 = .ok (.getfield 11, 3) := by decide +kernel
theorem dX1_takePattern_29 : decode cX1_takePattern 29 = .ok (.aload_n 0, 1) := by decide +kernel
theorem dX1_takePattern_30 : decode cX1_takePattern 30 = .ok (.getfield 30, 3) := by decide +kernel
theorem dX1_takePattern_33 : decode cX1_takePattern 33 = .ok (.new 9, 3) := by decide +kernel
theorem dX1_takePattern_36 : decode cX1_takePattern 36 = .ok (.dup, 1) := by decide +kernel
theorem dX1_takePattern_37 : decode cX1_takePattern 37 = .ok (.iload_n 1, 1) := by decide +kernel
theorem dX1_takePattern_38 : decode cX1_takePattern 38 = .ok (.iload_n 2, 1) := by decide +kernel
theorem dX1_takePattern_39 : decode cX1_takePattern 39 = .ok (.iload_n 3, 1) := by decide +kernel
theorem dX1_takePattern_40 : decode cX1_takePattern 40 = .ok (.iload 4, 2) := by decide +kernel
theorem dX1_takePattern_42 : decode cX1_takePattern 42 = .ok (.invokespecial 44, 3) := by decide +kernel
theorem dX1_takePattern_45 : decode cX1_takePattern 45 = .ok (.aastore, 1) := by decide +kernel
theorem dX1_takePattern_46 : decode cX1_takePattern 46 = .ok (.aload_n 0, 1) := by decide +kernel
theorem dX1_takePattern_47 : decode cX1_takePattern 47 = .ok (.dup, 1) := by decide +kernel
theorem dX1_takePattern_48 : decode cX1_takePattern 48 = .ok (.getfield 30, 3) := by decide +kernel
theorem dX1_takePattern_51 : decode cX1_takePattern 51 = .ok (.iconst 1, 1) := by decide +kernel
theorem dX1_takePattern_52 : decode cX1_takePattern 52 = .ok (.iadd, 1) := by decide +kernel
theorem dX1_takePattern_53 : decode cX1_takePattern 53 = .ok (.putfield 30, 3) := by decide +kernel
theorem dX1_takePattern_56 : decode cX1_takePattern 56 = .ok (.aload_n 0, 1) := by decide +kernel
theorem dX1_takePattern_57 : decode cX1_takePattern 57 = .ok (.getfield 30, 3) := by decide +kernel
theorem dX1_takePattern_60 : decode cX1_takePattern 60 = .ok (.ireturn, 1) := by decide +kernel
set_option maxRecDepth 20000 in
theorem ggX1_takeHash_X1_hashOf : GoodIn wsX1_takeHash wsX1_hashOf := goodIn_r _ [8] (by decide +kernel) (by decide +kernel)
set_option maxRecDepth 20000 in
theorem gX1_takeHash_X1_hashOf : GoodIn wsX1_takeHash (va_wsS RX1 47 yX1_hashOf wsX1_hashOf) := goodIn_app (goodIn_of _ (by decide +kernel)) ggX1_takeHash_X1_hashOf
theorem dX1_takeHash_0 : decode cX1_takeHash 0 = .ok (.aload_n 0, 1) := by decide +kernel
theorem dX1_takeHash_1 : decode cX1_takeHash 1 = .ok (.iconst 1, 1) := by decide +kernel
theorem dX1_takeHash_2 : decode cX1_takeHash 2 = .ok (.putfield 33, 3) := by decide +kernel
theorem dX1_takeHash_5 : decode cX1_takeHash 5 = .ok (.aload_n 0, 1) := by decide +kernel
theorem dX1_takeHash_6 : decode cX1_takeHash 6 = .ok (.iload_n 1, 1) := by decide +kernel
theorem dX1_takeHash_7 : decode cX1_takeHash 7 = .ok (.iload_n 3, 1) := by decide +kernel
theorem dX1_takeHash_8 : decode cX1_takeHash 8 = .ok (.invokestatic 47, 3) := by decide +kernel
theorem dX1_takeHash_11 : decode cX1_takeHash 11 = .ok (.putfield 51, 3) := by decide +kernel
theorem dX1_takeHash_14 : decode cX1_takeHash 14 = .ok (.aload_n 0, 1) := by decide +kernel
theorem dX1_takeHash_15 : decode cX1_takeHash 15 = .ok (.iload_n 3, 1) := by decide +kernel
theorem dX1_takeHash_16 : decode cX1_takeHash 16 = .ok (.putfield 54, 3) := by decide +kernel
theorem dX1_takeHash_19 : decode cX1_takeHash 19 = .ok (.aload_n 0, 1) := by decide +kernel
theorem dX1_takeHash_20 : decode cX1_takeHash 20 = .ok (.iload_n 2, 1) := by decide +kernel
theorem dX1_takeHash_21 : decode cX1_takeHash 21 = .ok (.putfield 57, 3) := by decide +kernel
theorem dX1_takeHash_24 : decode cX1_takeHash 24 = .ok (.return_, 1) := by decide +kernel
theorem dX1_takeMatching_0 : decode cX1_takeMatching 0 = .ok (.aload_n 0, 1) := by decide +kernel
theorem dX1_takeMatching_1 : decode cX1_takeMatching 1 = .ok (.aload_n 1, 1) := by decide +kernel
theorem dX1_takeMatching_2 : decode cX1_takeMatching 2 = .ok (.getfield 30, 3) := by decide +kernel
theorem dX1_takeMatching_5 : decode cX1_takeMatching 5 = .ok (.putfield 30, 3) := by decide +kernel
theorem dX1_takeMatching_8 : decode cX1_takeMatching 8 = .ok (.iconst 0, 1) := by decide +kernel
theorem dX1_takeMatching_9 : decode cX1_takeMatching 9 = .ok (.istore_n 2, 1) := by decide +kernel
theorem dX1_takeMatching_10 : decode cX1_takeMatching 10 = .ok (.iload_n 2, 1) := by decide +kernel
theorem dX1_takeMatching_11 : decode cX1_takeMatching 11 = .ok (.aload_n 0, 1) := by decide +kernel
theorem dX1_takeMatching_12 : decode cX1_takeMatching 12 = .ok (.getfield 30, 3) := by decide +kernel
theorem dX1_takeMatching_15 : decode cX1_takeMatching 15 = .ok (.if_icmp .ge 21, 3) := by decide +kernel
theorem dX1_takeMatching_18 : decode cX1_takeMatching 18 = .ok (.aload_n 0, 1) := by decide +kernel
theorem dX1_takeMatching_19 : decode cX1_takeMatching 19 = .ok (.getfield 11, 3) := by decide +kernel
theorem dX1_takeMatching_22 : decode cX1_takeMatching 22 = .ok (.iload_n 2, 1) := by decide +kernel
theorem dX1_takeMatching_23 : decode cX1_takeMatching 23 = .ok (.aload_n 1, 1) := by decide +kernel
theorem dX1_takeMatching_24 : decode cX1_takeMatching 24 = .ok (.getfield 11, 3) := by decide +kernel
theorem dX1_takeMatching_27 : decode cX1_takeMatching 27 = .ok (.iload_n 2, 1) := by decide +kernel
theorem dX1_takeMatching_28 : decode cX1_takeMatching 28 = .ok (.aaload, 1) := by decide +kernel
theorem dX1_takeMatching_29 : decode cX1_takeMatching 29 = .ok (.aastore, 1) := by decide +kernel
theorem dX1_takeMatching_30 : decode cX1_takeMatching 30 = .ok (.iinc 2 1, 3) := by decide +kernel
theorem dX1_takeMatching_33 : decode cX1_takeMatching 33 = .ok (.goto (-23), 3) := by decide +kernel
theorem dX1_takeMatching_36 : decode cX1_takeMatching 36 = .ok (.aload_n 0, 1) := by decide +kernel
theorem dX1_takeMatching_37 : decode cX1_takeMatching 37 = .ok (.aload_n 1, 1) := by decide +kernel
theorem dX1_takeMatching_38 : decode cX1_takeMatching 38 = .ok (.getfield 33, 3) := by decide +kernel
theorem dX1_takeMatching_41 : decode cX1_takeMatching 41 = .ok (.putfield 33, 3) := by decide +kernel
theorem dX1_takeMatching_44 : decode cX1_takeMatching 44 = .ok (.aload_n 0, 1) := by decide +kernel
theorem dX1_takeMatching_45 : decode cX1_takeMatching 45 = .ok (.aload_n 1, 1) := by decide +kernel
theorem dX1_takeMatching_46 : decode cX1_takeMatching 46 = .ok (.getfield 51, 3) := by decide +kernel
theorem dX1_takeMatching_49 : decode cX1_takeMatching 49 = .ok (.putfield 51, 3) := by decide +kernel
theorem dX1_takeMatching_52 : decode cX1_takeMatching 52 = .ok (.aload_n 0, 1) := by decide +kernel
theorem dX1_takeMatching_53 : decode cX1_takeMatching 53 = .ok (.aload_n 1, 1) := by decide +kernel
theorem dX1_takeMatching_54 : decode cX1_takeMatching 54 = .ok (.getfield 54, 3) := by decide +kernel
theorem dX1_takeMatching_57 : decode cX1_takeMatching 57 = .ok (.putfield 54, 3) := by decide +kernel
theorem dX1_takeMatching_60 : decode cX1_takeMatching 60 = .ok (.aload_n 0, 1) := by decide +kernel
theorem dX1_takeMatching_61 : decode cX1_takeMatching 61 = .ok (.aload_n 1, 1) := by decide +kernel
theorem dX1_takeMatching_62 : decode cX1_takeMatching 62 = .ok (.getfield 57, 3) := by decide +kernel
theorem dX1_takeMatching_65 : decode cX1_takeMatching 65 = .ok (.putfield 57, 3) := by decide +kernel
theorem dX1_takeMatching_68 : decode cX1_takeMatching 68 = .ok (.return_, 1) := by decide +kernel
theorem dX1_endBy_0 : decode cX1_endBy 0 = .ok (.aload_n 0, 1) := by decide +kernel
theorem dX1_endBy_1 : decode cX1_endBy 1 = .ok (.getfield 27, 3) := by decide +kernel
theorem dX1_endBy_4 : decode cX1_endBy 4 = .ok (.iconst (-1), 1) := by decide +kernel
theorem dX1_endBy_5 : decode cX1_endBy 5 = .ok (.if_icmp .eq 11, 3) := by decide +kernel
theorem dX1_endBy_8 : decode cX1_endBy 8 = .ok (.aload_n 0, 1) := by decide +kernel
theorem dX1_endBy_9 : decode cX1_endBy 9 = .ok (.getfield 27, 3) := by decide +kernel
theorem dX1_endBy_12 : decode cX1_endBy 12 = .ok (.iload_n 1, 1) := by decide +kernel
theorem dX1_endBy_13 : decode cX1_endBy 13 = .ok (.if_icmp .le 8, 3) := by decide +kernel
theorem dX1_endBy_16 : decode cX1_endBy 16 = .ok (.aload_n 0, 1) := by decide +kernel
theorem dX1_endBy_17 : decode cX1_endBy 17 = .ok (.iload_n 1, 1) := by decide +kernel
theorem dX1_endBy_18 : decode cX1_endBy 18 = .ok (.putfield 27, 3) := by decide +kernel
theorem dX1_endBy_21 : decode cX1_endBy 21 = .ok (.return_, 1) := by decide +kernel
theorem dX1_hasEnded_0 : decode cX1_hasEnded 0 = .ok (.aload_n 0, 1) := by decide +kernel
theorem dX1_hasEnded_1 : decode cX1_hasEnded 1 = .ok (.getfield 27, 3) := by decide +kernel
theorem dX1_hasEnded_4 : decode cX1_hasEnded 4 = .ok (.iconst (-1), 1) := by decide +kernel
theorem dX1_hasEnded_5 : decode cX1_hasEnded 5 = .ok (.if_icmp .eq 15, 3) := by decide +kernel
theorem dX1_hasEnded_8 : decode cX1_hasEnded 8 = .ok (.iload_n 1, 1) := by decide +kernel
theorem dX1_hasEnded_9 : decode cX1_hasEnded 9 = .ok (.aload_n 0, 1) := by decide +kernel
theorem dX1_hasEnded_10 : decode cX1_hasEnded 10 = .ok (.getfield 27, 3) := by decide +kernel
theorem dX1_hasEnded_13 : decode cX1_hasEnded 13 = .ok (.if_icmp .lt 7, 3) := by decide +kernel
theorem dX1_hasEnded_16 : decode cX1_hasEnded 16 = .ok (.iconst 1, 1) := by decide +kernel
theorem dX1_hasEnded_17 : decode cX1_hasEnded 17 = .ok (.goto 4, 3) := by decide +kernel
theorem dX1_hasEnded_20 : decode cX1_hasEnded 20 = .ok (.iconst 0, 1) := by decide +kernel
theorem dX1_hasEnded_21 : decode cX1_hasEnded 21 = .ok (.ireturn, 1) := by decide +kernel
theorem dX1_hasEither_0 : decode cX1_hasEither 0 = .ok (.aload_n 0, 1) := by decide +kernel
theorem dX1_hasEither_1 : decode cX1_hasEither 1 = .ok (.getfield 21, 3) := by decide +kernel
theorem dX1_hasEither_4 : decode cX1_hasEither 4 = .ok (.iload_n 1, 1) := by decide +kernel
theorem dX1_hasEither_5 : decode cX1_hasEither 5 = .ok (.if_icmp .eq 11, 3) := by decide +kernel
theorem dX1_hasEither_8 : decode cX1_hasEither 8 = .ok (.aload_n 0, 1) := by decide +kernel
theorem dX1_hasEither_9 : decode cX1_hasEither 9 = .ok (.getfield 21, 3) := by decide +kernel
theorem dX1_hasEither_12 : decode cX1_hasEither 12 = .ok (.iload_n 2, 1) := by decide +kernel
theorem dX1_hasEither_13 : decode cX1_hasEither 13 = .ok (.if_icmp .ne 7, 3) := by decide +kernel
theorem dX1_hasEither_16 : decode cX1_hasEither 16 = .ok (.iconst 1, 1) := by decide +kernel
theorem dX1_hasEither_17 : decode cX1_hasEither 17 = .ok (.goto 4, 3) := by decide +kernel
theorem dX1_hasEither_20 : decode cX1_hasEither 20 = .ok (.iconst 0, 1) := by decide +kernel
theorem dX1_hasEither_21 : decode cX1_hasEither 21 = .ok (.ireturn, 1) := by decide +kernel
set_option maxRecDepth 20000 in
theorem ggX1_covers_X1_hashOf : GoodIn wsX1_covers wsX1_hashOf := goodIn_r _ [10] (by decide +kernel) (by decide +kernel)
set_option maxRecDepth 20000 in
theorem gX1_covers_X1_hashOf : GoodIn wsX1_covers (va_wsS RX1 47 yX1_hashOf wsX1_hashOf) := goodIn_app (goodIn_of _ (by decide +kernel)) ggX1_covers_X1_hashOf
set_option maxRecDepth 20000 in
theorem ggX1_covers_X2_fits : GoodIn wsX1_covers wsX2_fits := goodIn_r _ [15, 16, 17, 18, 19, 20, 21, 32, 33, 34, 35] (by decide +kernel) (by decide +kernel)
set_option maxRecDepth 20000 in
theorem gX1_covers_X2_fits : GoodIn wsX1_covers (wsV RX1 60 RX2 yX2_fits wsX2_fits) := goodIn_app (goodIn_of _ (by decide +kernel)) ggX1_covers_X2_fits
theorem dX1_covers_0 : decode cX1_covers 0 = .ok (.aload_n 0, 1) := by decide +kernel
theorem dX1_covers_1 : decode cX1_covers 1 = .ok (.getfield 33, 3) := by decide +kernel
theorem dX1_covers_4 : decode cX1_covers 4 = .ok (.ifCond .eq 32, 3) := by decide +kernel
theorem dX1_covers_7 : decode cX1_covers 7 = .ok (.iload_n 2, 1) := by decide +kernel
theorem dX1_covers_8 : decode cX1_covers 8 = .ok (.aload_n 0, 1) := by decide +kernel
theorem dX1_covers_9 : decode cX1_covers 9 = .ok (.getfield 57, 3) := by decide +kernel
theorem dX1_covers_12 : decode cX1_covers 12 = .ok (.if_icmp .ne 22, 3) := by decide +kernel
theorem dX1_covers_15 : decode cX1_covers 15 = .ok (.iload_n 1, 1) := by decide +kernel
theorem dX1_covers_16 : decode cX1_covers 16 = .ok (.aload_n 0, 1) := by decide +kernel
theorem dX1_covers_17 : decode cX1_covers 17 = .ok (.getfield 54, 3) := by decide +kernel
theorem dX1_covers_20 : decode cX1_covers 20 = .ok (.invokestatic 47, 3) := by decide +kernel
theorem dX1_covers_23 : decode cX1_covers 23 = .ok (.aload_n 0, 1) := by decide +kernel
theorem dX1_covers_24 : decode cX1_covers 24 = .ok (.getfield 51, 3) := by decide +kernel
theorem dX1_covers_27 : decode cX1_covers 27 = .ok (.if_icmp .ne 7, 3) := by decide +kernel
theorem dX1_covers_30 : decode cX1_covers 30 = .ok (.iconst 1, 1) := by decide +kernel
theorem dX1_covers_31 : decode cX1_covers 31 = .ok (.goto 4, 3) := by decide +kernel
theorem dX1_covers_34 : decode cX1_covers 34 = .ok (.iconst 0, 1) := by decide +kernel
theorem dX1_covers_35 : decode cX1_covers 35 = .ok (.ireturn, 1) := by decide +kernel
theorem dX1_covers_36 : decode cX1_covers 36 = .ok (.iconst 0, 1) := by decide +kernel
theorem dX1_covers_37 : decode cX1_covers 37 = .ok (.istore_n 3, 1) := by decide +kernel
theorem dX1_covers_38 : decode cX1_covers 38 = .ok (.iconst 0, 1) := by decide +kernel
theorem dX1_covers_39 : decode cX1_covers 39 = .ok (.istore 4, 2) := by decide +kernel
theorem dX1_covers_41 : decode cX1_covers 41 = .ok (.iload 4, 2) := by decide +kernel
theorem dX1_covers_43 : decode cX1_covers 43 = .ok (.aload_n 0, 1) := by decide +kernel
theorem dX1_covers_44 : decode cX1_covers 44 = .ok (.getfield 30, 3) := by decide +kernel
theorem dX1_covers_47 : decode cX1_covers 47 = .ok (.if_icmp .ge 40, 3) := by decide +kernel
theorem dX1_covers_50 : decode cX1_covers 50 = .ok (.aload_n 0, 1) := by decide +kernel
theorem dX1_covers_51 : decode cX1_covers 51 = .ok (.getfield 11, 3) := by decide +kernel
theorem dX1_covers_54 : decode cX1_covers 54 = .ok (.iload 4, 2) := by decide +kernel
theorem dX1_covers_56 : decode cX1_covers 56 = .ok (.aaload, 1) := by decide +kernel
theorem dX1_covers_57 : decode cX1_covers 57 = .ok (.astore 5, 2) := by decide +kernel
theorem dX1_covers_59 : decode cX1_covers 59 = .ok (.aload 5, 2) := by decide +kernel
theorem dX1_covers_61 : decode cX1_covers 61 = .ok (.iload_n 1, 1) := by decide +kernel
theorem dX1_covers_62 : decode cX1_covers 62 = .ok (.iload_n 2, 1) := by decide +kernel
theorem dX1_covers_63 : decode cX1_covers 63 = .ok (.invokevirtual 60, 3) := by decide +kernel
theorem dX1_covers_66 : decode cX1_covers 66 = .ok (.ifCond .eq 15, 3) := by decide +kernel
theorem dX1_covers_69 : decode cX1_covers 69 = .ok (.aload 5, 2) := by decide +kernel
theorem dX1_covers_71 : decode cX1_covers 71 = .ok (.getfield 64, 3) := by decide +kernel
theorem dX1_covers_74 : decode cX1_covers 74 = .ok (.ifCond .eq 5, 3) := by decide +kernel
theorem dX1_covers_77 : decode cX1_covers 77 = .ok (.iconst 0, 1) := by decide +kernel
theorem dX1_covers_78 : decode cX1_covers 78 = .ok (.ireturn, 1) := by decide +kernel
theorem dX1_covers_79 : decode cX1_covers 79 = .ok (.iconst 1, 1) := by decide +kernel
theorem dX1_covers_80 : decode cX1_covers 80 = .ok (.istore_n 3, 1) := by decide +kernel
theorem dX1_covers_81 : decode cX1_covers 81 = .ok (.iinc 4 1, 3) := by decide +kernel
theorem dX1_covers_84 : decode cX1_covers 84 = .ok (.goto (-43), 3) := by decide +kernel
theorem dX1_covers_87 : decode cX1_covers 87 = .ok (.iload_n 3, 1) := by decide +kernel
theorem dX1_covers_88 : decode cX1_covers 88 = .ok (.ireturn, 1) := by decide +kernel
theorem dX1_hashOf_0 : decode cX1_hashOf 0 = .ok (.bipush 31, 2) := by decide +kernel
theorem dX1_hashOf_2 : decode cX1_hashOf 2 = .ok (.iload_n 0, 1) := by decide +kernel
theorem dX1_hashOf_3 : decode cX1_hashOf 3 = .ok (.imul, 1) := by decide +kernel
theorem dX1_hashOf_4 : decode cX1_hashOf 4 = .ok (.bipush 17, 2) := by decide +kernel
theorem dX1_hashOf_6 : decode cX1_hashOf 6 = .ok (.iload_n 1, 1) := by decide +kernel
theorem dX1_hashOf_7 : decode cX1_hashOf 7 = .ok (.imul, 1) := by decide +kernel
theorem dX1_hashOf_8 : decode cX1_hashOf 8 = .ok (.iadd, 1) := by decide +kernel
theorem dX1_hashOf_9 : decode cX1_hashOf 9 = .ok (.iconst 5, 1) := by decide +kernel
theorem dX1_hashOf_10 : decode cX1_hashOf 10 = .ok (.iadd, 1) := by decide +kernel
theorem dX1_hashOf_11 : decode cX1_hashOf 11 = .ok (.sipush 499, 3) := by decide +kernel
theorem dX1_hashOf_14 : decode cX1_hashOf 14 = .ok (.irem, 1) := by decide +kernel
theorem dX1_hashOf_15 : decode cX1_hashOf 15 = .ok (.ireturn, 1) := by decide +kernel
theorem dX2_init_0 : decode cX2_init 0 = .ok (.aload_n 0, 1) := by decide +kernel
theorem dX2_init_1 : decode cX2_init 1 = .ok (.invokespecial 1, 3) := by decide +kernel
theorem dX2_init_4 : decode cX2_init 4 = .ok (.aload_n 0, 1) := by decide +kernel
theorem dX2_init_5 : decode cX2_init 5 = .ok (.iload_n 1, 1) := by decide +kernel
theorem dX2_init_6 : decode cX2_init 6 = .ok (.putfield 7, 3) := by decide +kernel
theorem dX2_init_9 : decode cX2_init 9 = .ok (.aload_n 0, 1) := by decide +kernel
theorem dX2_init_10 : decode cX2_init 10 = .ok (.iload_n 2, 1) := by decide +kernel
theorem dX2_init_11 : decode cX2_init 11 = .ok (.putfield 13, 3) := by decide +kernel
theorem dX2_init_14 : decode cX2_init 14 = .ok (.aload_n 0, 1) := by decide +kernel
theorem dX2_init_15 : decode cX2_init 15 = .ok (.iload_n 3, 1) := by decide +kernel
theorem dX2_init_16 : decode cX2_init 16 = .ok (.putfield 16, 3) := by decide +kernel
theorem dX2_init_19 : decode cX2_init 19 = .ok (.aload_n 0, 1) := by decide +kernel
theorem dX2_init_20 : decode cX2_init 20 = .ok (.iload 4, 2) := by decide +kernel
theorem dX2_init_22 : decode cX2_init 22 = .ok (.putfield 19, 3) := by decide +kernel
theorem dX2_init_25 : decode cX2_init 25 = .ok (.return_, 1) := by decide +kernel
set_option maxRecDepth 20000 in
theorem ggX2_fits_X4_isSameAt : GoodIn wsX2_fits wsX4_isSameAt := goodIn_r _ [6] (by decide +kernel) (by decide +kernel)
set_option maxRecDepth 20000 in
theorem gX2_fits_X4_isSameAt_n23 : GoodIn wsX2_fits (wsX4_isSameAt) := ggX2_fits_X4_isSameAt
theorem dX2_fits_0 : decode cX2_fits 0 = .ok (.aload_n 0, 1) := by decide +kernel
theorem dX2_fits_1 : decode cX2_fits 1 = .ok (.getfield 16, 3) := by decide +kernel
theorem dX2_fits_4 : decode cX2_fits 4 = .ok (.iload_n 2, 1) := by decide +kernel
theorem dX2_fits_5 : decode cX2_fits 5 = .ok (.if_icmp .ne 22, 3) := by decide +kernel
theorem dX2_fits_8 : decode cX2_fits 8 = .ok (.aload_n 0, 1) := by decide +kernel
theorem dX2_fits_9 : decode cX2_fits 9 = .ok (.getfield 13, 3) := by decide +kernel
theorem dX2_fits_12 : decode cX2_fits 12 = .ok (.aload_n 0, 1) := by decide +kernel
theorem dX2_fits_13 : decode cX2_fits 13 = .ok (.getfield 7, 3) := by decide +kernel
theorem dX2_fits_16 : decode cX2_fits 16 = .ok (.iload_n 1, 1) := by decide +kernel
theorem dX2_fits_17 : decode cX2_fits 17 = .ok (.invokestatic 23, 3) := by decide +kernel
theorem dX2_fits_20 : decode cX2_fits 20 = .ok (.ifCond .eq 7, 3) := by decide +kernel
theorem dX2_fits_23 : decode cX2_fits 23 = .ok (.iconst 1, 1) := by decide +kernel
theorem dX2_fits_24 : decode cX2_fits 24 = .ok (.goto 4, 3) := by decide +kernel
theorem dX2_fits_27 : decode cX2_fits 27 = .ok (.iconst 0, 1) := by decide +kernel
theorem dX2_fits_28 : decode cX2_fits 28 = .ok (.ireturn, 1) := by decide +kernel
theorem dX3_init_0 : decode cX3_init 0 = .ok (.aload_n 0, 1) := by decide +kernel
theorem dX3_init_1 : decode cX3_init 1 = .ok (.invokespecial 1, 3) := by decide +kernel
theorem dX3_init_4 : decode cX3_init 4 = .ok (.aload_n 0, 1) := by decide +kernel
theorem dX3_init_5 : decode cX3_init 5 = .ok (.iload_n 1, 1) := by decide +kernel
theorem dX3_init_6 : decode cX3_init 6 = .ok (.putfield 7, 3) := by decide +kernel
theorem dX3_init_9 : decode cX3_init 9 = .ok (.aload_n 0, 1) := by decide +kernel
theorem dX3_init_10 : decode cX3_init 10 = .ok (.iload_n 2, 1) := by decide +kernel
theorem dX3_init_11 : decode cX3_init 11 = .ok (.putfield 13, 3) := by decide +kernel
theorem dX3_init_14 : decode cX3_init 14 = .ok (.aload_n 0, 1) := by decide +kernel
theorem dX3_init_15 : decode cX3_init 15 = .ok (.iload_n 3, 1) := by decide +kernel
theorem dX3_init_16 : decode cX3_init 16 = .ok (.putfield 16, 3) := by decide +kernel
theorem dX3_init_19 : decode cX3_init 19 = .ok (.return_, 1) := by decide +kernel
theorem dX3_holds_0 : decode cX3_holds 0 = .ok (.aload_n 0, 1) := by decide +kernel
theorem dX3_holds_1 : decode cX3_holds 1 = .ok (.getfield 7, 3) := by decide +kernel
theorem dX3_holds_4 : decode cX3_holds 4 = .ok (.iload_n 1, 1) := by decide +kernel
theorem dX3_holds_5 : decode cX3_holds 5 = .ok (.if_icmp .ne 23, 3) := by decide +kernel
theorem dX3_holds_8 : decode cX3_holds 8 = .ok (.iload_n 2, 1) := by decide +kernel
theorem dX3_holds_9 : decode cX3_holds 9 = .ok (.aload_n 0, 1) := by decide +kernel
theorem dX3_holds_10 : decode cX3_holds 10 = .ok (.getfield 13, 3) := by decide +kernel
theorem dX3_holds_13 : decode cX3_holds 13 = .ok (.if_icmp .lt 15, 3) := by decide +kernel
theorem dX3_holds_16 : decode cX3_holds 16 = .ok (.iload_n 2, 1) := by decide +kernel
theorem dX3_holds_17 : decode cX3_holds 17 = .ok (.aload_n 0, 1) := by decide +kernel
theorem dX3_holds_18 : decode cX3_holds 18 = .ok (.getfield 16, 3) := by decide +kernel
theorem dX3_holds_21 : decode cX3_holds 21 = .ok (.if_icmp .gt 7, 3) := by decide +kernel
theorem dX3_holds_24 : decode cX3_holds 24 = .ok (.iconst 1, 1) := by decide +kernel
theorem dX3_holds_25 : decode cX3_holds 25 = .ok (.goto 4, 3) := by decide +kernel
theorem dX3_holds_28 : decode cX3_holds 28 = .ok (.iconst 0, 1) := by decide +kernel
theorem dX3_holds_29 : decode cX3_holds 29 = .ok (.ireturn, 1) := by decide +kernel
