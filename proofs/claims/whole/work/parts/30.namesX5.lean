theorem dX5_init_0 : decode cX5_init 0 = .ok (.aload_n 0, 1) := by decide +kernel
theorem dX5_init_1 : decode cX5_init 1 = .ok (.invokespecial 1, 3) := by decide +kernel
theorem dX5_init_4 : decode cX5_init 4 = .ok (.aload_n 0, 1) := by decide +kernel
theorem dX5_init_5 : decode cX5_init 5 = .ok (.iconst 1, 1) := by decide +kernel
theorem dX5_init_6 : decode cX5_init 6 = .ok (.putfield 7, 3) := by decide +kernel
theorem dX5_init_9 : decode cX5_init 9 = .ok (.aload_n 0, 1) := by decide +kernel
theorem dX5_init_10 : decode cX5_init 10 = .ok (.bipush 40, 2) := by decide +kernel
theorem dX5_init_12 : decode cX5_init 12 = .ok (.newarray .int, 2) := by decide +kernel
theorem dX5_init_14 : decode cX5_init 14 = .ok (.putfield 13, 3) := by decide +kernel
theorem dX5_init_17 : decode cX5_init 17 = .ok (.aload_n 0, 1) := by decide +kernel
theorem dX5_init_18 : decode cX5_init 18 = .ok (.bipush 40, 2) := by decide +kernel
theorem dX5_init_20 : decode cX5_init 20 = .ok (.newarray .int, 2) := by decide +kernel
theorem dX5_init_22 : decode cX5_init 22 = .ok (.putfield 17, 3) := by decide +kernel
theorem dX5_init_25 : decode cX5_init 25 = .ok (.aload_n 0, 1) := by decide +kernel
theorem dX5_init_26 : decode cX5_init 26 = .ok (.bipush 40, 2) := by decide +kernel
theorem dX5_init_28 : decode cX5_init 28 = .ok (.newarray .int, 2) := by decide +kernel
theorem dX5_init_30 : decode cX5_init 30 = .ok (.putfield 20, 3) := by decide +kernel
theorem dX5_init_33 : decode cX5_init 33 = .ok (.aload_n 0, 1) := by decide +kernel
theorem dX5_init_34 : decode cX5_init 34 = .ok (.bipush 40, 2) := by decide +kernel
theorem dX5_init_36 : decode cX5_init 36 = .ok (.newarray .int, 2) := by decide +kernel
theorem dX5_init_38 : decode cX5_init 38 = .ok (.putfield 23, 3) := by decide +kernel
theorem dX5_init_41 : decode cX5_init 41 = .ok (.aload_n 0, 1) := by decide +kernel
theorem dX5_init_42 : decode cX5_init 42 = .ok (.bipush 40, 2) := by decide +kernel
theorem dX5_init_44 : decode cX5_init 44 = .ok (.newarray .int, 2) := by decide +kernel
theorem dX5_init_46 : decode cX5_init 46 = .ok (.putfield 26, 3) := by decide +kernel
theorem dX5_init_49 : decode cX5_init 49 = .ok (.aload_n 0, 1) := by decide +kernel
theorem dX5_init_50 : decode cX5_init 50 = .ok (.bipush 40, 2) := by decide +kernel
theorem dX5_init_52 : decode cX5_init 52 = .ok (.newarray .int, 2) := by decide +kernel
theorem dX5_init_54 : decode cX5_init 54 = .ok (.putfield 29, 3) := by decide +kernel
theorem dX5_init_57 : decode cX5_init 57 = .ok (.aload_n 0, 1) := by decide +kernel
theorem dX5_init_58 : decode cX5_init 58 = .ok (.bipush 40, 2) := by decide +kernel
theorem dX5_init_60 : decode cX5_init 60 = .ok (.newarray .int, 2) := by decide +kernel
theorem dX5_init_62 : decode cX5_init 62 = .ok (.putfield 32, 3) := by decide +kernel
theorem dX5_init_65 : decode cX5_init 65 = .ok (.aload_n 0, 1) := by decide +kernel
theorem dX5_init_66 : decode cX5_init 66 = .ok (.bipush 40, 2) := by decide +kernel
theorem dX5_init_68 : decode cX5_init 68 = .ok (.newarray .int, 2) := by decide +kernel
theorem dX5_init_70 : decode cX5_init 70 = .ok (.putfield 35, 3) := by decide +kernel
theorem dX5_init_73 : decode cX5_init 73 = .ok (.aload_n 0, 1) := by decide +kernel
theorem dX5_init_74 : decode cX5_init 74 = .ok (.sipush 160, 3) := by decide +kernel
theorem dX5_init_77 : decode cX5_init 77 = .ok (.newarray .int, 2) := by decide +kernel
theorem dX5_init_79 : decode cX5_init 79 = .ok (.putfield 38, 3) := by decide +kernel
theorem dX5_init_82 : decode cX5_init 82 = .ok (.aload_n 0, 1) := by decide +kernel
theorem dX5_init_83 : decode cX5_init 83 = .ok (.sipush 160, 3) := by decide +kernel
theorem dX5_init_86 : decode cX5_init 86 = .ok (.newarray .int, 2) := by decide +kernel
theorem dX5_init_88 : decode cX5_init 88 = .ok (.putfield 41, 3) := by decide +kernel
theorem dX5_init_91 : decode cX5_init 91 = .ok (.aload_n 0, 1) := by decide +kernel
theorem dX5_init_92 : decode cX5_init 92 = .ok (.sipush 160, 3) := by decide +kernel
theorem dX5_init_95 : decode cX5_init 95 = .ok (.newarray .int, 2) := by decide +kernel
theorem dX5_init_97 : decode cX5_init 97 = .ok (.putfield 44, 3) := by decide +kernel
theorem dX5_init_100 : decode cX5_init 100 = .ok (.aload_n 0, 1) := by decide +kernel
theorem dX5_init_101 : decode cX5_init 101 = .ok (.sipush 160, 3) := by decide +kernel
theorem dX5_init_104 : decode cX5_init 104 = .ok (.newarray .boolean, 2) := by decide +kernel
theorem dX5_init_106 : decode cX5_init 106 = .ok (.putfield 47, 3) := by decide +kernel
theorem dX5_init_109 : decode cX5_init 109 = .ok (.aload_n 0, 1) := by decide +kernel
theorem dX5_init_110 : decode cX5_init 110 = .ok (.bipush 20, 2) := by decide +kernel
theorem dX5_init_112 : decode cX5_init 112 = .ok (.newarray .int, 2) := by decide +kernel
theorem dX5_init_114 : decode cX5_init 114 = .ok (.putfield 51, 3) := by decide +kernel
theorem dX5_init_117 : decode cX5_init 117 = .ok (.aload_n 0, 1) := by decide +kernel
theorem dX5_init_118 : decode cX5_init 118 = .ok (.bipush 20, 2) := by decide +kernel
theorem dX5_init_120 : decode cX5_init 120 = .ok (.newarray .int, 2) := by decide +kernel
theorem dX5_init_122 : decode cX5_init 122 = .ok (.putfield 54, 3) := by decide +kernel
theorem dX5_init_125 : decode cX5_init 125 = .ok (.aload_n 0, 1) := by decide +kernel
theorem dX5_init_126 : decode cX5_init 126 = .ok (.bipush 20, 2) := by decide +kernel
theorem dX5_init_128 : decode cX5_init 128 = .ok (.newarray .int, 2) := by decide +kernel
theorem dX5_init_130 : decode cX5_init 130 = .ok (.putfield 57, 3) := by decide +kernel
theorem dX5_init_133 : decode cX5_init 133 = .ok (.aload_n 0, 1) := by decide +kernel
theorem dX5_init_134 : decode cX5_init 134 = .ok (.bipush 20, 2) := by decide +kernel
theorem dX5_init_136 : decode cX5_init 136 = .ok (.newarray .int, 2) := by decide +kernel
theorem dX5_init_138 : decode cX5_init 138 = .ok (.putfield 60, 3) := by decide +kernel
theorem dX5_init_141 : decode cX5_init 141 = .ok (.aload_n 0, 1) := by decide +kernel
theorem dX5_init_142 : decode cX5_init 142 = .ok (.bipush 20, 2) := by decide +kernel
theorem dX5_init_144 : decode cX5_init 144 = .ok (.newarray .int, 2) := by decide +kernel
theorem dX5_init_146 : decode cX5_init 146 = .ok (.putfield 63, 3) := by decide +kernel
theorem dX5_init_149 : decode cX5_init 149 = .ok (.aload_n 0, 1) := by decide +kernel
theorem dX5_init_150 : decode cX5_init 150 = .ok (.bipush 20, 2) := by decide +kernel
theorem dX5_init_152 : decode cX5_init 152 = .ok (.newarray .int, 2) := by decide +kernel
theorem dX5_init_154 : decode cX5_init 154 = .ok (.putfield 66, 3) := by decide +kernel
theorem dX5_init_157 : decode cX5_init 157 = .ok (.aload_n 0, 1) := by decide +kernel
theorem dX5_init_158 : decode cX5_init 158 = .ok (.bipush 20, 2) := by decide +kernel
theorem dX5_init_160 : decode cX5_init 160 = .ok (.newarray .int, 2) := by decide +kernel
theorem dX5_init_162 : decode cX5_init 162 = .ok (.putfield 69, 3) := by decide +kernel
theorem dX5_init_165 : decode cX5_init 165 = .ok (.aload_n 0, 1) := by decide +kernel
theorem dX5_init_166 : decode cX5_init 166 = .ok (.bipush 20, 2) := by decide +kernel
theorem dX5_init_168 : decode cX5_init 168 = .ok (.newarray .int, 2) := by decide +kernel
theorem dX5_init_170 : decode cX5_init 170 = .ok (.putfield 72, 3) := by decide +kernel
theorem dX5_init_173 : decode cX5_init 173 = .ok (.aload_n 0, 1) := by decide +kernel
theorem dX5_init_174 : decode cX5_init 174 = .ok (.bipush 20, 2) := by decide +kernel
theorem dX5_init_176 : decode cX5_init 176 = .ok (.newarray .int, 2) := by decide +kernel
theorem dX5_init_178 : decode cX5_init 178 = .ok (.putfield 75, 3) := by decide +kernel
theorem dX5_init_181 : decode cX5_init 181 = .ok (.aload_n 0, 1) := by decide +kernel
theorem dX5_init_182 : decode cX5_init 182 = .ok (.bipush 20, 2) := by decide +kernel
theorem dX5_init_184 : decode cX5_init 184 = .ok (.newarray .int, 2) := by decide +kernel
theorem dX5_init_186 : decode cX5_init 186 = .ok (.putfield 78, 3) := by decide +kernel
theorem dX5_init_189 : decode cX5_init 189 = .ok (.aload_n 0, 1) := by decide +kernel
theorem dX5_init_190 : decode cX5_init 190 = .ok (.iconst (-1), 1) := by decide +kernel
theorem dX5_init_191 : decode cX5_init 191 = .ok (.putfield 81, 3) := by decide +kernel
theorem dX5_init_194 : decode cX5_init 194 = .ok (.return_, 1) := by decide +kernel
theorem dX5_thrown_0 : decode cX5_thrown 0 = .ok (.aload_n 0, 1) := by decide +kernel
theorem dX5_thrown_1 : decode cX5_thrown 1 = .ok (.getfield 84, 3) := by decide +kernel
theorem dX5_thrown_4 : decode cX5_thrown 4 = .ok (.ireturn, 1) := by decide +kernel
theorem dX5_holds_0 : decode cX5_holds 0 = .ok (.aload_n 0, 1) := by decide +kernel
theorem dX5_holds_1 : decode cX5_holds 1 = .ok (.iload_n 1, 1) := by decide +kernel
theorem dX5_holds_2 : decode cX5_holds 2 = .ok (.putfield 84, 3) := by decide +kernel
theorem dX5_holds_5 : decode cX5_holds 5 = .ok (.iload_n 1, 1) := by decide +kernel
theorem dX5_holds_6 : decode cX5_holds 6 = .ok (.ifCond .ne 7, 3) := by decide +kernel
theorem dX5_holds_9 : decode cX5_holds 9 = .ok (.iconst 1, 1) := by decide +kernel
theorem dX5_holds_10 : decode cX5_holds 10 = .ok (.goto 4, 3) := by decide +kernel
theorem dX5_holds_13 : decode cX5_holds 13 = .ok (.iconst 0, 1) := by decide +kernel
theorem dX5_holds_14 : decode cX5_holds 14 = .ok (.ireturn, 1) := by decide +kernel
theorem dX5_isIn_0 : decode cX5_isIn 0 = .ok (.iload_n 0, 1) := by decide +kernel
theorem dX5_isIn_1 : decode cX5_isIn 1 = .ok (.iload_n 1, 1) := by decide +kernel
theorem dX5_isIn_2 : decode cX5_isIn 2 = .ok (.if_icmp .lt 12, 3) := by decide +kernel
theorem dX5_isIn_5 : decode cX5_isIn 5 = .ok (.iload_n 0, 1) := by decide +kernel
theorem dX5_isIn_6 : decode cX5_isIn 6 = .ok (.iload_n 2, 1) := by decide +kernel
theorem dX5_isIn_7 : decode cX5_isIn 7 = .ok (.if_icmp .gt 7, 3) := by decide +kernel
theorem dX5_isIn_10 : decode cX5_isIn 10 = .ok (.iconst 1, 1) := by decide +kernel
theorem dX5_isIn_11 : decode cX5_isIn 11 = .ok (.goto 4, 3) := by decide +kernel
theorem dX5_isIn_14 : decode cX5_isIn 14 = .ok (.iconst 0, 1) := by decide +kernel
theorem dX5_isIn_15 : decode cX5_isIn 15 = .ok (.ireturn, 1) := by decide +kernel
set_option maxRecDepth 20000 in
theorem ggX5_isKey_X5_isIn : GoodIn wsX5_isKey wsX5_isIn := goodIn_r _ [4] (by decide +kernel) (by decide +kernel)
set_option maxRecDepth 20000 in
theorem gX5_isKey_X5_isIn : GoodIn wsX5_isKey (va_wsS RX5 87 yX5_isIn wsX5_isIn) := goodIn_app (goodIn_of _ (by decide +kernel)) ggX5_isKey_X5_isIn
theorem dX5_isKey_0 : decode cX5_isKey 0 = .ok (.iload_n 0, 1) := by decide +kernel
theorem dX5_isKey_1 : decode cX5_isKey 1 = .ok (.iconst 0, 1) := by decide +kernel
theorem dX5_isKey_2 : decode cX5_isKey 2 = .ok (.sipush 199, 3) := by decide +kernel
theorem dX5_isKey_5 : decode cX5_isKey 5 = .ok (.invokestatic 87, 3) := by decide +kernel
theorem dX5_isKey_8 : decode cX5_isKey 8 = .ok (.ireturn, 1) := by decide +kernel
set_option maxRecDepth 20000 in
theorem ggX5_isName_X5_isIn : GoodIn wsX5_isName wsX5_isIn := goodIn_r _ [4] (by decide +kernel) (by decide +kernel)
set_option maxRecDepth 20000 in
theorem gX5_isName_X5_isIn : GoodIn wsX5_isName (va_wsS RX5 87 yX5_isIn wsX5_isIn) := goodIn_app (goodIn_of _ (by decide +kernel)) ggX5_isName_X5_isIn
theorem dX5_isName_0 : decode cX5_isName 0 = .ok (.iload_n 0, 1) := by decide +kernel
theorem dX5_isName_1 : decode cX5_isName 1 = .ok (.iconst 0, 1) := by decide +kernel
theorem dX5_isName_2 : decode cX5_isName 2 = .ok (.sipush 9999, 3) := by decide +kernel
theorem dX5_isName_5 : decode cX5_isName 5 = .ok (.invokestatic 87, 3) := by decide +kernel
theorem dX5_isName_8 : decode cX5_isName 8 = .ok (.ireturn, 1) := by decide +kernel
set_option maxRecDepth 20000 in
theorem ggX5_isPort_X5_isIn : GoodIn wsX5_isPort wsX5_isIn := goodIn_r _ [4] (by decide +kernel) (by decide +kernel)
set_option maxRecDepth 20000 in
theorem gX5_isPort_X5_isIn : GoodIn wsX5_isPort (va_wsS RX5 87 yX5_isIn wsX5_isIn) := goodIn_app (goodIn_of _ (by decide +kernel)) ggX5_isPort_X5_isIn
theorem dX5_isPort_0 : decode cX5_isPort 0 = .ok (.iload_n 0, 1) := by decide +kernel
theorem dX5_isPort_1 : decode cX5_isPort 1 = .ok (.iconst 0, 1) := by decide +kernel
theorem dX5_isPort_2 : decode cX5_isPort 2 = .ok (.iconst 3, 1) := by decide +kernel
theorem dX5_isPort_3 : decode cX5_isPort 3 = .ok (.invokestatic 87, 3) := by decide +kernel
theorem dX5_isPort_6 : decode cX5_isPort 6 = .ok (.ireturn, 1) := by decide +kernel
set_option maxRecDepth 20000 in
theorem ggX5_isLine_X5_isIn : GoodIn wsX5_isLine wsX5_isIn := goodIn_r _ [5] (by decide +kernel) (by decide +kernel)
set_option maxRecDepth 20000 in
theorem gX5_isLine_X5_isIn : GoodIn wsX5_isLine (va_wsS RX5 87 yX5_isIn wsX5_isIn) := goodIn_app (goodIn_of _ (by decide +kernel)) ggX5_isLine_X5_isIn
theorem dX5_isLine_0 : decode cX5_isLine 0 = .ok (.iload_n 1, 1) := by decide +kernel
theorem dX5_isLine_1 : decode cX5_isLine 1 = .ok (.iconst 0, 1) := by decide +kernel
theorem dX5_isLine_2 : decode cX5_isLine 2 = .ok (.aload_n 0, 1) := by decide +kernel
theorem dX5_isLine_3 : decode cX5_isLine 3 = .ok (.getfield 91, 3) := by decide +kernel
theorem dX5_isLine_6 : decode cX5_isLine 6 = .ok (.iconst 1, 1) := by decide +kernel
theorem dX5_isLine_7 : decode cX5_isLine 7 = .ok (.isub, 1) := by decide +kernel
theorem dX5_isLine_8 : decode cX5_isLine 8 = .ok (.invokestatic 87, 3) := by decide +kernel
theorem dX5_isLine_11 : decode cX5_isLine 11 = .ok (.ireturn, 1) := by decide +kernel
theorem dX5_areLike_0 : decode cX5_areLike 0 = .ok (.iload_n 0, 1) := by decide +kernel
theorem dX5_areLike_1 : decode cX5_areLike 1 = .ok (.istore_n 3, 1) := by decide +kernel
theorem dX5_areLike_2 : decode cX5_areLike 2 = .ok (.iload_n 1, 1) := by decide +kernel
theorem dX5_areLike_3 : decode cX5_areLike 3 = .ok (.istore 4, 2) := by decide +kernel
theorem dX5_areLike_5 : decode cX5_areLike 5 = .ok (.iconst 1, 1) := by decide +kernel
theorem dX5_areLike_6 : decode cX5_areLike 6 = .ok (.istore 5, 2) := by decide +kernel
theorem dX5_areLike_8 : decode cX5_areLike 8 = .ok (.iconst 3, 1) := by decide +kernel
theorem dX5_areLike_9 : decode cX5_areLike 9 = .ok (.istore 6, 2) := by decide +kernel
theorem dX5_areLike_11 : decode cX5_areLike 11 = .ok (.iload 6, 2) := by decide +kernel
theorem dX5_areLike_13 : decode cX5_areLike 13 = .ok (.ifCond .lt 54, 3) := by decide +kernel
theorem dX5_areLike_16 : decode cX5_areLike 16 = .ok (.iload 5, 2) := by decide +kernel
theorem dX5_areLike_18 : decode cX5_areLike 18 = .ok (.ifCond .eq 28, 3) := by decide +kernel
theorem dX5_areLike_21 : decode cX5_areLike 21 = .ok (.iload_n 2, 1) := by decide +kernel
theorem dX5_areLike_22 : decode cX5_areLike 22 = .ok (.iload 6, 2) := by decide +kernel
theorem dX5_areLike_24 : decode cX5_areLike 24 = .ok (.ishr, 1) := by decide +kernel
theorem dX5_areLike_25 : decode cX5_areLike 25 = .ok (.iconst 1, 1) := by decide +kernel
theorem dX5_areLike_26 : decode cX5_areLike 26 = .ok (.iand, 1) := by decide +kernel
theorem dX5_areLike_27 : decode cX5_areLike 27 = .ok (.ifCond .eq 15, 3) := by decide +kernel
theorem dX5_areLike_30 : decode cX5_areLike 30 = .ok (.iload_n 3, 1) := by decide +kernel
theorem dX5_areLike_31 : decode cX5_areLike 31 = .ok (.bipush 10, 2) := by decide +kernel
theorem dX5_areLike_33 : decode cX5_areLike 33 = .ok (.irem, 1) := by decide +kernel
theorem dX5_areLike_34 : decode cX5_areLike 34 = .ok (.iload 4, 2) := by decide +kernel
theorem dX5_areLike_36 : decode cX5_areLike 36 = .ok (.bipush 10, 2) := by decide +kernel
theorem dX5_areLike_38 : decode cX5_areLike 38 = .ok (.irem, 1) := by decide +kernel
theorem dX5_areLike_39 : decode cX5_areLike 39 = .ok (.if_icmp .ne 7, 3) := by decide +kernel
theorem dX5_areLike_42 : decode cX5_areLike 42 = .ok (.iconst 1, 1) := by decide +kernel
theorem dX5_areLike_43 : decode cX5_areLike 43 = .ok (.goto 4, 3) := by decide +kernel
theorem dX5_areLike_46 : decode cX5_areLike 46 = .ok (.iconst 0, 1) := by decide +kernel
theorem dX5_areLike_47 : decode cX5_areLike 47 = .ok (.istore 5, 2) := by decide +kernel
theorem dX5_areLike_49 : decode cX5_areLike 49 = .ok (.iload_n 3, 1) := by decide +kernel
theorem dX5_areLike_50 : decode cX5_areLike 50 = .ok (.bipush 10, 2) := by decide +kernel
theorem dX5_areLike_52 : decode cX5_areLike 52 = .ok (.idiv, 1) := by decide +kernel
theorem dX5_areLike_53 : decode cX5_areLike 53 = .ok (.istore_n 3, 1) := by decide +kernel
theorem dX5_areLike_54 : decode cX5_areLike 54 = .ok (.iload 4, 2) := by decide +kernel
theorem dX5_areLike_56 : decode cX5_areLike 56 = .ok (.bipush 10, 2) := by decide +kernel
theorem dX5_areLike_58 : decode cX5_areLike 58 = .ok (.idiv, 1) := by decide +kernel
theorem dX5_areLike_59 : decode cX5_areLike 59 = .ok (.istore 4, 2) := by decide +kernel
theorem dX5_areLike_61 : decode cX5_areLike 61 = .ok (.iinc 6 (-1), 3) := by decide +kernel
theorem dX5_areLike_64 : decode cX5_areLike 64 = .ok (.goto (-53), 3) := by decide +kernel
theorem dX5_areLike_67 : decode cX5_areLike 67 = .ok (.iload 5, 2) := by decide +kernel
theorem dX5_areLike_69 : decode cX5_areLike 69 = .ok (.ireturn, 1) := by decide +kernel
theorem dX5_hash_0 : decode cX5_hash 0 = .ok (.bipush 31, 2) := by decide +kernel
theorem dX5_hash_2 : decode cX5_hash 2 = .ok (.iload_n 0, 1) := by decide +kernel
theorem dX5_hash_3 : decode cX5_hash 3 = .ok (.imul, 1) := by decide +kernel
theorem dX5_hash_4 : decode cX5_hash 4 = .ok (.bipush 17, 2) := by decide +kernel
theorem dX5_hash_6 : decode cX5_hash 6 = .ok (.iload_n 1, 1) := by decide +kernel
theorem dX5_hash_7 : decode cX5_hash 7 = .ok (.imul, 1) := by decide +kernel
theorem dX5_hash_8 : decode cX5_hash 8 = .ok (.iadd, 1) := by decide +kernel
theorem dX5_hash_9 : decode cX5_hash 9 = .ok (.iconst 5, 1) := by decide +kernel
theorem dX5_hash_10 : decode cX5_hash 10 = .ok (.iadd, 1) := by decide +kernel
theorem dX5_hash_11 : decode cX5_hash 11 = .ok (.sipush 499, 3) := by decide +kernel
theorem dX5_hash_14 : decode cX5_hash 14 = .ok (.irem, 1) := by decide +kernel
theorem dX5_hash_15 : decode cX5_hash 15 = .ok (.ireturn, 1) := by decide +kernel
set_option maxRecDepth 20000 in
theorem ggX5_isFor_X5_hash : GoodIn wsX5_isFor wsX5_hash := goodIn_r _ [12] (by decide +kernel) (by decide +kernel)
set_option maxRecDepth 20000 in
theorem gX5_isFor_X5_hash : GoodIn wsX5_isFor (va_wsS RX5 94 yX5_hash wsX5_hash) := goodIn_app (goodIn_of _ (by decide +kernel)) ggX5_isFor_X5_hash
set_option maxRecDepth 20000 in
theorem ggX5_isFor_X5_areLike : GoodIn wsX5_isFor wsX5_areLike := goodIn_r _ [15] (by decide +kernel) (by decide +kernel)
set_option maxRecDepth 20000 in
theorem gX5_isFor_X5_areLike : GoodIn wsX5_isFor (va_wsS RX5 98 yX5_areLike wsX5_areLike) := goodIn_app (goodIn_of _ (by decide +kernel)) ggX5_isFor_X5_areLike
theorem dX5_isFor_0 : decode cX5_isFor 0 = .ok (.aload_n 0, 1) := by decide +kernel
theorem dX5_isFor_1 : decode cX5_isFor 1 = .ok (.getfield 26, 3) := by decide +kernel
theorem dX5_isFor_4 : decode cX5_isFor 4 = .ok (.iload_n 1, 1) := by decide +kernel
theorem dX5_isFor_5 : decode cX5_isFor 5 = .ok (.iaload, 1) := by decide +kernel
theorem dX5_isFor_6 : decode cX5_isFor 6 = .ok (.iconst (-1), 1) := by decide +kernel
theorem dX5_isFor_7 : decode cX5_isFor 7 = .ok (.if_icmp .eq 38, 3) := by decide +kernel
theorem dX5_isFor_10 : decode cX5_isFor 10 = .ok (.aload_n 0, 1) := by decide +kernel
theorem dX5_isFor_11 : decode cX5_isFor 11 = .ok (.getfield 32, 3) := by decide +kernel
theorem dX5_isFor_14 : decode cX5_isFor 14 = .ok (.iload_n 1, 1) := by decide +kernel
theorem dX5_isFor_15 : decode cX5_isFor 15 = .ok (.iaload, 1) := by decide +kernel
theorem dX5_isFor_16 : decode cX5_isFor 16 = .ok (.iload_n 3, 1) := by decide +kernel
theorem dX5_isFor_17 : decode cX5_isFor 17 = .ok (.if_icmp .ne 26, 3) := by decide +kernel
theorem dX5_isFor_20 : decode cX5_isFor 20 = .ok (.aload_n 0, 1) := by decide +kernel
theorem dX5_isFor_21 : decode cX5_isFor 21 = .ok (.getfield 29, 3) := by decide +kernel
theorem dX5_isFor_24 : decode cX5_isFor 24 = .ok (.iload_n 1, 1) := by decide +kernel
theorem dX5_isFor_25 : decode cX5_isFor 25 = .ok (.iaload, 1) := by decide +kernel
theorem dX5_isFor_26 : decode cX5_isFor 26 = .ok (.iload_n 2, 1) := by decide +kernel
theorem dX5_isFor_27 : decode cX5_isFor 27 = .ok (.aload_n 0, 1) := by decide +kernel
theorem dX5_isFor_28 : decode cX5_isFor 28 = .ok (.getfield 26, 3) := by decide +kernel
theorem dX5_isFor_31 : decode cX5_isFor 31 = .ok (.iload_n 1, 1) := by decide +kernel
theorem dX5_isFor_32 : decode cX5_isFor 32 = .ok (.iaload, 1) := by decide +kernel
theorem dX5_isFor_33 : decode cX5_isFor 33 = .ok (.invokestatic 94, 3) := by decide +kernel
theorem dX5_isFor_36 : decode cX5_isFor 36 = .ok (.if_icmp .ne 7, 3) := by decide +kernel
theorem dX5_isFor_39 : decode cX5_isFor 39 = .ok (.iconst 1, 1) := by decide +kernel
theorem dX5_isFor_40 : decode cX5_isFor 40 = .ok (.goto 4, 3) := by decide +kernel
theorem dX5_isFor_43 : decode cX5_isFor 43 = .ok (.iconst 0, 1) := by decide +kernel
theorem dX5_isFor_44 : decode cX5_isFor 44 = .ok (.ireturn, 1) := by decide +kernel
theorem dX5_isFor_45 : decode cX5_isFor 45 = .ok (.iconst 0, 1) := by decide +kernel
theorem dX5_isFor_46 : decode cX5_isFor 46 = .ok (.istore 4, 2) := by decide +kernel
theorem dX5_isFor_48 : decode cX5_isFor 48 = .ok (.iconst 0, 1) := by decide +kernel
theorem dX5_isFor_49 : decode cX5_isFor 49 = .ok (.istore 5, 2) := by decide +kernel
theorem dX5_isFor_51 : decode cX5_isFor 51 = .ok (.iconst 4, 1) := by decide +kernel
theorem dX5_isFor_52 : decode cX5_isFor 52 = .ok (.iload_n 1, 1) := by decide +kernel
theorem dX5_isFor_53 : decode cX5_isFor 53 = .ok (.imul, 1) := by decide +kernel
theorem dX5_isFor_54 : decode cX5_isFor 54 = .ok (.istore 6, 2) := by decide +kernel
theorem dX5_isFor_56 : decode cX5_isFor 56 = .ok (.iload 6, 2) := by decide +kernel
theorem dX5_isFor_58 : decode cX5_isFor 58 = .ok (.iconst 4, 1) := by decide +kernel
theorem dX5_isFor_59 : decode cX5_isFor 59 = .ok (.iload_n 1, 1) := by decide +kernel
theorem dX5_isFor_60 : decode cX5_isFor 60 = .ok (.imul, 1) := by decide +kernel
theorem dX5_isFor_61 : decode cX5_isFor 61 = .ok (.aload_n 0, 1) := by decide +kernel
theorem dX5_isFor_62 : decode cX5_isFor 62 = .ok (.getfield 35, 3) := by decide +kernel
theorem dX5_isFor_65 : decode cX5_isFor 65 = .ok (.iload_n 1, 1) := by decide +kernel
theorem dX5_isFor_66 : decode cX5_isFor 66 = .ok (.iaload, 1) := by decide +kernel
theorem dX5_isFor_67 : decode cX5_isFor 67 = .ok (.iadd, 1) := by decide +kernel
theorem dX5_isFor_68 : decode cX5_isFor 68 = .ok (.if_icmp .ge 102, 3) := by decide +kernel
theorem dX5_isFor_71 : decode cX5_isFor 71 = .ok (.aload_n 0, 1) := by decide +kernel
theorem dX5_isFor_72 : decode cX5_isFor 72 = .ok (.getfield 44, 3) := by decide +kernel
theorem dX5_isFor_75 : decode cX5_isFor 75 = .ok (.iload 6, 2) := by decide +kernel
theorem dX5_isFor_77 : decode cX5_isFor 77 = .ok (.iaload, 1) := by decide +kernel
theorem dX5_isFor_78 : decode cX5_isFor 78 = .ok (.iload_n 3, 1) := by decide +kernel
theorem dX5_isFor_79 : decode cX5_isFor 79 = .ok (.if_icmp .ne 28, 3) := by decide +kernel
theorem dX5_isFor_82 : decode cX5_isFor 82 = .ok (.aload_n 0, 1) := by decide +kernel
theorem dX5_isFor_83 : decode cX5_isFor 83 = .ok (.getfield 38, 3) := by decide +kernel
theorem dX5_isFor_86 : decode cX5_isFor 86 = .ok (.iload 6, 2) := by decide +kernel
theorem dX5_isFor_88 : decode cX5_isFor 88 = .ok (.iaload, 1) := by decide +kernel
theorem dX5_isFor_89 : decode cX5_isFor 89 = .ok (.iload_n 2, 1) := by decide +kernel
theorem dX5_isFor_90 : decode cX5_isFor 90 = .ok (.aload_n 0, 1) := by decide +kernel
theorem dX5_isFor_91 : decode cX5_isFor 91 = .ok (.getfield 41, 3) := by decide +kernel
theorem dX5_isFor_94 : decode cX5_isFor 94 = .ok (.iload 6, 2) := by decide +kernel
theorem dX5_isFor_96 : decode cX5_isFor 96 = .ok (.iaload, 1) := by decide +kernel
theorem dX5_isFor_97 : decode cX5_isFor 97 = .ok (.invokestatic 98, 3) := by decide +kernel
theorem dX5_isFor_100 : decode cX5_isFor 100 = .ok (.ifCond .eq 7, 3) := by decide +kernel
theorem dX5_isFor_103 : decode cX5_isFor 103 = .ok (.iconst 1, 1) := by decide +kernel
theorem dX5_isFor_104 : decode cX5_isFor 104 = .ok (.goto 4, 3) := by decide +kernel
theorem dX5_isFor_107 : decode cX5_isFor 107 = .ok (.iconst 0, 1) := by decide +kernel
theorem dX5_isFor_108 : decode cX5_isFor 108 = .ok (.istore 7, 2) := by decide +kernel
theorem dX5_isFor_110 : decode cX5_isFor 110 = .ok (.iload 4, 2) := by decide +kernel
theorem dX5_isFor_112 : decode cX5_isFor 112 = .ok (.ifCond .ne 18, 3) := by decide +kernel
theorem dX5_isFor_115 : decode cX5_isFor 115 = .ok (.iload 7, 2) := by decide +kernel
theorem dX5_isFor_117 : decode cX5_isFor 117 = .ok (.ifCond .eq 17, 3) := by decide +kernel
theorem dX5_isFor_120 : decode cX5_isFor 120 = .ok (.aload_n 0, 1) := by decide +kernel
theorem dX5_isFor_121 : decode cX5_isFor 121 = .ok (.getfield 47, 3) := by decide +kernel
theorem dX5_isFor_124 : decode cX5_isFor 124 = .ok (.iload 6, 2) := by decide +kernel
theorem dX5_isFor_126 : decode cX5_isFor 126 = .ok (.baload, 1) := by decide +kernel
theorem dX5_isFor_127 : decode cX5_isFor 127 = .ok (.ifCond .ne 7, 3) := by decide +kernel
theorem dX5_isFor_130 : decode cX5_isFor 130 = .ok (.iconst 1, 1) := by decide +kernel
theorem dX5_isFor_131 : decode cX5_isFor 131 = .ok (.goto 4, 3) := by decide +kernel
theorem dX5_isFor_134 : decode cX5_isFor 134 = .ok (.iconst 0, 1) := by decide +kernel
theorem dX5_isFor_135 : decode cX5_isFor 135 = .ok (.istore 4, 2) := by decide +kernel
theorem dX5_isFor_137 : decode cX5_isFor 137 = .ok (.iload 5, 2) := by decide +kernel
theorem dX5_isFor_139 : decode cX5_isFor 139 = .ok (.ifCond .ne 18, 3) := by decide +kernel
theorem dX5_isFor_142 : decode cX5_isFor 142 = .ok (.iload 7, 2) := by decide +kernel
theorem dX5_isFor_144 : decode cX5_isFor 144 = .ok (.ifCond .eq 17, 3) := by decide +kernel
theorem dX5_isFor_147 : decode cX5_isFor 147 = .ok (.aload_n 0, 1) := by decide +kernel
theorem dX5_isFor_148 : decode cX5_isFor 148 = .ok (.getfield 47, 3) := by decide +kernel
theorem dX5_isFor_151 : decode cX5_isFor 151 = .ok (.iload 6, 2) := by decide +kernel
theorem dX5_isFor_153 : decode cX5_isFor 153 = .ok (.baload, 1) := by decide +kernel
theorem dX5_isFor_154 : decode cX5_isFor 154 = .ok (.ifCond .eq 7, 3) := by decide +kernel
theorem dX5_isFor_157 : decode cX5_isFor 157 = .ok (.iconst 1, 1) := by decide +kernel
theorem dX5_isFor_158 : decode cX5_isFor 158 = .ok (.goto 4, 3) := by decide +kernel
theorem dX5_isFor_161 : decode cX5_isFor 161 = .ok (.iconst 0, 1) := by decide +kernel
theorem dX5_isFor_162 : decode cX5_isFor 162 = .ok (.istore 5, 2) := by decide +kernel
theorem dX5_isFor_164 : decode cX5_isFor 164 = .ok (.iinc 6 1, 3) := by decide +kernel
theorem dX5_isFor_167 : decode cX5_isFor 167 = .ok (.goto (-111), 3) := by decide +kernel
theorem dX5_isFor_170 : decode cX5_isFor 170 = .ok (.iload 4, 2) := by decide +kernel
theorem dX5_isFor_172 : decode cX5_isFor 172 = .ok (.ifCond .eq 12, 3) := by decide +kernel
theorem dX5_isFor_175 : decode cX5_isFor 175 = .ok (.iload 5, 2) := by decide +kernel
theorem dX5_isFor_177 : decode cX5_isFor 177 = .ok (.ifCond .ne 7, 3) := by decide +kernel
theorem dX5_isFor_180 : decode cX5_isFor 180 = .ok (.iconst 1, 1) := by decide +kernel
theorem dX5_isFor_181 : decode cX5_isFor 181 = .ok (.goto 4, 3) := by decide +kernel
theorem dX5_isFor_184 : decode cX5_isFor 184 = .ok (.iconst 0, 1) := by decide +kernel
theorem dX5_isFor_185 : decode cX5_isFor 185 = .ok (.ireturn, 1) := by decide +kernel
theorem dX5_hasEnded_0 : decode cX5_hasEnded 0 = .ok (.aload_n 0, 1) := by decide +kernel
theorem dX5_hasEnded_1 : decode cX5_hasEnded 1 = .ok (.getfield 23, 3) := by decide +kernel
theorem dX5_hasEnded_4 : decode cX5_hasEnded 4 = .ok (.iload_n 1, 1) := by decide +kernel
theorem dX5_hasEnded_5 : decode cX5_hasEnded 5 = .ok (.iaload, 1) := by decide +kernel
theorem dX5_hasEnded_6 : decode cX5_hasEnded 6 = .ok (.iconst (-1), 1) := by decide +kernel
theorem dX5_hasEnded_7 : decode cX5_hasEnded 7 = .ok (.if_icmp .eq 20, 3) := by decide +kernel
theorem dX5_hasEnded_10 : decode cX5_hasEnded 10 = .ok (.aload_n 0, 1) := by decide +kernel
theorem dX5_hasEnded_11 : decode cX5_hasEnded 11 = .ok (.getfield 101, 3) := by decide +kernel
theorem dX5_hasEnded_14 : decode cX5_hasEnded 14 = .ok (.aload_n 0, 1) := by decide +kernel
theorem dX5_hasEnded_15 : decode cX5_hasEnded 15 = .ok (.getfield 23, 3) := by decide +kernel
theorem dX5_hasEnded_18 : decode cX5_hasEnded 18 = .ok (.iload_n 1, 1) := by decide +kernel
theorem dX5_hasEnded_19 : decode cX5_hasEnded 19 = .ok (.iaload, 1) := by decide +kernel
theorem dX5_hasEnded_20 : decode cX5_hasEnded 20 = .ok (.if_icmp .lt 7, 3) := by decide +kernel
theorem dX5_hasEnded_23 : decode cX5_hasEnded 23 = .ok (.iconst 1, 1) := by decide +kernel
theorem dX5_hasEnded_24 : decode cX5_hasEnded 24 = .ok (.goto 4, 3) := by decide +kernel
theorem dX5_hasEnded_27 : decode cX5_hasEnded 27 = .ok (.iconst 0, 1) := by decide +kernel
theorem dX5_hasEnded_28 : decode cX5_hasEnded 28 = .ok (.ireturn, 1) := by decide +kernel
theorem dX5_adds_0 : decode cX5_adds 0 = .ok (.aload_n 0, 1) := by decide +kernel
theorem dX5_adds_1 : decode cX5_adds 1 = .ok (.getfield 13, 3) := by decide +kernel
theorem dX5_adds_4 : decode cX5_adds 4 = .ok (.aload_n 0, 1) := by decide +kernel
theorem dX5_adds_5 : decode cX5_adds 5 = .ok (.getfield 91, 3) := by decide +kernel
theorem dX5_adds_8 : decode cX5_adds 8 = .ok (.iload_n 2, 1) := by decide +kernel
theorem dX5_adds_9 : decode cX5_adds 9 = .ok (.iastore, 1) := by decide +kernel
theorem dX5_adds_10 : decode cX5_adds 10 = .ok (.aload_n 0, 1) := by decide +kernel
theorem dX5_adds_11 : decode cX5_adds 11 = .ok (.getfield 17, 3) := by decide +kernel
theorem dX5_adds_14 : decode cX5_adds 14 = .ok (.aload_n 0, 1) := by decide +kernel
theorem dX5_adds_15 : decode cX5_adds 15 = .ok (.getfield 91, 3) := by decide +kernel
theorem dX5_adds_18 : decode cX5_adds 18 = .ok (.iload_n 1, 1) := by decide +kernel
theorem dX5_adds_19 : decode cX5_adds 19 = .ok (.iastore, 1) := by decide +kernel
theorem dX5_adds_20 : decode cX5_adds 20 = .ok (.aload_n 0, 1) := by decide +kernel
theorem dX5_adds_21 : decode cX5_adds 21 = .ok (.getfield 20, 3) := by decide +kernel
theorem dX5_adds_24 : decode cX5_adds 24 = .ok (.aload_n 0, 1) := by decide +kernel
theorem dX5_adds_25 : decode cX5_adds 25 = .ok (.getfield 91, 3) := by decide +kernel
theorem dX5_adds_28 : decode cX5_adds 28 = .ok (.aload_n 0, 1) := by decide +kernel
theorem dX5_adds_29 : decode cX5_adds 29 = .ok (.getfield 101, 3) := by decide +kernel
theorem dX5_adds_32 : decode cX5_adds 32 = .ok (.iastore, 1) := by decide +kernel
theorem dX5_adds_33 : decode cX5_adds 33 = .ok (.aload_n 0, 1) := by decide +kernel
theorem dX5_adds_34 : decode cX5_adds 34 = .ok (.getfield 23, 3) := by decide +kernel
theorem dX5_adds_37 : decode cX5_adds 37 = .ok (.aload_n 0, 1) := by decide +kernel
theorem dX5_adds_38 : decode cX5_adds 38 = .ok (.getfield 91, 3) := by decide +kernel
theorem dX5_adds_41 : decode cX5_adds 41 = .ok (.iconst (-1), 1) := by decide +kernel
theorem dX5_adds_42 : decode cX5_adds 42 = .ok (.iastore, 1) := by decide +kernel
theorem dX5_adds_43 : decode cX5_adds 43 = .ok (.aload_n 0, 1) := by decide +kernel
theorem dX5_adds_44 : decode cX5_adds 44 = .ok (.getfield 26, 3) := by decide +kernel
theorem dX5_adds_47 : decode cX5_adds 47 = .ok (.aload_n 0, 1) := by decide +kernel
theorem dX5_adds_48 : decode cX5_adds 48 = .ok (.getfield 91, 3) := by decide +kernel
theorem dX5_adds_51 : decode cX5_adds 51 = .ok (.iconst (-1), 1) := by decide +kernel
theorem dX5_adds_52 : decode cX5_adds 52 = .ok (.iastore, 1) := by decide +kernel
theorem dX5_adds_53 : decode cX5_adds 53 = .ok (.aload_n 0, 1) := by decide +kernel
theorem dX5_adds_54 : decode cX5_adds 54 = .ok (.getfield 35, 3) := by decide +kernel
theorem dX5_adds_57 : decode cX5_adds 57 = .ok (.aload_n 0, 1) := by decide +kernel
theorem dX5_adds_58 : decode cX5_adds 58 = .ok (.getfield 91, 3) := by decide +kernel
theorem dX5_adds_61 : decode cX5_adds 61 = .ok (.iconst 0, 1) := by decide +kernel
theorem dX5_adds_62 : decode cX5_adds 62 = .ok (.iastore, 1) := by decide +kernel
theorem dX5_adds_63 : decode cX5_adds 63 = .ok (.aload_n 0, 1) := by decide +kernel
theorem dX5_adds_64 : decode cX5_adds 64 = .ok (.dup, 1) := by decide +kernel
theorem dX5_adds_65 : decode cX5_adds 65 = .ok (.getfield 91, 3) := by decide +kernel
theorem dX5_adds_68 : decode cX5_adds 68 = .ok (.iconst 1, 1) := by decide +kernel
theorem dX5_adds_69 : decode cX5_adds 69 = .ok (.iadd, 1) := by decide +kernel
theorem dX5_adds_70 : decode cX5_adds 70 = .ok (.putfield 91, 3) := by decide +kernel
theorem dX5_adds_73 : decode cX5_adds 73 = .ok (.return_, 1) := by decide +kernel
set_option maxRecDepth 20000 in
theorem ggX5_isMark_X5_isIn : GoodIn wsX5_isMark wsX5_isIn := goodIn_r _ [4] (by decide +kernel) (by decide +kernel)
set_option maxRecDepth 20000 in
theorem gX5_isMark_X5_isIn : GoodIn wsX5_isMark (va_wsS RX5 87 yX5_isIn wsX5_isIn) := goodIn_app (goodIn_of _ (by decide +kernel)) ggX5_isMark_X5_isIn
theorem dX5_isMark_0 : decode cX5_isMark 0 = .ok (.iload_n 0, 1) := by decide +kernel
theorem dX5_isMark_1 : decode cX5_isMark 1 = .ok (.iconst 0, 1) := by decide +kernel
theorem dX5_isMark_2 : decode cX5_isMark 2 = .ok (.iconst 2, 1) := by decide +kernel
theorem dX5_isMark_3 : decode cX5_isMark 3 = .ok (.invokestatic 87, 3) := by decide +kernel
theorem dX5_isMark_6 : decode cX5_isMark 6 = .ok (.ireturn, 1) := by decide +kernel
set_option maxRecDepth 20000 in
theorem ggX5_addLine_X5_isMark : GoodIn wsX5_addLine wsX5_isMark := goodIn_r _ [5, 6, 7, 4, 8] (by decide +kernel) (by decide +kernel)
set_option maxRecDepth 20000 in
theorem gX5_addLine_X5_isMark : GoodIn wsX5_addLine (va_wsS RX5 104 yX5_isMark wsX5_isMark) := goodIn_app (goodIn_of _ (by decide +kernel)) ggX5_addLine_X5_isMark
set_option maxRecDepth 20000 in
theorem ggX5_addLine_X5_isKey : GoodIn wsX5_addLine wsX5_isKey := goodIn_r _ [11, 6, 7, 4, 8] (by decide +kernel) (by decide +kernel)
set_option maxRecDepth 20000 in
theorem gX5_addLine_X5_isKey : GoodIn wsX5_addLine (va_wsS RX5 108 yX5_isKey wsX5_isKey) := goodIn_app (goodIn_of _ (by decide +kernel)) ggX5_addLine_X5_isKey
set_option maxRecDepth 20000 in
theorem ggX5_addLine_X5_holds : GoodIn wsX5_addLine wsX5_holds := goodIn_r _ [15, 16, 28, 29, 30, 31, 32, 33, 34, 35, 36, 37, 38, 39, 40, 41, 42, 43, 44, 45, 46, 47, 48, 49, 50, 51, 52, 53, 54, 55, 56, 57, 58, 59] (by decide +kernel) (by decide +kernel)
set_option maxRecDepth 20000 in
theorem gX5_addLine_X5_holds : GoodIn wsX5_addLine (wsV RX5 111 RX5 yX5_holds wsX5_holds) := goodIn_app (goodIn_of _ (by decide +kernel)) ggX5_addLine_X5_holds
set_option maxRecDepth 20000 in
theorem ggX5_addLine_X5_adds : GoodIn wsX5_addLine wsX5_adds := goodIn_r _ [20, 21, 1, 22, 23, 24, 25, 26, 27, 28, 29, 30, 31, 32, 33, 34, 35, 36, 37, 38, 39, 40, 41, 42, 43, 44, 45, 46, 47, 48, 49, 50, 51, 52, 53, 54, 55, 56, 57, 58, 59] (by decide +kernel) (by decide +kernel)
set_option maxRecDepth 20000 in
theorem gX5_addLine_X5_adds : GoodIn wsX5_addLine (wsV RX5 114 RX5 yX5_adds wsX5_adds) := goodIn_app (goodIn_of _ (by decide +kernel)) ggX5_addLine_X5_adds
theorem dX5_addLine_0 : decode cX5_addLine 0 = .ok (.aload_n 0, 1) := by decide +kernel
theorem dX5_addLine_1 : decode cX5_addLine 1 = .ok (.iload_n 1, 1) := by decide +kernel
theorem dX5_addLine_2 : decode cX5_addLine 2 = .ok (.invokestatic 104, 3) := by decide +kernel
theorem dX5_addLine_5 : decode cX5_addLine 5 = .ok (.ifCond .eq 10, 3) := by decide +kernel
theorem dX5_addLine_8 : decode cX5_addLine 8 = .ok (.iload_n 2, 1) := by decide +kernel
theorem dX5_addLine_9 : decode cX5_addLine 9 = .ok (.invokestatic 108, 3) := by decide +kernel
theorem dX5_addLine_12 : decode cX5_addLine 12 = .ok (.ifCond .ne 7, 3) := by decide +kernel
theorem dX5_addLine_15 : decode cX5_addLine 15 = .ok (.iconst 1, 1) := by decide +kernel
theorem dX5_addLine_16 : decode cX5_addLine 16 = .ok (.goto 17, 3) := by decide +kernel
theorem dX5_addLine_19 : decode cX5_addLine 19 = .ok (.aload_n 0, 1) := by decide +kernel
theorem dX5_addLine_20 : decode cX5_addLine 20 = .ok (.getfield 91, 3) := by decide +kernel
theorem dX5_addLine_23 : decode cX5_addLine 23 = .ok (.bipush 40, 2) := by decide +kernel
theorem dX5_addLine_25 : decode cX5_addLine 25 = .ok (.if_icmp .ne 7, 3) := by decide +kernel
theorem dX5_addLine_28 : decode cX5_addLine 28 = .ok (.iconst 2, 1) := by decide +kernel
theorem dX5_addLine_29 : decode cX5_addLine 29 = .ok (.goto 4, 3) := by decide +kernel
theorem dX5_addLine_32 : decode cX5_addLine 32 = .ok (.iconst 0, 1) := by decide +kernel
theorem dX5_addLine_33 : decode cX5_addLine 33 = .ok (.invokevirtual 111, 3) := by decide +kernel
theorem dX5_addLine_36 : decode cX5_addLine 36 = .ok (.ifCond .ne 5, 3) := by decide +kernel
theorem dX5_addLine_39 : decode cX5_addLine 39 = .ok (.iconst 0, 1) := by decide +kernel
theorem dX5_addLine_40 : decode cX5_addLine 40 = .ok (.ireturn, 1) := by decide +kernel
theorem dX5_addLine_41 : decode cX5_addLine 41 = .ok (.aload_n 0, 1) := by decide +kernel
theorem dX5_addLine_42 : decode cX5_addLine 42 = .ok (.iload_n 1, 1) := by decide +kernel
theorem dX5_addLine_43 : decode cX5_addLine 43 = .ok (.iload_n 2, 1) := by decide +kernel
theorem dX5_addLine_44 : decode cX5_addLine 44 = .ok (.invokevirtual 114, 3) := by decide +kernel
theorem dX5_addLine_47 : decode cX5_addLine 47 = .ok (.aload_n 0, 1) := by decide +kernel
theorem dX5_addLine_48 : decode cX5_addLine 48 = .ok (.getfield 91, 3) := by decide +kernel
theorem dX5_addLine_51 : decode cX5_addLine 51 = .ok (.iconst 1, 1) := by decide +kernel
theorem dX5_addLine_52 : decode cX5_addLine 52 = .ok (.isub, 1) := by decide +kernel
theorem dX5_addLine_53 : decode cX5_addLine 53 = .ok (.ireturn, 1) := by decide +kernel
theorem dX5_addsPattern_0 : decode cX5_addsPattern 0 = .ok (.iconst 4, 1) := by decide +kernel
theorem dX5_addsPattern_1 : decode cX5_addsPattern 1 = .ok (.iload_n 1, 1) := by decide +kernel
theorem dX5_addsPattern_2 : decode cX5_addsPattern 2 = .ok (.imul, 1) := by decide +kernel
theorem dX5_addsPattern_3 : decode cX5_addsPattern 3 = .ok (.aload_n 0, 1) := by decide +kernel
theorem dX5_addsPattern_4 : decode cX5_addsPattern 4 = .ok (.getfield 35, 3) := by decide +kernel
theorem dX5_addsPattern_7 : decode cX5_addsPattern 7 = .ok (.iload_n 1, 1) := by decide +kernel
theorem dX5_addsPattern_8 : decode cX5_addsPattern 8 = .ok (.iaload, 1) := by decide +kernel
theorem dX5_addsPattern_9 : decode cX5_addsPattern 9 = .ok (.iadd, 1) := by decide +kernel
theorem dX5_addsPattern_10 : decode cX5_addsPattern 10 = .ok (.istore 6, 2) := by decide +kernel
theorem dX5_addsPattern_12 : decode cX5_addsPattern 12 = .ok (.aload_n 0, 1) := by decide +kernel
theorem dX5_addsPattern_13 : decode cX5_addsPattern 13 = .ok (.getfield 38, 3) := by decide +kernel
theorem dX5_addsPattern_16 : decode cX5_addsPattern 16 = .ok (.iload 6, 2) := by decide +kernel
theorem dX5_addsPattern_18 : decode cX5_addsPattern 18 = .ok (.iload_n 2, 1) := by decide +kernel
theorem dX5_addsPattern_19 : decode cX5_addsPattern 19 = .ok (.iastore, 1) := by decide +kernel
theorem dX5_addsPattern_20 : decode cX5_addsPattern 20 = .ok (.aload_n 0, 1) := by decide +kernel
theorem dX5_addsPattern_21 : decode cX5_addsPattern 21 = .ok (.getfield 41, 3) := by decide +kernel
theorem dX5_addsPattern_24 : decode cX5_addsPattern 24 = .ok (.iload 6, 2) := by decide +kernel
theorem dX5_addsPattern_26 : decode cX5_addsPattern 26 = .ok (.iload_n 3, 1) := by decide +kernel
theorem dX5_addsPattern_27 : decode cX5_addsPattern 27 = .ok (.iastore, 1) := by decide +kernel
theorem dX5_addsPattern_28 : decode cX5_addsPattern 28 = .ok (.aload_n 0, 1) := by decide +kernel
theorem dX5_addsPattern_29 : decode cX5_addsPattern 29 = .ok (.getfield 44, 3) := by decide +kernel
theorem dX5_addsPattern_32 : decode cX5_addsPattern 32 = .ok (.iload 6, 2) := by decide +kernel
theorem dX5_addsPattern_34 : decode cX5_addsPattern 34 = .ok (.iload 4, 2) := by decide +kernel
theorem dX5_addsPattern_36 : decode cX5_addsPattern 36 = .ok (.iastore, 1) := by decide +kernel
theorem dX5_addsPattern_37 : decode cX5_addsPattern 37 = .ok (.aload_n 0, 1) := by decide +kernel
theorem dX5_addsPattern_38 : decode cX5_addsPattern 38 = .ok (.getfield 47, 3) := by decide +kernel
theorem dX5_addsPattern_41 : decode cX5_addsPattern 41 = .ok (.iload 6, 2) := by decide +kernel
theorem dX5_addsPattern_43 : decode cX5_addsPattern 43 = .ok (.iload 5, 2) := by decide +kernel
theorem dX5_addsPattern_45 : decode cX5_addsPattern 45 = .ok (.bastore, 1) := by decide +kernel
theorem dX5_addsPattern_46 : decode cX5_addsPattern 46 = .ok (.aload_n 0, 1) := by decide +kernel
theorem dX5_addsPattern_47 : decode cX5_addsPattern 47 = .ok (.getfield 35, 3) := by decide +kernel
theorem dX5_addsPattern_50 : decode cX5_addsPattern 50 = .ok (.iload_n 1, 1) := by decide +kernel
theorem dX5_addsPattern_51 : decode cX5_addsPattern 51 = .ok (.dup2, 1) := by decide +kernel
theorem dX5_addsPattern_52 : decode cX5_addsPattern 52 = .ok (.iaload, 1) := by decide +kernel
theorem dX5_addsPattern_53 : decode cX5_addsPattern 53 = .ok (.iconst 1, 1) := by decide +kernel
theorem dX5_addsPattern_54 : decode cX5_addsPattern 54 = .ok (.iadd, 1) := by decide +kernel
theorem dX5_addsPattern_55 : decode cX5_addsPattern 55 = .ok (.iastore, 1) := by decide +kernel
theorem dX5_addsPattern_56 : decode cX5_addsPattern 56 = .ok (.return_, 1) := by decide +kernel
set_option maxRecDepth 20000 in
theorem ggX5_addPattern_X5_isLine : GoodIn wsX5_addPattern wsX5_isLine := goodIn_r _ [7, 8, 9, 10, 6, 11, 31, 32, 33, 34, 35, 36, 37, 38, 39, 40, 41, 42, 43, 44, 45, 46, 47, 48, 49, 50, 51, 52, 53, 54, 55, 56, 57, 58, 59, 60, 61, 62] (by decide +kernel) (by decide +kernel)
set_option maxRecDepth 20000 in
theorem gX5_addPattern_X5_isLine : GoodIn wsX5_addPattern (wsV RX5 118 RX5 yX5_isLine wsX5_isLine) := goodIn_app (goodIn_of _ (by decide +kernel)) ggX5_addPattern_X5_isLine
set_option maxRecDepth 20000 in
theorem ggX5_addPattern_X5_isName : GoodIn wsX5_addPattern wsX5_isName := goodIn_r _ [14, 9, 10, 6, 11] (by decide +kernel) (by decide +kernel)
set_option maxRecDepth 20000 in
theorem gX5_addPattern_X5_isName : GoodIn wsX5_addPattern (va_wsS RX5 121 yX5_isName wsX5_isName) := goodIn_app (goodIn_of _ (by decide +kernel)) ggX5_addPattern_X5_isName
set_option maxRecDepth 20000 in
theorem ggX5_addPattern_X5_isIn : GoodIn wsX5_addPattern wsX5_isIn := goodIn_r _ [11] (by decide +kernel) (by decide +kernel)
set_option maxRecDepth 20000 in
theorem gX5_addPattern_X5_isIn : GoodIn wsX5_addPattern (va_wsS RX5 87 yX5_isIn wsX5_isIn) := goodIn_app (goodIn_of _ (by decide +kernel)) ggX5_addPattern_X5_isIn
set_option maxRecDepth 20000 in
theorem ggX5_addPattern_X5_isPort : GoodIn wsX5_addPattern wsX5_isPort := goodIn_r _ [17, 9, 10, 6, 11] (by decide +kernel) (by decide +kernel)
set_option maxRecDepth 20000 in
theorem gX5_addPattern_X5_isPort : GoodIn wsX5_addPattern (va_wsS RX5 124 yX5_isPort wsX5_isPort) := goodIn_app (goodIn_of _ (by decide +kernel)) ggX5_addPattern_X5_isPort
set_option maxRecDepth 20000 in
theorem ggX5_addPattern_X5_holds : GoodIn wsX5_addPattern wsX5_holds := goodIn_r _ [21, 22, 31, 32, 33, 34, 35, 36, 37, 38, 39, 40, 41, 42, 43, 44, 45, 46, 47, 48, 49, 50, 51, 52, 53, 54, 55, 56, 57, 58, 59, 60, 61, 62] (by decide +kernel) (by decide +kernel)
set_option maxRecDepth 20000 in
theorem gX5_addPattern_X5_holds : GoodIn wsX5_addPattern (wsV RX5 111 RX5 yX5_holds wsX5_holds) := goodIn_app (goodIn_of _ (by decide +kernel)) ggX5_addPattern_X5_holds
set_option maxRecDepth 20000 in
theorem ggX5_addPattern_X5_addsPattern : GoodIn wsX5_addPattern wsX5_addsPattern := goodIn_r _ [26, 2, 27, 28, 29, 30, 31, 32, 33, 34, 35, 36, 37, 38, 39, 40, 41, 42, 43, 44, 45, 46, 47, 48, 49, 50, 51, 52, 53, 54, 55, 56, 57, 58, 59, 60, 61, 62] (by decide +kernel) (by decide +kernel)
set_option maxRecDepth 20000 in
theorem gX5_addPattern_X5_addsPattern : GoodIn wsX5_addPattern (wsV RX5 127 RX5 yX5_addsPattern wsX5_addsPattern) := goodIn_app (goodIn_of _ (by decide +kernel)) ggX5_addPattern_X5_addsPattern
theorem dX5_addPattern_0 : decode cX5_addPattern 0 = .ok (.aload_n 0, 1) := by decide +kernel
theorem dX5_addPattern_1 : decode cX5_addPattern 1 = .ok (.iload_n 1, 1) := by decide +kernel
theorem dX5_addPattern_2 : decode cX5_addPattern 2 = .ok (.invokevirtual 118, 3) := by decide +kernel
theorem dX5_addPattern_5 : decode cX5_addPattern 5 = .ok (.istore 6, 2) := by decide +kernel
theorem dX5_addPattern_7 : decode cX5_addPattern 7 = .ok (.iload_n 2, 1) := by decide +kernel
theorem dX5_addPattern_8 : decode cX5_addPattern 8 = .ok (.invokestatic 121, 3) := by decide +kernel
theorem dX5_addPattern_11 : decode cX5_addPattern 11 = .ok (.ifCond .eq 25, 3) := by decide +kernel
theorem dX5_addPattern_14 : decode cX5_addPattern 14 = .ok (.iload_n 3, 1) := by decide +kernel
theorem dX5_addPattern_15 : decode cX5_addPattern 15 = .ok (.iconst 0, 1) := by decide +kernel
theorem dX5_addPattern_16 : decode cX5_addPattern 16 = .ok (.bipush 15, 2) := by decide +kernel
theorem dX5_addPattern_18 : decode cX5_addPattern 18 = .ok (.invokestatic 87, 3) := by decide +kernel
theorem dX5_addPattern_21 : decode cX5_addPattern 21 = .ok (.ifCond .eq 15, 3) := by decide +kernel
theorem dX5_addPattern_24 : decode cX5_addPattern 24 = .ok (.iload 4, 2) := by decide +kernel
theorem dX5_addPattern_26 : decode cX5_addPattern 26 = .ok (.invokestatic 124, 3) := by decide +kernel
theorem dX5_addPattern_29 : decode cX5_addPattern 29 = .ok (.ifCond .eq 7, 3) := by decide +kernel
theorem dX5_addPattern_32 : decode cX5_addPattern 32 = .ok (.iconst 1, 1) := by decide +kernel
theorem dX5_addPattern_33 : decode cX5_addPattern 33 = .ok (.goto 4, 3) := by decide +kernel
theorem dX5_addPattern_36 : decode cX5_addPattern 36 = .ok (.iconst 0, 1) := by decide +kernel
theorem dX5_addPattern_37 : decode cX5_addPattern 37 = .ok (.istore 7, 2) := by decide +kernel
theorem dX5_addPattern_39 : decode cX5_addPattern 39 = .ok (.aload_n 0, 1) := by decide +kernel
theorem dX5_addPattern_40 : decode cX5_addPattern 40 = .ok (.iload 6, 2) := by decide +kernel
theorem dX5_addPattern_42 : decode cX5_addPattern 42 = .ok (.ifCond .ne 7, 3) := by decide +kernel
theorem dX5_addPattern_45 : decode cX5_addPattern 45 = .ok (.iconst 1, 1) := by decide +kernel
theorem dX5_addPattern_46 : decode cX5_addPattern 46 = .ok (.goto 37, 3) := by decide +kernel
theorem dX5_addPattern_49 : decode cX5_addPattern 49 = .ok (.iload 7, 2) := by decide +kernel
theorem dX5_addPattern_51 : decode cX5_addPattern 51 = .ok (.ifCond .ne 7, 3) := by decide +kernel
theorem dX5_addPattern_54 : decode cX5_addPattern 54 = .ok (.iconst 2, 1) := by decide +kernel
theorem dX5_addPattern_55 : decode cX5_addPattern 55 = .ok (.goto 28, 3) := by decide +kernel
theorem dX5_addPattern_58 : decode cX5_addPattern 58 = .ok (.aload_n 0, 1) := by decide +kernel
theorem dX5_addPattern_59 : decode cX5_addPattern 59 = .ok (.getfield 26, 3) := by decide +kernel
theorem dX5_addPattern_62 : decode cX5_addPattern 62 = .ok (.iload_n 1, 1) := by decide +kernel
theorem dX5_addPattern_63 : decode cX5_addPattern 63 = .ok (.iaload, 1) := by decide +kernel
theorem dX5_addPattern_64 : decode cX5_addPattern 64 = .ok (.iconst (-1), 1) := by decide +kernel
theorem dX5_addPattern_65 : decode cX5_addPattern 65 = .ok (.if_icmp .ne 13, 3) := by decide +kernel
theorem dX5_addPattern_68 : decode cX5_addPattern 68 = .ok (.aload_n 0, 1) := by decide +kernel
theorem dX5_addPattern_69 : decode cX5_addPattern 69 = .ok (.getfield 35, 3) := by decide +kernel
theorem dX5_addPattern_72 : decode cX5_addPattern 72 = .ok (.iload_n 1, 1) := by decide +kernel
theorem dX5_addPattern_73 : decode cX5_addPattern 73 = .ok (.iaload, 1) := by decide +kernel
theorem dX5_addPattern_74 : decode cX5_addPattern 74 = .ok (.iconst 4, 1) := by decide +kernel
theorem dX5_addPattern_75 : decode cX5_addPattern 75 = .ok (.if_icmp .ne 7, 3) := by decide +kernel
theorem dX5_addPattern_78 : decode cX5_addPattern 78 = .ok (.iconst 3, 1) := by decide +kernel
theorem dX5_addPattern_79 : decode cX5_addPattern 79 = .ok (.goto 4, 3) := by decide +kernel
theorem dX5_addPattern_82 : decode cX5_addPattern 82 = .ok (.iconst 0, 1) := by decide +kernel
theorem dX5_addPattern_83 : decode cX5_addPattern 83 = .ok (.invokevirtual 111, 3) := by decide +kernel
theorem dX5_addPattern_86 : decode cX5_addPattern 86 = .ok (.ifCond .ne 5, 3) := by decide +kernel
theorem dX5_addPattern_89 : decode cX5_addPattern 89 = .ok (.iconst 0, 1) := by decide +kernel
theorem dX5_addPattern_90 : decode cX5_addPattern 90 = .ok (.ireturn, 1) := by decide +kernel
theorem dX5_addPattern_91 : decode cX5_addPattern 91 = .ok (.aload_n 0, 1) := by decide +kernel
theorem dX5_addPattern_92 : decode cX5_addPattern 92 = .ok (.iload_n 1, 1) := by decide +kernel
theorem dX5_addPattern_93 : decode cX5_addPattern 93 = .ok (.iload_n 2, 1) := by decide +kernel
theorem dX5_addPattern_94 : decode cX5_addPattern 94 = .ok (.iload_n 3, 1) := by decide +kernel
theorem dX5_addPattern_95 : decode cX5_addPattern 95 = .ok (.iload 4, 2) := by decide +kernel
theorem dX5_addPattern_97 : decode cX5_addPattern 97 = .ok (.iload 5, 2) := by decide +kernel
theorem dX5_addPattern_99 : decode cX5_addPattern 99 = .ok (.invokevirtual 127, 3) := by decide +kernel
theorem dX5_addPattern_102 : decode cX5_addPattern 102 = .ok (.aload_n 0, 1) := by decide +kernel
theorem dX5_addPattern_103 : decode cX5_addPattern 103 = .ok (.getfield 35, 3) := by decide +kernel
theorem dX5_addPattern_106 : decode cX5_addPattern 106 = .ok (.iload_n 1, 1) := by decide +kernel
theorem dX5_addPattern_107 : decode cX5_addPattern 107 = .ok (.iaload, 1) := by decide +kernel
theorem dX5_addPattern_108 : decode cX5_addPattern 108 = .ok (.ireturn, 1) := by decide +kernel
set_option maxRecDepth 20000 in
theorem ggX5_addsHashed_X5_adds : GoodIn wsX5_addsHashed wsX5_adds := goodIn_r _ [9, 10, 2, 11, 12, 13, 14, 1, 15, 19, 20, 21, 22, 23, 24, 25, 26, 27, 28, 29, 30, 31, 32, 33, 34, 35, 36, 37, 38, 39, 40, 41, 42, 43, 44, 45, 46, 47, 48, 49, 50] (by decide +kernel) (by decide +kernel)
set_option maxRecDepth 20000 in
theorem gX5_addsHashed_X5_adds : GoodIn wsX5_addsHashed (wsV RX5 114 RX5 yX5_adds wsX5_adds) := goodIn_app (goodIn_of _ (by decide +kernel)) ggX5_addsHashed_X5_adds
set_option maxRecDepth 20000 in
theorem ggX5_addsHashed_X5_hash : GoodIn wsX5_addsHashed wsX5_hash := goodIn_r _ [18] (by decide +kernel) (by decide +kernel)
set_option maxRecDepth 20000 in
theorem gX5_addsHashed_X5_hash : GoodIn wsX5_addsHashed (va_wsS RX5 94 yX5_hash wsX5_hash) := goodIn_app (goodIn_of _ (by decide +kernel)) ggX5_addsHashed_X5_hash
theorem dX5_addsHashed_0 : decode cX5_addsHashed 0 = .ok (.aload_n 0, 1) := by decide +kernel
theorem dX5_addsHashed_1 : decode cX5_addsHashed 1 = .ok (.iload_n 1, 1) := by decide +kernel
theorem dX5_addsHashed_2 : decode cX5_addsHashed 2 = .ok (.iload_n 2, 1) := by decide +kernel
theorem dX5_addsHashed_3 : decode cX5_addsHashed 3 = .ok (.invokevirtual 114, 3) := by decide +kernel
theorem dX5_addsHashed_6 : decode cX5_addsHashed 6 = .ok (.aload_n 0, 1) := by decide +kernel
theorem dX5_addsHashed_7 : decode cX5_addsHashed 7 = .ok (.getfield 26, 3) := by decide +kernel
theorem dX5_addsHashed_10 : decode cX5_addsHashed 10 = .ok (.aload_n 0, 1) := by decide +kernel
theorem dX5_addsHashed_11 : decode cX5_addsHashed 11 = .ok (.getfield 91, 3) := by decide +kernel
theorem dX5_addsHashed_14 : decode cX5_addsHashed 14 = .ok (.iconst 1, 1) := by decide +kernel
theorem dX5_addsHashed_15 : decode cX5_addsHashed 15 = .ok (.isub, 1) := by decide +kernel
theorem dX5_addsHashed_16 : decode cX5_addsHashed 16 = .ok (.iload 5, 2) := by decide +kernel
theorem dX5_addsHashed_18 : decode cX5_addsHashed 18 = .ok (.iastore, 1) := by decide +kernel
theorem dX5_addsHashed_19 : decode cX5_addsHashed 19 = .ok (.aload_n 0, 1) := by decide +kernel
theorem dX5_addsHashed_20 : decode cX5_addsHashed 20 = .ok (.getfield 29, 3) := by decide +kernel
theorem dX5_addsHashed_23 : decode cX5_addsHashed 23 = .ok (.aload_n 0, 1) := by decide +kernel
theorem dX5_addsHashed_24 : decode cX5_addsHashed 24 = .ok (.getfield 91, 3) := by decide +kernel
theorem dX5_addsHashed_27 : decode cX5_addsHashed 27 = .ok (.iconst 1, 1) := by decide +kernel
theorem dX5_addsHashed_28 : decode cX5_addsHashed 28 = .ok (.isub, 1) := by decide +kernel
theorem dX5_addsHashed_29 : decode cX5_addsHashed 29 = .ok (.iload_n 3, 1) := by decide +kernel
theorem dX5_addsHashed_30 : decode cX5_addsHashed 30 = .ok (.iload 5, 2) := by decide +kernel
theorem dX5_addsHashed_32 : decode cX5_addsHashed 32 = .ok (.invokestatic 94, 3) := by decide +kernel
theorem dX5_addsHashed_35 : decode cX5_addsHashed 35 = .ok (.iastore, 1) := by decide +kernel
theorem dX5_addsHashed_36 : decode cX5_addsHashed 36 = .ok (.aload_n 0, 1) := by decide +kernel
theorem dX5_addsHashed_37 : decode cX5_addsHashed 37 = .ok (.getfield 32, 3) := by decide +kernel
theorem dX5_addsHashed_40 : decode cX5_addsHashed 40 = .ok (.aload_n 0, 1) := by decide +kernel
theorem dX5_addsHashed_41 : decode cX5_addsHashed 41 = .ok (.getfield 91, 3) := by decide +kernel
theorem dX5_addsHashed_44 : decode cX5_addsHashed 44 = .ok (.iconst 1, 1) := by decide +kernel
theorem dX5_addsHashed_45 : decode cX5_addsHashed 45 = .ok (.isub, 1) := by decide +kernel
theorem dX5_addsHashed_46 : decode cX5_addsHashed 46 = .ok (.iload 4, 2) := by decide +kernel
theorem dX5_addsHashed_48 : decode cX5_addsHashed 48 = .ok (.iastore, 1) := by decide +kernel
theorem dX5_addsHashed_49 : decode cX5_addsHashed 49 = .ok (.return_, 1) := by decide +kernel
set_option maxRecDepth 20000 in
theorem ggX5_addHashed_X5_isMark : GoodIn wsX5_addHashed wsX5_isMark := goodIn_r _ [5, 6, 7, 4, 8] (by decide +kernel) (by decide +kernel)
set_option maxRecDepth 20000 in
theorem gX5_addHashed_X5_isMark : GoodIn wsX5_addHashed (va_wsS RX5 104 yX5_isMark wsX5_isMark) := goodIn_app (goodIn_of _ (by decide +kernel)) ggX5_addHashed_X5_isMark
set_option maxRecDepth 20000 in
theorem ggX5_addHashed_X5_isKey : GoodIn wsX5_addHashed wsX5_isKey := goodIn_r _ [11, 6, 7, 4, 8] (by decide +kernel) (by decide +kernel)
set_option maxRecDepth 20000 in
theorem gX5_addHashed_X5_isKey : GoodIn wsX5_addHashed (va_wsS RX5 108 yX5_isKey wsX5_isKey) := goodIn_app (goodIn_of _ (by decide +kernel)) ggX5_addHashed_X5_isKey
set_option maxRecDepth 20000 in
theorem ggX5_addHashed_X5_isName : GoodIn wsX5_addHashed wsX5_isName := goodIn_r _ [14, 6, 7, 4, 8] (by decide +kernel) (by decide +kernel)
set_option maxRecDepth 20000 in
theorem gX5_addHashed_X5_isName : GoodIn wsX5_addHashed (va_wsS RX5 121 yX5_isName wsX5_isName) := goodIn_app (goodIn_of _ (by decide +kernel)) ggX5_addHashed_X5_isName
set_option maxRecDepth 20000 in
theorem ggX5_addHashed_X5_isPort : GoodIn wsX5_addHashed wsX5_isPort := goodIn_r _ [17, 6, 7, 4, 8] (by decide +kernel) (by decide +kernel)
set_option maxRecDepth 20000 in
theorem gX5_addHashed_X5_isPort : GoodIn wsX5_addHashed (va_wsS RX5 124 yX5_isPort wsX5_isPort) := goodIn_app (goodIn_of _ (by decide +kernel)) ggX5_addHashed_X5_isPort
set_option maxRecDepth 20000 in
theorem ggX5_addHashed_X5_isIn : GoodIn wsX5_addHashed wsX5_isIn := goodIn_r _ [8] (by decide +kernel) (by decide +kernel)
set_option maxRecDepth 20000 in
theorem gX5_addHashed_X5_isIn : GoodIn wsX5_addHashed (va_wsS RX5 87 yX5_isIn wsX5_isIn) := goodIn_app (goodIn_of _ (by decide +kernel)) ggX5_addHashed_X5_isIn
set_option maxRecDepth 20000 in
theorem ggX5_addHashed_X5_holds : GoodIn wsX5_addHashed wsX5_holds := goodIn_r _ [21, 22, 43, 44, 45, 46, 47, 48, 49, 50, 51, 52, 53, 54, 55, 56, 57, 58, 59, 60, 61, 62, 63, 64, 65, 66, 67, 68, 69, 70, 71, 72, 73, 74] (by decide +kernel) (by decide +kernel)
set_option maxRecDepth 20000 in
theorem gX5_addHashed_X5_holds : GoodIn wsX5_addHashed (wsV RX5 111 RX5 yX5_holds wsX5_holds) := goodIn_app (goodIn_of _ (by decide +kernel)) ggX5_addHashed_X5_holds
set_option maxRecDepth 20000 in
theorem ggX5_addHashed_X5_addsHashed : GoodIn wsX5_addHashed wsX5_addsHashed := goodIn_r _ [26, 27, 1, 28, 29, 30, 31, 32, 4, 33, 34, 35, 36, 37, 38, 39, 40, 41, 42, 43, 44, 45, 46, 47, 48, 49, 50, 51, 52, 53, 54, 55, 56, 57, 58, 59, 60, 61, 62, 63, 64, 65, 66, 67, 68, 69, 70, 71, 72, 73, 74] (by decide +kernel) (by decide +kernel)
set_option maxRecDepth 20000 in
theorem gX5_addHashed_X5_addsHashed : GoodIn wsX5_addHashed (wsV RX5 131 RX5 yX5_addsHashed wsX5_addsHashed) := goodIn_app (goodIn_of _ (by decide +kernel)) ggX5_addHashed_X5_addsHashed
theorem dX5_addHashed_0 : decode cX5_addHashed 0 = .ok (.iload_n 1, 1) := by decide +kernel
theorem dX5_addHashed_1 : decode cX5_addHashed 1 = .ok (.invokestatic 104, 3) := by decide +kernel
theorem dX5_addHashed_4 : decode cX5_addHashed 4 = .ok (.ifCond .eq 40, 3) := by decide +kernel
theorem dX5_addHashed_7 : decode cX5_addHashed 7 = .ok (.iload_n 2, 1) := by decide +kernel
theorem dX5_addHashed_8 : decode cX5_addHashed 8 = .ok (.invokestatic 108, 3) := by decide +kernel
theorem dX5_addHashed_11 : decode cX5_addHashed 11 = .ok (.ifCond .eq 33, 3) := by decide +kernel
theorem dX5_addHashed_14 : decode cX5_addHashed 14 = .ok (.iload_n 3, 1) := by decide +kernel
theorem dX5_addHashed_15 : decode cX5_addHashed 15 = .ok (.invokestatic 121, 3) := by decide +kernel
theorem dX5_addHashed_18 : decode cX5_addHashed 18 = .ok (.ifCond .eq 26, 3) := by decide +kernel
theorem dX5_addHashed_21 : decode cX5_addHashed 21 = .ok (.iload 4, 2) := by decide +kernel
theorem dX5_addHashed_23 : decode cX5_addHashed 23 = .ok (.invokestatic 124, 3) := by decide +kernel
theorem dX5_addHashed_26 : decode cX5_addHashed 26 = .ok (.ifCond .eq 18, 3) := by decide +kernel
theorem dX5_addHashed_29 : decode cX5_addHashed 29 = .ok (.iload 5, 2) := by decide +kernel
theorem dX5_addHashed_31 : decode cX5_addHashed 31 = .ok (.iconst 0, 1) := by decide +kernel
theorem dX5_addHashed_32 : decode cX5_addHashed 32 = .ok (.bipush 99, 2) := by decide +kernel
theorem dX5_addHashed_34 : decode cX5_addHashed 34 = .ok (.invokestatic 87, 3) := by decide +kernel
theorem dX5_addHashed_37 : decode cX5_addHashed 37 = .ok (.ifCond .eq 7, 3) := by decide +kernel
theorem dX5_addHashed_40 : decode cX5_addHashed 40 = .ok (.iconst 1, 1) := by decide +kernel
theorem dX5_addHashed_41 : decode cX5_addHashed 41 = .ok (.goto 4, 3) := by decide +kernel
theorem dX5_addHashed_44 : decode cX5_addHashed 44 = .ok (.iconst 0, 1) := by decide +kernel
theorem dX5_addHashed_45 : decode cX5_addHashed 45 = .ok (.istore 6, 2) := by decide +kernel
theorem dX5_addHashed_47 : decode cX5_addHashed 47 = .ok (.aload_n 0, 1) := by decide +kernel
theorem dX5_addHashed_48 : decode cX5_addHashed 48 = .ok (.iload 6, 2) := by decide +kernel
theorem dX5_addHashed_50 : decode cX5_addHashed 50 = .ok (.ifCond .ne 7, 3) := by decide +kernel
theorem dX5_addHashed_53 : decode cX5_addHashed 53 = .ok (.iconst 1, 1) := by decide +kernel
theorem dX5_addHashed_54 : decode cX5_addHashed 54 = .ok (.goto 17, 3) := by decide +kernel
theorem dX5_addHashed_57 : decode cX5_addHashed 57 = .ok (.aload_n 0, 1) := by decide +kernel
theorem dX5_addHashed_58 : decode cX5_addHashed 58 = .ok (.getfield 91, 3) := by decide +kernel
theorem dX5_addHashed_61 : decode cX5_addHashed 61 = .ok (.bipush 40, 2) := by decide +kernel
theorem dX5_addHashed_63 : decode cX5_addHashed 63 = .ok (.if_icmp .ne 7, 3) := by decide +kernel
theorem dX5_addHashed_66 : decode cX5_addHashed 66 = .ok (.iconst 2, 1) := by decide +kernel
theorem dX5_addHashed_67 : decode cX5_addHashed 67 = .ok (.goto 4, 3) := by decide +kernel
theorem dX5_addHashed_70 : decode cX5_addHashed 70 = .ok (.iconst 0, 1) := by decide +kernel
theorem dX5_addHashed_71 : decode cX5_addHashed 71 = .ok (.invokevirtual 111, 3) := by decide +kernel
theorem dX5_addHashed_74 : decode cX5_addHashed 74 = .ok (.ifCond .ne 5, 3) := by decide +kernel
theorem dX5_addHashed_77 : decode cX5_addHashed 77 = .ok (.iconst 0, 1) := by decide +kernel
theorem dX5_addHashed_78 : decode cX5_addHashed 78 = .ok (.ireturn, 1) := by decide +kernel
theorem dX5_addHashed_79 : decode cX5_addHashed 79 = .ok (.aload_n 0, 1) := by decide +kernel
theorem dX5_addHashed_80 : decode cX5_addHashed 80 = .ok (.iload_n 1, 1) := by decide +kernel
theorem dX5_addHashed_81 : decode cX5_addHashed 81 = .ok (.iload_n 2, 1) := by decide +kernel
theorem dX5_addHashed_82 : decode cX5_addHashed 82 = .ok (.iload_n 3, 1) := by decide +kernel
theorem dX5_addHashed_83 : decode cX5_addHashed 83 = .ok (.iload 4, 2) := by decide +kernel
theorem dX5_addHashed_85 : decode cX5_addHashed 85 = .ok (.iload 5, 2) := by decide +kernel
theorem dX5_addHashed_87 : decode cX5_addHashed 87 = .ok (.invokevirtual 131, 3) := by decide +kernel
theorem dX5_addHashed_90 : decode cX5_addHashed 90 = .ok (.aload_n 0, 1) := by decide +kernel
theorem dX5_addHashed_91 : decode cX5_addHashed 91 = .ok (.getfield 91, 3) := by decide +kernel
theorem dX5_addHashed_94 : decode cX5_addHashed 94 = .ok (.iconst 1, 1) := by decide +kernel
theorem dX5_addHashed_95 : decode cX5_addHashed 95 = .ok (.isub, 1) := by decide +kernel
theorem dX5_addHashed_96 : decode cX5_addHashed 96 = .ok (.ireturn, 1) := by decide +kernel
theorem dX5_becomesLike_0 : decode cX5_becomesLike 0 = .ok (.aload_n 0, 1) := by decide +kernel
theorem dX5_becomesLike_1 : decode cX5_becomesLike 1 = .ok (.getfield 26, 3) := by decide +kernel
theorem dX5_becomesLike_4 : decode cX5_becomesLike 4 = .ok (.iload_n 1, 1) := by decide +kernel
theorem dX5_becomesLike_5 : decode cX5_becomesLike 5 = .ok (.aload_n 0, 1) := by decide +kernel
theorem dX5_becomesLike_6 : decode cX5_becomesLike 6 = .ok (.getfield 26, 3) := by decide +kernel
theorem dX5_becomesLike_9 : decode cX5_becomesLike 9 = .ok (.iload_n 2, 1) := by decide +kernel
theorem dX5_becomesLike_10 : decode cX5_becomesLike 10 = .ok (.iaload, 1) := by decide +kernel
theorem dX5_becomesLike_11 : decode cX5_becomesLike 11 = .ok (.iastore, 1) := by decide +kernel
theorem dX5_becomesLike_12 : decode cX5_becomesLike 12 = .ok (.aload_n 0, 1) := by decide +kernel
theorem dX5_becomesLike_13 : decode cX5_becomesLike 13 = .ok (.getfield 29, 3) := by decide +kernel
theorem dX5_becomesLike_16 : decode cX5_becomesLike 16 = .ok (.iload_n 1, 1) := by decide +kernel
theorem dX5_becomesLike_17 : decode cX5_becomesLike 17 = .ok (.aload_n 0, 1) := by decide +kernel
theorem dX5_becomesLike_18 : decode cX5_becomesLike 18 = .ok (.getfield 29, 3) := by decide +kernel
theorem dX5_becomesLike_21 : decode cX5_becomesLike 21 = .ok (.iload_n 2, 1) := by decide +kernel
theorem dX5_becomesLike_22 : decode cX5_becomesLike 22 = .ok (.iaload, 1) := by decide +kernel
theorem dX5_becomesLike_23 : decode cX5_becomesLike 23 = .ok (.iastore, 1) := by decide +kernel
theorem dX5_becomesLike_24 : decode cX5_becomesLike 24 = .ok (.aload_n 0, 1) := by decide +kernel
theorem dX5_becomesLike_25 : decode cX5_becomesLike 25 = .ok (.getfield 32, 3) := by decide +kernel
theorem dX5_becomesLike_28 : decode cX5_becomesLike 28 = .ok (.iload_n 1, 1) := by decide +kernel
theorem dX5_becomesLike_29 : decode cX5_becomesLike 29 = .ok (.aload_n 0, 1) := by decide +kernel
theorem dX5_becomesLike_30 : decode cX5_becomesLike 30 = .ok (.getfield 32, 3) := by decide +kernel
theorem dX5_becomesLike_33 : decode cX5_becomesLike 33 = .ok (.iload_n 2, 1) := by decide +kernel
theorem dX5_becomesLike_34 : decode cX5_becomesLike 34 = .ok (.iaload, 1) := by decide +kernel
theorem dX5_becomesLike_35 : decode cX5_becomesLike 35 = .ok (.iastore, 1) := by decide +kernel
theorem dX5_becomesLike_36 : decode cX5_becomesLike 36 = .ok (.aload_n 0, 1) := by decide +kernel
theorem dX5_becomesLike_37 : decode cX5_becomesLike 37 = .ok (.getfield 35, 3) := by decide +kernel
theorem dX5_becomesLike_40 : decode cX5_becomesLike 40 = .ok (.iload_n 1, 1) := by decide +kernel
theorem dX5_becomesLike_41 : decode cX5_becomesLike 41 = .ok (.aload_n 0, 1) := by decide +kernel
theorem dX5_becomesLike_42 : decode cX5_becomesLike 42 = .ok (.getfield 35, 3) := by decide +kernel
theorem dX5_becomesLike_45 : decode cX5_becomesLike 45 = .ok (.iload_n 2, 1) := by decide +kernel
theorem dX5_becomesLike_46 : decode cX5_becomesLike 46 = .ok (.iaload, 1) := by decide +kernel
theorem dX5_becomesLike_47 : decode cX5_becomesLike 47 = .ok (.iastore, 1) := by decide +kernel
theorem dX5_becomesLike_48 : decode cX5_becomesLike 48 = .ok (.iconst 0, 1) := by decide +kernel
theorem dX5_becomesLike_49 : decode cX5_becomesLike 49 = .ok (.istore_n 3, 1) := by decide +kernel
theorem dX5_becomesLike_50 : decode cX5_becomesLike 50 = .ok (.iload_n 3, 1) := by decide +kernel
theorem dX5_becomesLike_51 : decode cX5_becomesLike 51 = .ok (.iconst 4, 1) := by decide +kernel
theorem dX5_becomesLike_52 : decode cX5_becomesLike 52 = .ok (.if_icmp .ge 89, 3) := by decide +kernel
theorem dX5_becomesLike_55 : decode cX5_becomesLike 55 = .ok (.aload_n 0, 1) := by decide +kernel
theorem dX5_becomesLike_56 : decode cX5_becomesLike 56 = .ok (.getfield 38, 3) := by decide +kernel
theorem dX5_becomesLike_59 : decode cX5_becomesLike 59 = .ok (.iconst 4, 1) := by decide +kernel
theorem dX5_becomesLike_60 : decode cX5_becomesLike 60 = .ok (.iload_n 1, 1) := by decide +kernel
theorem dX5_becomesLike_61 : decode cX5_becomesLike 61 = .ok (.imul, 1) := by decide +kernel
theorem dX5_becomesLike_62 : decode cX5_becomesLike 62 = .ok (.iload_n 3, 1) := by decide +kernel
theorem dX5_becomesLike_63 : decode cX5_becomesLike 63 = .ok (.iadd, 1) := by decide +kernel
theorem dX5_becomesLike_64 : decode cX5_becomesLike 64 = .ok (.aload_n 0, 1) := by decide +kernel
theorem dX5_becomesLike_65 : decode cX5_becomesLike 65 = .ok (.getfield 38, 3) := by decide +kernel
theorem dX5_becomesLike_68 : decode cX5_becomesLike 68 = .ok (.iconst 4, 1) := by decide +kernel
theorem dX5_becomesLike_69 : decode cX5_becomesLike 69 = .ok (.iload_n 2, 1) := by decide +kernel
theorem dX5_becomesLike_70 : decode cX5_becomesLike 70 = .ok (.imul, 1) := by decide +kernel
theorem dX5_becomesLike_71 : decode cX5_becomesLike 71 = .ok (.iload_n 3, 1) := by decide +kernel
theorem dX5_becomesLike_72 : decode cX5_becomesLike 72 = .ok (.iadd, 1) := by decide +kernel
theorem dX5_becomesLike_73 : decode cX5_becomesLike 73 = .ok (.iaload, 1) := by decide +kernel
theorem dX5_becomesLike_74 : decode cX5_becomesLike 74 = .ok (.iastore, 1) := by decide +kernel
theorem dX5_becomesLike_75 : decode cX5_becomesLike 75 = .ok (.aload_n 0, 1) := by decide +kernel
theorem dX5_becomesLike_76 : decode cX5_becomesLike 76 = .ok (.getfield 41, 3) := by decide +kernel
theorem dX5_becomesLike_79 : decode cX5_becomesLike 79 = .ok (.iconst 4, 1) := by decide +kernel
theorem dX5_becomesLike_80 : decode cX5_becomesLike 80 = .ok (.iload_n 1, 1) := by decide +kernel
theorem dX5_becomesLike_81 : decode cX5_becomesLike 81 = .ok (.imul, 1) := by decide +kernel
theorem dX5_becomesLike_82 : decode cX5_becomesLike 82 = .ok (.iload_n 3, 1) := by decide +kernel
theorem dX5_becomesLike_83 : decode cX5_becomesLike 83 = .ok (.iadd, 1) := by decide +kernel
theorem dX5_becomesLike_84 : decode cX5_becomesLike 84 = .ok (.aload_n 0, 1) := by decide +kernel
theorem dX5_becomesLike_85 : decode cX5_becomesLike 85 = .ok (.getfield 41, 3) := by decide +kernel
theorem dX5_becomesLike_88 : decode cX5_becomesLike 88 = .ok (.iconst 4, 1) := by decide +kernel
theorem dX5_becomesLike_89 : decode cX5_becomesLike 89 = .ok (.iload_n 2, 1) := by decide +kernel
theorem dX5_becomesLike_90 : decode cX5_becomesLike 90 = .ok (.imul, 1) := by decide +kernel
theorem dX5_becomesLike_91 : decode cX5_becomesLike 91 = .ok (.iload_n 3, 1) := by decide +kernel
theorem dX5_becomesLike_92 : decode cX5_becomesLike 92 = .ok (.iadd, 1) := by decide +kernel
theorem dX5_becomesLike_93 : decode cX5_becomesLike 93 = .ok (.iaload, 1) := by decide +kernel
theorem dX5_becomesLike_94 : decode cX5_becomesLike 94 = .ok (.iastore, 1) := by decide +kernel
theorem dX5_becomesLike_95 : decode cX5_becomesLike 95 = .ok (.aload_n 0, 1) := by decide +kernel
theorem dX5_becomesLike_96 : decode cX5_becomesLike 96 = .ok (.getfield 44, 3) := by decide +kernel
theorem dX5_becomesLike_99 : decode cX5_becomesLike 99 = .ok (.iconst 4, 1) := by decide +kernel
theorem dX5_becomesLike_100 : decode cX5_becomesLike 100 = .ok (.iload_n 1, 1) := by decide +kernel
theorem dX5_becomesLike_101 : decode cX5_becomesLike 101 = .ok (.imul, 1) := by decide +kernel
theorem dX5_becomesLike_102 : decode cX5_becomesLike 102 = .ok (.iload_n 3, 1) := by decide +kernel
theorem dX5_becomesLike_103 : decode cX5_becomesLike 103 = .ok (.iadd, 1) := by decide +kernel
theorem dX5_becomesLike_104 : decode cX5_becomesLike 104 = .ok (.aload_n 0, 1) := by decide +kernel
theorem dX5_becomesLike_105 : decode cX5_becomesLike 105 = .ok (.getfield 44, 3) := by decide +kernel
theorem dX5_becomesLike_108 : decode cX5_becomesLike 108 = .ok (.iconst 4, 1) := by decide +kernel
theorem dX5_becomesLike_109 : decode cX5_becomesLike 109 = .ok (.iload_n 2, 1) := by decide +kernel
theorem dX5_becomesLike_110 : decode cX5_becomesLike 110 = .ok (.imul, 1) := by decide +kernel
theorem dX5_becomesLike_111 : decode cX5_becomesLike 111 = .ok (.iload_n 3, 1) := by decide +kernel
theorem dX5_becomesLike_112 : decode cX5_becomesLike 112 = .ok (.iadd, 1) := by decide +kernel
theorem dX5_becomesLike_113 : decode cX5_becomesLike 113 = .ok (.iaload, 1) := by decide +kernel
theorem dX5_becomesLike_114 : decode cX5_becomesLike 114 = .ok (.iastore, 1) := by decide +kernel
theorem dX5_becomesLike_115 : decode cX5_becomesLike 115 = .ok (.aload_n 0, 1) := by decide +kernel
theorem dX5_becomesLike_116 : decode cX5_becomesLike 116 = .ok (.getfield 47, 3) := by decide +kernel
theorem dX5_becomesLike_119 : decode cX5_becomesLike 119 = .ok (.iconst 4, 1) := by decide +kernel
theorem dX5_becomesLike_120 : decode cX5_becomesLike 120 = .ok (.iload_n 1, 1) := by decide +kernel
theorem dX5_becomesLike_121 : decode cX5_becomesLike 121 = .ok (.imul, 1) := by decide +kernel
theorem dX5_becomesLike_122 : decode cX5_becomesLike 122 = .ok (.iload_n 3, 1) := by decide +kernel
theorem dX5_becomesLike_123 : decode cX5_becomesLike 123 = .ok (.iadd, 1) := by decide +kernel
theorem dX5_becomesLike_124 : decode cX5_becomesLike 124 = .ok (.aload_n 0, 1) := by decide +kernel
theorem dX5_becomesLike_125 : decode cX5_becomesLike 125 = .ok (.getfield 47, 3) := by decide +kernel
theorem dX5_becomesLike_128 : decode cX5_becomesLike 128 = .ok (.iconst 4, 1) := by decide +kernel
theorem dX5_becomesLike_129 : decode cX5_becomesLike 129 = .ok (.iload_n 2, 1) := by decide +kernel
theorem dX5_becomesLike_130 : decode cX5_becomesLike 130 = .ok (.imul, 1) := by decide +kernel
theorem dX5_becomesLike_131 : decode cX5_becomesLike 131 = .ok (.iload_n 3, 1) := by decide +kernel
theorem dX5_becomesLike_132 : decode cX5_becomesLike 132 = .ok (.iadd, 1) := by decide +kernel
theorem dX5_becomesLike_133 : decode cX5_becomesLike 133 = .ok (.baload, 1) := by decide +kernel
theorem dX5_becomesLike_134 : decode cX5_becomesLike 134 = .ok (.bastore, 1) := by decide +kernel
theorem dX5_becomesLike_135 : decode cX5_becomesLike 135 = .ok (.iinc 3 1, 3) := by decide +kernel
theorem dX5_becomesLike_138 : decode cX5_becomesLike 138 = .ok (.goto (-88), 3) := by decide +kernel
theorem dX5_becomesLike_141 : decode cX5_becomesLike 141 = .ok (.return_, 1) := by decide +kernel
set_option maxRecDepth 20000 in
theorem ggX5_removes_X5_becomesLike : GoodIn wsX5_removes wsX5_becomesLike := goodIn_r _ [10, 11, 12, 13, 14, 15, 16, 17, 18, 19, 20, 21, 22, 23, 24, 25, 26, 27, 28, 29, 30, 31, 32, 33, 34, 35, 36, 37, 38, 39, 40, 41, 42, 43, 44, 45, 46, 47, 48, 49, 50] (by decide +kernel) (by decide +kernel)
set_option maxRecDepth 20000 in
theorem gX5_removes_X5_becomesLike : GoodIn wsX5_removes (wsV RX5 135 RX5 yX5_becomesLike wsX5_becomesLike) := goodIn_app (goodIn_of _ (by decide +kernel)) ggX5_removes_X5_becomesLike
theorem dX5_removes_0 : decode cX5_removes 0 = .ok (.aload_n 0, 1) := by decide +kernel
theorem dX5_removes_1 : decode cX5_removes 1 = .ok (.dup, 1) := by decide +kernel
theorem dX5_removes_2 : decode cX5_removes 2 = .ok (.getfield 91, 3) := by decide +kernel
theorem dX5_removes_5 : decode cX5_removes 5 = .ok (.iconst 1, 1) := by decide +kernel
theorem dX5_removes_6 : decode cX5_removes 6 = .ok (.isub, 1) := by decide +kernel
theorem dX5_removes_7 : decode cX5_removes 7 = .ok (.putfield 91, 3) := by decide +kernel
theorem dX5_removes_10 : decode cX5_removes 10 = .ok (.iload_n 1, 1) := by decide +kernel
theorem dX5_removes_11 : decode cX5_removes 11 = .ok (.istore_n 2, 1) := by decide +kernel
theorem dX5_removes_12 : decode cX5_removes 12 = .ok (.iload_n 2, 1) := by decide +kernel
theorem dX5_removes_13 : decode cX5_removes 13 = .ok (.aload_n 0, 1) := by decide +kernel
theorem dX5_removes_14 : decode cX5_removes 14 = .ok (.getfield 91, 3) := by decide +kernel
theorem dX5_removes_17 : decode cX5_removes 17 = .ok (.if_icmp .ge 73, 3) := by decide +kernel
theorem dX5_removes_20 : decode cX5_removes 20 = .ok (.aload_n 0, 1) := by decide +kernel
theorem dX5_removes_21 : decode cX5_removes 21 = .ok (.getfield 13, 3) := by decide +kernel
theorem dX5_removes_24 : decode cX5_removes 24 = .ok (.iload_n 2, 1) := by decide +kernel
theorem dX5_removes_25 : decode cX5_removes 25 = .ok (.aload_n 0, 1) := by decide +kernel
theorem dX5_removes_26 : decode cX5_removes 26 = .ok (.getfield 13, 3) := by decide +kernel
theorem dX5_removes_29 : decode cX5_removes 29 = .ok (.iload_n 2, 1) := by decide +kernel
theorem dX5_removes_30 : decode cX5_removes 30 = .ok (.iconst 1, 1) := by decide +kernel
theorem dX5_removes_31 : decode cX5_removes 31 = .ok (.iadd, 1) := by decide +kernel
theorem dX5_removes_32 : decode cX5_removes 32 = .ok (.iaload, 1) := by decide +kernel
theorem dX5_removes_33 : decode cX5_removes 33 = .ok (.iastore, 1) := by decide +kernel
theorem dX5_removes_34 : decode cX5_removes 34 = .ok (.aload_n 0, 1) := by decide +kernel
theorem dX5_removes_35 : decode cX5_removes 35 = .ok (.getfield 17, 3) := by decide +kernel
theorem dX5_removes_38 : decode cX5_removes 38 = .ok (.iload_n 2, 1) := by decide +kernel
theorem dX5_removes_39 : decode cX5_removes 39 = .ok (.aload_n 0, 1) := by decide +kernel
theorem dX5_removes_40 : decode cX5_removes 40 = .ok (.getfield 17, 3) := by decide +kernel
theorem dX5_removes_43 : decode cX5_removes 43 = .ok (.iload_n 2, 1) := by decide +kernel
theorem dX5_removes_44 : decode cX5_removes 44 = .ok (.iconst 1, 1) := by decide +kernel
theorem dX5_removes_45 : decode cX5_removes 45 = .ok (.iadd, 1) := by decide +kernel
theorem dX5_removes_46 : decode cX5_removes 46 = .ok (.iaload, 1) := by decide +kernel
theorem dX5_removes_47 : decode cX5_removes 47 = .ok (.iastore, 1) := by decide +kernel
theorem dX5_removes_48 : decode cX5_removes 48 = .ok (.aload_n 0, 1) := by decide +kernel
theorem dX5_removes_49 : decode cX5_removes 49 = .ok (.getfield 20, 3) := by decide +kernel
theorem dX5_removes_52 : decode cX5_removes 52 = .ok (.iload_n 2, 1) := by decide +kernel
theorem dX5_removes_53 : decode cX5_removes 53 = .ok (.aload_n 0, 1) := by decide +kernel
theorem dX5_removes_54 : decode cX5_removes 54 = .ok (.getfield 20, 3) := by decide +kernel
theorem dX5_removes_57 : decode cX5_removes 57 = .ok (.iload_n 2, 1) := by decide +kernel
theorem dX5_removes_58 : decode cX5_removes 58 = .ok (.iconst 1, 1) := by decide +kernel
theorem dX5_removes_59 : decode cX5_removes 59 = .ok (.iadd, 1) := by decide +kernel
theorem dX5_removes_60 : decode cX5_removes 60 = .ok (.iaload, 1) := by decide +kernel
theorem dX5_removes_61 : decode cX5_removes 61 = .ok (.iastore, 1) := by decide +kernel
theorem dX5_removes_62 : decode cX5_removes 62 = .ok (.aload_n 0, 1) := by decide +kernel
theorem dX5_removes_63 : decode cX5_removes 63 = .ok (.getfield 23, 3) := by decide +kernel
theorem dX5_removes_66 : decode cX5_removes 66 = .ok (.iload_n 2, 1) := by decide +kernel
theorem dX5_removes_67 : decode cX5_removes 67 = .ok (.aload_n 0, 1) := by decide +kernel
theorem dX5_removes_68 : decode cX5_removes 68 = .ok (.getfield 23, 3) := by decide +kernel
theorem dX5_removes_71 : decode cX5_removes 71 = .ok (.iload_n 2, 1) := by decide +kernel
theorem dX5_removes_72 : decode cX5_removes 72 = .ok (.iconst 1, 1) := by decide +kernel
theorem dX5_removes_73 : decode cX5_removes 73 = .ok (.iadd, 1) := by decide +kernel
theorem dX5_removes_74 : decode cX5_removes 74 = .ok (.iaload, 1) := by decide +kernel
theorem dX5_removes_75 : decode cX5_removes 75 = .ok (.iastore, 1) := by decide +kernel
theorem dX5_removes_76 : decode cX5_removes 76 = .ok (.aload_n 0, 1) := by decide +kernel
theorem dX5_removes_77 : decode cX5_removes 77 = .ok (.iload_n 2, 1) := by decide +kernel
theorem dX5_removes_78 : decode cX5_removes 78 = .ok (.iload_n 2, 1) := by decide +kernel
theorem dX5_removes_79 : decode cX5_removes 79 = .ok (.iconst 1, 1) := by decide +kernel
theorem dX5_removes_80 : decode cX5_removes 80 = .ok (.iadd, 1) := by decide +kernel
theorem dX5_removes_81 : decode cX5_removes 81 = .ok (.invokevirtual 135, 3) := by decide +kernel
theorem dX5_removes_84 : decode cX5_removes 84 = .ok (.iinc 2 1, 3) := by decide +kernel
theorem dX5_removes_87 : decode cX5_removes 87 = .ok (.goto (-75), 3) := by decide +kernel
theorem dX5_removes_90 : decode cX5_removes 90 = .ok (.return_, 1) := by decide +kernel
set_option maxRecDepth 20000 in
theorem ggX5_remove_X5_isLine : GoodIn wsX5_remove wsX5_isLine := goodIn_r _ [6, 7, 8, 9, 5, 10, 35, 36, 37, 38, 39, 40, 41, 42, 43, 44, 45, 46, 47, 48, 49, 50, 51, 52, 53, 54, 55, 56, 57, 58, 59, 60, 61, 62, 63, 64, 65, 66] (by decide +kernel) (by decide +kernel)
set_option maxRecDepth 20000 in
theorem gX5_remove_X5_isLine : GoodIn wsX5_remove (wsV RX5 118 RX5 yX5_isLine wsX5_isLine) := goodIn_app (goodIn_of _ (by decide +kernel)) ggX5_remove_X5_isLine
set_option maxRecDepth 20000 in
theorem ggX5_remove_X5_holds : GoodIn wsX5_remove wsX5_holds := goodIn_r _ [14, 15, 35, 36, 37, 38, 39, 40, 41, 42, 43, 44, 45, 46, 47, 48, 49, 50, 51, 52, 53, 54, 55, 56, 57, 58, 59, 60, 61, 62, 63, 64, 65, 66] (by decide +kernel) (by decide +kernel)
set_option maxRecDepth 20000 in
theorem gX5_remove_X5_holds : GoodIn wsX5_remove (wsV RX5 111 RX5 yX5_holds wsX5_holds) := goodIn_app (goodIn_of _ (by decide +kernel)) ggX5_remove_X5_holds
set_option maxRecDepth 20000 in
theorem ggX5_remove_X5_removes : GoodIn wsX5_remove wsX5_removes := goodIn_r _ [19, 7, 1, 20, 21, 22, 23, 24, 25, 5, 26, 27, 28, 29, 30, 31, 32, 33, 34, 35, 36, 37, 38, 39, 40, 41, 42, 43, 44, 45, 46, 47, 48, 49, 50, 51, 52, 53, 54, 55, 56, 57, 58, 59, 60, 61, 62, 63, 64, 65, 66] (by decide +kernel) (by decide +kernel)
set_option maxRecDepth 20000 in
theorem gX5_remove_X5_removes : GoodIn wsX5_remove (wsV RX5 138 RX5 yX5_removes wsX5_removes) := goodIn_app (goodIn_of _ (by decide +kernel)) ggX5_remove_X5_removes
theorem dX5_remove_0 : decode cX5_remove 0 = .ok (.aload_n 0, 1) := by decide +kernel
theorem dX5_remove_1 : decode cX5_remove 1 = .ok (.aload_n 0, 1) := by decide +kernel
theorem dX5_remove_2 : decode cX5_remove 2 = .ok (.iload_n 1, 1) := by decide +kernel
theorem dX5_remove_3 : decode cX5_remove 3 = .ok (.invokevirtual 118, 3) := by decide +kernel
theorem dX5_remove_6 : decode cX5_remove 6 = .ok (.ifCond .eq 7, 3) := by decide +kernel
theorem dX5_remove_9 : decode cX5_remove 9 = .ok (.iconst 0, 1) := by decide +kernel
theorem dX5_remove_10 : decode cX5_remove 10 = .ok (.goto 4, 3) := by decide +kernel
theorem dX5_remove_13 : decode cX5_remove 13 = .ok (.iconst 1, 1) := by decide +kernel
theorem dX5_remove_14 : decode cX5_remove 14 = .ok (.invokevirtual 111, 3) := by decide +kernel
theorem dX5_remove_17 : decode cX5_remove 17 = .ok (.ifCond .ne 5, 3) := by decide +kernel
theorem dX5_remove_20 : decode cX5_remove 20 = .ok (.iconst 0, 1) := by decide +kernel
theorem dX5_remove_21 : decode cX5_remove 21 = .ok (.ireturn, 1) := by decide +kernel
theorem dX5_remove_22 : decode cX5_remove 22 = .ok (.aload_n 0, 1) := by decide +kernel
theorem dX5_remove_23 : decode cX5_remove 23 = .ok (.getfield 13, 3) := by decide +kernel
theorem dX5_remove_26 : decode cX5_remove 26 = .ok (.iload_n 1, 1) := by decide +kernel
theorem dX5_remove_27 : decode cX5_remove 27 = .ok (.iaload, 1) := by decide +kernel
theorem dX5_remove_28 : decode cX5_remove 28 = .ok (.istore_n 2, 1) := by decide +kernel
theorem dX5_remove_29 : decode cX5_remove 29 = .ok (.aload_n 0, 1) := by decide +kernel
theorem dX5_remove_30 : decode cX5_remove 30 = .ok (.iload_n 1, 1) := by decide +kernel
theorem dX5_remove_31 : decode cX5_remove 31 = .ok (.invokevirtual 138, 3) := by decide +kernel
theorem dX5_remove_34 : decode cX5_remove 34 = .ok (.iload_n 2, 1) := by decide +kernel
theorem dX5_remove_35 : decode cX5_remove 35 = .ok (.ireturn, 1) := by decide +kernel
set_option maxRecDepth 20000 in
theorem ggX5_certify_X5_isKey : GoodIn wsX5_certify wsX5_isKey := goodIn_r _ [12, 13, 14, 11, 15] (by decide +kernel) (by decide +kernel)
set_option maxRecDepth 20000 in
theorem gX5_certify_X5_isKey : GoodIn wsX5_certify (va_wsS RX5 108 yX5_isKey wsX5_isKey) := goodIn_app (goodIn_of _ (by decide +kernel)) ggX5_certify_X5_isKey
set_option maxRecDepth 20000 in
theorem ggX5_certify_X5_isName : GoodIn wsX5_certify wsX5_isName := goodIn_r _ [18, 13, 14, 11, 15] (by decide +kernel) (by decide +kernel)
set_option maxRecDepth 20000 in
theorem gX5_certify_X5_isName : GoodIn wsX5_certify (va_wsS RX5 121 yX5_isName wsX5_isName) := goodIn_app (goodIn_of _ (by decide +kernel)) ggX5_certify_X5_isName
set_option maxRecDepth 20000 in
theorem ggX5_certify_X5_isIn : GoodIn wsX5_certify wsX5_isIn := goodIn_r _ [15] (by decide +kernel) (by decide +kernel)
set_option maxRecDepth 20000 in
theorem gX5_certify_X5_isIn : GoodIn wsX5_certify (va_wsS RX5 87 yX5_isIn wsX5_isIn) := goodIn_app (goodIn_of _ (by decide +kernel)) ggX5_certify_X5_isIn
set_option maxRecDepth 20000 in
theorem ggX5_certify_X5_holds : GoodIn wsX5_certify wsX5_holds := goodIn_r _ [22, 23, 24, 25, 26, 27, 28, 29, 30, 31, 32, 33, 34, 35, 36, 37, 38, 39, 40, 41, 42, 43, 44, 45, 46, 47, 48, 49, 50, 51, 52, 53, 54, 55] (by decide +kernel) (by decide +kernel)
set_option maxRecDepth 20000 in
theorem gX5_certify_X5_holds : GoodIn wsX5_certify (wsV RX5 111 RX5 yX5_holds wsX5_holds) := goodIn_app (goodIn_of _ (by decide +kernel)) ggX5_certify_X5_holds
theorem dX5_certify_0 : decode cX5_certify 0 = .ok (.iload_n 1, 1) := by decide +kernel
theorem dX5_certify_1 : decode cX5_certify 1 = .ok (.invokestatic 108, 3) := by decide +kernel
theorem dX5_certify_4 : decode cX5_certify 4 = .ok (.ifCond .eq 44, 3) := by decide +kernel
theorem dX5_certify_7 : decode cX5_certify 7 = .ok (.iload_n 2, 1) := by decide +kernel
theorem dX5_certify_8 : decode cX5_certify 8 = .ok (.invokestatic 108, 3) := by decide +kernel
theorem dX5_certify_11 : decode cX5_certify 11 = .ok (.ifCond .eq 37, 3) := by decide +kernel
theorem dX5_certify_14 : decode cX5_certify 14 = .ok (.iload_n 3, 1) := by decide +kernel
theorem dX5_certify_15 : decode cX5_certify 15 = .ok (.invokestatic 121, 3) := by decide +kernel
theorem dX5_certify_18 : decode cX5_certify 18 = .ok (.ifCond .eq 30, 3) := by decide +kernel
theorem dX5_certify_21 : decode cX5_certify 21 = .ok (.iload 4, 2) := by decide +kernel
theorem dX5_certify_23 : decode cX5_certify 23 = .ok (.iconst 0, 1) := by decide +kernel
theorem dX5_certify_24 : decode cX5_certify 24 = .ok (.bipush 15, 2) := by decide +kernel
theorem dX5_certify_26 : decode cX5_certify 26 = .ok (.invokestatic 87, 3) := by decide +kernel
theorem dX5_certify_29 : decode cX5_certify 29 = .ok (.ifCond .eq 19, 3) := by decide +kernel
theorem dX5_certify_32 : decode cX5_certify 32 = .ok (.iload 5, 2) := by decide +kernel
theorem dX5_certify_34 : decode cX5_certify 34 = .ok (.iconst 0, 1) := by decide +kernel
theorem dX5_certify_35 : decode cX5_certify 35 = .ok (.sipush 999, 3) := by decide +kernel
theorem dX5_certify_38 : decode cX5_certify 38 = .ok (.invokestatic 87, 3) := by decide +kernel
theorem dX5_certify_41 : decode cX5_certify 41 = .ok (.ifCond .eq 7, 3) := by decide +kernel
theorem dX5_certify_44 : decode cX5_certify 44 = .ok (.iconst 1, 1) := by decide +kernel
theorem dX5_certify_45 : decode cX5_certify 45 = .ok (.goto 4, 3) := by decide +kernel
theorem dX5_certify_48 : decode cX5_certify 48 = .ok (.iconst 0, 1) := by decide +kernel
theorem dX5_certify_49 : decode cX5_certify 49 = .ok (.istore 8, 2) := by decide +kernel
theorem dX5_certify_51 : decode cX5_certify 51 = .ok (.iload 6, 2) := by decide +kernel
theorem dX5_certify_53 : decode cX5_certify 53 = .ok (.ifCond .lt 22, 3) := by decide +kernel
theorem dX5_certify_56 : decode cX5_certify 56 = .ok (.iload 7, 2) := by decide +kernel
theorem dX5_certify_58 : decode cX5_certify 58 = .ok (.iload 6, 2) := by decide +kernel
theorem dX5_certify_60 : decode cX5_certify 60 = .ok (.if_icmp .lt 15, 3) := by decide +kernel
theorem dX5_certify_63 : decode cX5_certify 63 = .ok (.iload 7, 2) := by decide +kernel
theorem dX5_certify_65 : decode cX5_certify 65 = .ok (.sipush 5000, 3) := by decide +kernel
theorem dX5_certify_68 : decode cX5_certify 68 = .ok (.if_icmp .gt 7, 3) := by decide +kernel
theorem dX5_certify_71 : decode cX5_certify 71 = .ok (.iconst 1, 1) := by decide +kernel
theorem dX5_certify_72 : decode cX5_certify 72 = .ok (.goto 4, 3) := by decide +kernel
theorem dX5_certify_75 : decode cX5_certify 75 = .ok (.iconst 0, 1) := by decide +kernel
theorem dX5_certify_76 : decode cX5_certify 76 = .ok (.istore 9, 2) := by decide +kernel
theorem dX5_certify_78 : decode cX5_certify 78 = .ok (.aload_n 0, 1) := by decide +kernel
theorem dX5_certify_79 : decode cX5_certify 79 = .ok (.iload 8, 2) := by decide +kernel
theorem dX5_certify_81 : decode cX5_certify 81 = .ok (.ifCond .eq 8, 3) := by decide +kernel
theorem dX5_certify_84 : decode cX5_certify 84 = .ok (.iload 9, 2) := by decide +kernel
theorem dX5_certify_86 : decode cX5_certify 86 = .ok (.ifCond .ne 7, 3) := by decide +kernel
theorem dX5_certify_89 : decode cX5_certify 89 = .ok (.iconst 1, 1) := by decide +kernel
theorem dX5_certify_90 : decode cX5_certify 90 = .ok (.goto 17, 3) := by decide +kernel
theorem dX5_certify_93 : decode cX5_certify 93 = .ok (.aload_n 0, 1) := by decide +kernel
theorem dX5_certify_94 : decode cX5_certify 94 = .ok (.getfield 142, 3) := by decide +kernel
theorem dX5_certify_97 : decode cX5_certify 97 = .ok (.bipush 20, 2) := by decide +kernel
theorem dX5_certify_99 : decode cX5_certify 99 = .ok (.if_icmp .ne 7, 3) := by decide +kernel
theorem dX5_certify_102 : decode cX5_certify 102 = .ok (.iconst 2, 1) := by decide +kernel
theorem dX5_certify_103 : decode cX5_certify 103 = .ok (.goto 4, 3) := by decide +kernel
theorem dX5_certify_106 : decode cX5_certify 106 = .ok (.iconst 0, 1) := by decide +kernel
theorem dX5_certify_107 : decode cX5_certify 107 = .ok (.invokevirtual 111, 3) := by decide +kernel
theorem dX5_certify_110 : decode cX5_certify 110 = .ok (.ifCond .ne 5, 3) := by decide +kernel
theorem dX5_certify_113 : decode cX5_certify 113 = .ok (.iconst 0, 1) := by decide +kernel
theorem dX5_certify_114 : decode cX5_certify 114 = .ok (.ireturn, 1) := by decide +kernel
theorem dX5_certify_115 : decode cX5_certify 115 = .ok (.aload_n 0, 1) := by decide +kernel
theorem dX5_certify_116 : decode cX5_certify 116 = .ok (.getfield 51, 3) := by decide +kernel
theorem dX5_certify_119 : decode cX5_certify 119 = .ok (.aload_n 0, 1) := by decide +kernel
theorem dX5_certify_120 : decode cX5_certify 120 = .ok (.getfield 142, 3) := by decide +kernel
theorem dX5_certify_123 : decode cX5_certify 123 = .ok (.iload_n 1, 1) := by decide +kernel
theorem dX5_certify_124 : decode cX5_certify 124 = .ok (.iastore, 1) := by decide +kernel
theorem dX5_certify_125 : decode cX5_certify 125 = .ok (.aload_n 0, 1) := by decide +kernel
theorem dX5_certify_126 : decode cX5_certify 126 = .ok (.getfield 54, 3) := by decide +kernel
theorem dX5_certify_129 : decode cX5_certify 129 = .ok (.aload_n 0, 1) := by decide +kernel
theorem dX5_certify_130 : decode cX5_certify 130 = .ok (.getfield 142, 3) := by decide +kernel
theorem dX5_certify_133 : decode cX5_certify 133 = .ok (.iload_n 2, 1) := by decide +kernel
theorem dX5_certify_134 : decode cX5_certify 134 = .ok (.iastore, 1) := by decide +kernel
theorem dX5_certify_135 : decode cX5_certify 135 = .ok (.aload_n 0, 1) := by decide +kernel
theorem dX5_certify_136 : decode cX5_certify 136 = .ok (.getfield 57, 3) := by decide +kernel
theorem dX5_certify_139 : decode cX5_certify 139 = .ok (.aload_n 0, 1) := by decide +kernel
theorem dX5_certify_140 : decode cX5_certify 140 = .ok (.getfield 142, 3) := by decide +kernel
theorem dX5_certify_143 : decode cX5_certify 143 = .ok (.iload_n 3, 1) := by decide +kernel
theorem dX5_certify_144 : decode cX5_certify 144 = .ok (.iastore, 1) := by decide +kernel
theorem dX5_certify_145 : decode cX5_certify 145 = .ok (.aload_n 0, 1) := by decide +kernel
theorem dX5_certify_146 : decode cX5_certify 146 = .ok (.getfield 60, 3) := by decide +kernel
theorem dX5_certify_149 : decode cX5_certify 149 = .ok (.aload_n 0, 1) := by decide +kernel
theorem dX5_certify_150 : decode cX5_certify 150 = .ok (.getfield 142, 3) := by decide +kernel
theorem dX5_certify_153 : decode cX5_certify 153 = .ok (.iload 4, 2) := by decide +kernel
theorem dX5_certify_155 : decode cX5_certify 155 = .ok (.iastore, 1) := by decide +kernel
theorem dX5_certify_156 : decode cX5_certify 156 = .ok (.aload_n 0, 1) := by decide +kernel
theorem dX5_certify_157 : decode cX5_certify 157 = .ok (.getfield 63, 3) := by decide +kernel
theorem dX5_certify_160 : decode cX5_certify 160 = .ok (.aload_n 0, 1) := by decide +kernel
theorem dX5_certify_161 : decode cX5_certify 161 = .ok (.getfield 142, 3) := by decide +kernel
theorem dX5_certify_164 : decode cX5_certify 164 = .ok (.iload 5, 2) := by decide +kernel
theorem dX5_certify_166 : decode cX5_certify 166 = .ok (.iastore, 1) := by decide +kernel
theorem dX5_certify_167 : decode cX5_certify 167 = .ok (.aload_n 0, 1) := by decide +kernel
theorem dX5_certify_168 : decode cX5_certify 168 = .ok (.getfield 66, 3) := by decide +kernel
theorem dX5_certify_171 : decode cX5_certify 171 = .ok (.aload_n 0, 1) := by decide +kernel
theorem dX5_certify_172 : decode cX5_certify 172 = .ok (.getfield 142, 3) := by decide +kernel
theorem dX5_certify_175 : decode cX5_certify 175 = .ok (.iload 6, 2) := by decide +kernel
theorem dX5_certify_177 : decode cX5_certify 177 = .ok (.iastore, 1) := by decide +kernel
theorem dX5_certify_178 : decode cX5_certify 178 = .ok (.aload_n 0, 1) := by decide +kernel
theorem dX5_certify_179 : decode cX5_certify 179 = .ok (.getfield 69, 3) := by decide +kernel
theorem dX5_certify_182 : decode cX5_certify 182 = .ok (.aload_n 0, 1) := by decide +kernel
theorem dX5_certify_183 : decode cX5_certify 183 = .ok (.getfield 142, 3) := by decide +kernel
theorem dX5_certify_186 : decode cX5_certify 186 = .ok (.iload 7, 2) := by decide +kernel
theorem dX5_certify_188 : decode cX5_certify 188 = .ok (.iastore, 1) := by decide +kernel
theorem dX5_certify_189 : decode cX5_certify 189 = .ok (.aload_n 0, 1) := by decide +kernel
theorem dX5_certify_190 : decode cX5_certify 190 = .ok (.dup, 1) := by decide +kernel
theorem dX5_certify_191 : decode cX5_certify 191 = .ok (.getfield 142, 3) := by decide +kernel
theorem dX5_certify_194 : decode cX5_certify 194 = .ok (.iconst 1, 1) := by decide +kernel
theorem dX5_certify_195 : decode cX5_certify 195 = .ok (.iadd, 1) := by decide +kernel
theorem dX5_certify_196 : decode cX5_certify 196 = .ok (.putfield 142, 3) := by decide +kernel
theorem dX5_certify_199 : decode cX5_certify 199 = .ok (.aload_n 0, 1) := by decide +kernel
theorem dX5_certify_200 : decode cX5_certify 200 = .ok (.getfield 142, 3) := by decide +kernel
theorem dX5_certify_203 : decode cX5_certify 203 = .ok (.iconst 1, 1) := by decide +kernel
theorem dX5_certify_204 : decode cX5_certify 204 = .ok (.isub, 1) := by decide +kernel
theorem dX5_certify_205 : decode cX5_certify 205 = .ok (.ireturn, 1) := by decide +kernel
set_option maxRecDepth 20000 in
theorem ggX5_isRevoked_X5_isIn : GoodIn wsX5_isRevoked wsX5_isIn := goodIn_r _ [10] (by decide +kernel) (by decide +kernel)
set_option maxRecDepth 20000 in
theorem gX5_isRevoked_X5_isIn : GoodIn wsX5_isRevoked (va_wsS RX5 87 yX5_isIn wsX5_isIn) := goodIn_app (goodIn_of _ (by decide +kernel)) ggX5_isRevoked_X5_isIn
theorem dX5_isRevoked_0 : decode cX5_isRevoked 0 = .ok (.iconst 0, 1) := by decide +kernel
theorem dX5_isRevoked_1 : decode cX5_isRevoked 1 = .ok (.istore_n 2, 1) := by decide +kernel
theorem dX5_isRevoked_2 : decode cX5_isRevoked 2 = .ok (.iconst 0, 1) := by decide +kernel
theorem dX5_isRevoked_3 : decode cX5_isRevoked 3 = .ok (.istore_n 3, 1) := by decide +kernel
theorem dX5_isRevoked_4 : decode cX5_isRevoked 4 = .ok (.iload_n 3, 1) := by decide +kernel
theorem dX5_isRevoked_5 : decode cX5_isRevoked 5 = .ok (.aload_n 0, 1) := by decide +kernel
theorem dX5_isRevoked_6 : decode cX5_isRevoked 6 = .ok (.getfield 145, 3) := by decide +kernel
theorem dX5_isRevoked_9 : decode cX5_isRevoked 9 = .ok (.if_icmp .ge 58, 3) := by decide +kernel
theorem dX5_isRevoked_12 : decode cX5_isRevoked 12 = .ok (.iload_n 2, 1) := by decide +kernel
theorem dX5_isRevoked_13 : decode cX5_isRevoked 13 = .ok (.ifCond .ne 42, 3) := by decide +kernel
theorem dX5_isRevoked_16 : decode cX5_isRevoked 16 = .ok (.aload_n 0, 1) := by decide +kernel
theorem dX5_isRevoked_17 : decode cX5_isRevoked 17 = .ok (.getfield 72, 3) := by decide +kernel
theorem dX5_isRevoked_20 : decode cX5_isRevoked 20 = .ok (.iload_n 3, 1) := by decide +kernel
theorem dX5_isRevoked_21 : decode cX5_isRevoked 21 = .ok (.iaload, 1) := by decide +kernel
theorem dX5_isRevoked_22 : decode cX5_isRevoked 22 = .ok (.aload_n 0, 1) := by decide +kernel
theorem dX5_isRevoked_23 : decode cX5_isRevoked 23 = .ok (.getfield 51, 3) := by decide +kernel
theorem dX5_isRevoked_26 : decode cX5_isRevoked 26 = .ok (.iload_n 1, 1) := by decide +kernel
theorem dX5_isRevoked_27 : decode cX5_isRevoked 27 = .ok (.iaload, 1) := by decide +kernel
theorem dX5_isRevoked_28 : decode cX5_isRevoked 28 = .ok (.if_icmp .ne 31, 3) := by decide +kernel
theorem dX5_isRevoked_31 : decode cX5_isRevoked 31 = .ok (.aload_n 0, 1) := by decide +kernel
theorem dX5_isRevoked_32 : decode cX5_isRevoked 32 = .ok (.getfield 63, 3) := by decide +kernel
theorem dX5_isRevoked_35 : decode cX5_isRevoked 35 = .ok (.iload_n 1, 1) := by decide +kernel
theorem dX5_isRevoked_36 : decode cX5_isRevoked 36 = .ok (.iaload, 1) := by decide +kernel
theorem dX5_isRevoked_37 : decode cX5_isRevoked 37 = .ok (.aload_n 0, 1) := by decide +kernel
theorem dX5_isRevoked_38 : decode cX5_isRevoked 38 = .ok (.getfield 75, 3) := by decide +kernel
theorem dX5_isRevoked_41 : decode cX5_isRevoked 41 = .ok (.iload_n 3, 1) := by decide +kernel
theorem dX5_isRevoked_42 : decode cX5_isRevoked 42 = .ok (.iaload, 1) := by decide +kernel
theorem dX5_isRevoked_43 : decode cX5_isRevoked 43 = .ok (.aload_n 0, 1) := by decide +kernel
theorem dX5_isRevoked_44 : decode cX5_isRevoked 44 = .ok (.getfield 78, 3) := by decide +kernel
theorem dX5_isRevoked_47 : decode cX5_isRevoked 47 = .ok (.iload_n 3, 1) := by decide +kernel
theorem dX5_isRevoked_48 : decode cX5_isRevoked 48 = .ok (.iaload, 1) := by decide +kernel
theorem dX5_isRevoked_49 : decode cX5_isRevoked 49 = .ok (.invokestatic 87, 3) := by decide +kernel
theorem dX5_isRevoked_52 : decode cX5_isRevoked 52 = .ok (.ifCond .eq 7, 3) := by decide +kernel
theorem dX5_isRevoked_55 : decode cX5_isRevoked 55 = .ok (.iconst 1, 1) := by decide +kernel
theorem dX5_isRevoked_56 : decode cX5_isRevoked 56 = .ok (.goto 4, 3) := by decide +kernel
theorem dX5_isRevoked_59 : decode cX5_isRevoked 59 = .ok (.iconst 0, 1) := by decide +kernel
theorem dX5_isRevoked_60 : decode cX5_isRevoked 60 = .ok (.istore_n 2, 1) := by decide +kernel
theorem dX5_isRevoked_61 : decode cX5_isRevoked 61 = .ok (.iinc 3 1, 3) := by decide +kernel
theorem dX5_isRevoked_64 : decode cX5_isRevoked 64 = .ok (.goto (-60), 3) := by decide +kernel
theorem dX5_isRevoked_67 : decode cX5_isRevoked 67 = .ok (.iload_n 2, 1) := by decide +kernel
theorem dX5_isRevoked_68 : decode cX5_isRevoked 68 = .ok (.ireturn, 1) := by decide +kernel
set_option maxRecDepth 20000 in
theorem ggX5_revokeSpan_X5_isKey : GoodIn wsX5_revokeSpan wsX5_isKey := goodIn_r _ [9, 10, 11, 8, 12] (by decide +kernel) (by decide +kernel)
set_option maxRecDepth 20000 in
theorem gX5_revokeSpan_X5_isKey : GoodIn wsX5_revokeSpan (va_wsS RX5 108 yX5_isKey wsX5_isKey) := goodIn_app (goodIn_of _ (by decide +kernel)) ggX5_revokeSpan_X5_isKey
set_option maxRecDepth 20000 in
theorem ggX5_revokeSpan_X5_holds : GoodIn wsX5_revokeSpan wsX5_holds := goodIn_r _ [16, 17, 24, 25, 26, 27, 28, 29, 30, 31, 32, 33, 34, 35, 36, 37, 38, 39, 40, 41, 42, 43, 44, 45, 46, 47, 48, 49, 50, 51, 52, 53, 54, 55] (by decide +kernel) (by decide +kernel)
set_option maxRecDepth 20000 in
theorem gX5_revokeSpan_X5_holds : GoodIn wsX5_revokeSpan (wsV RX5 111 RX5 yX5_holds wsX5_holds) := goodIn_app (goodIn_of _ (by decide +kernel)) ggX5_revokeSpan_X5_holds
set_option maxRecDepth 20000 in
theorem ggX5_revokeSpan_X5_isRevoked : GoodIn wsX5_revokeSpan wsX5_isRevoked := goodIn_r _ [21, 1, 2, 22, 23, 3, 4, 10, 11, 8, 12, 24, 25, 26, 27, 28, 29, 30, 31, 32, 33, 34, 35, 36, 37, 38, 39, 40, 41, 42, 43, 44, 45, 46, 47, 48, 49, 50, 51, 52, 53, 54, 55] (by decide +kernel) (by decide +kernel)
set_option maxRecDepth 20000 in
theorem gX5_revokeSpan_X5_isRevoked : GoodIn wsX5_revokeSpan (wsV RX5 148 RX5 yX5_isRevoked wsX5_isRevoked) := goodIn_app (goodIn_of _ (by decide +kernel)) ggX5_revokeSpan_X5_isRevoked
theorem dX5_revokeSpan_0 : decode cX5_revokeSpan 0 = .ok (.iload_n 1, 1) := by decide +kernel
theorem dX5_revokeSpan_1 : decode cX5_revokeSpan 1 = .ok (.invokestatic 108, 3) := by decide +kernel
theorem dX5_revokeSpan_4 : decode cX5_revokeSpan 4 = .ok (.ifCond .eq 23, 3) := by decide +kernel
theorem dX5_revokeSpan_7 : decode cX5_revokeSpan 7 = .ok (.iload_n 2, 1) := by decide +kernel
theorem dX5_revokeSpan_8 : decode cX5_revokeSpan 8 = .ok (.ifCond .lt 19, 3) := by decide +kernel
theorem dX5_revokeSpan_11 : decode cX5_revokeSpan 11 = .ok (.iload_n 3, 1) := by decide +kernel
theorem dX5_revokeSpan_12 : decode cX5_revokeSpan 12 = .ok (.iload_n 2, 1) := by decide +kernel
theorem dX5_revokeSpan_13 : decode cX5_revokeSpan 13 = .ok (.if_icmp .lt 14, 3) := by decide +kernel
theorem dX5_revokeSpan_16 : decode cX5_revokeSpan 16 = .ok (.iload_n 3, 1) := by decide +kernel
theorem dX5_revokeSpan_17 : decode cX5_revokeSpan 17 = .ok (.sipush 999, 3) := by decide +kernel
theorem dX5_revokeSpan_20 : decode cX5_revokeSpan 20 = .ok (.if_icmp .gt 7, 3) := by decide +kernel
theorem dX5_revokeSpan_23 : decode cX5_revokeSpan 23 = .ok (.iconst 1, 1) := by decide +kernel
theorem dX5_revokeSpan_24 : decode cX5_revokeSpan 24 = .ok (.goto 4, 3) := by decide +kernel
theorem dX5_revokeSpan_27 : decode cX5_revokeSpan 27 = .ok (.iconst 0, 1) := by decide +kernel
theorem dX5_revokeSpan_28 : decode cX5_revokeSpan 28 = .ok (.istore 4, 2) := by decide +kernel
theorem dX5_revokeSpan_30 : decode cX5_revokeSpan 30 = .ok (.aload_n 0, 1) := by decide +kernel
theorem dX5_revokeSpan_31 : decode cX5_revokeSpan 31 = .ok (.iload 4, 2) := by decide +kernel
theorem dX5_revokeSpan_33 : decode cX5_revokeSpan 33 = .ok (.ifCond .ne 7, 3) := by decide +kernel
theorem dX5_revokeSpan_36 : decode cX5_revokeSpan 36 = .ok (.iconst 1, 1) := by decide +kernel
theorem dX5_revokeSpan_37 : decode cX5_revokeSpan 37 = .ok (.goto 17, 3) := by decide +kernel
theorem dX5_revokeSpan_40 : decode cX5_revokeSpan 40 = .ok (.aload_n 0, 1) := by decide +kernel
theorem dX5_revokeSpan_41 : decode cX5_revokeSpan 41 = .ok (.getfield 145, 3) := by decide +kernel
theorem dX5_revokeSpan_44 : decode cX5_revokeSpan 44 = .ok (.bipush 20, 2) := by decide +kernel
theorem dX5_revokeSpan_46 : decode cX5_revokeSpan 46 = .ok (.if_icmp .ne 7, 3) := by decide +kernel
theorem dX5_revokeSpan_49 : decode cX5_revokeSpan 49 = .ok (.iconst 2, 1) := by decide +kernel
theorem dX5_revokeSpan_50 : decode cX5_revokeSpan 50 = .ok (.goto 4, 3) := by decide +kernel
theorem dX5_revokeSpan_53 : decode cX5_revokeSpan 53 = .ok (.iconst 0, 1) := by decide +kernel
theorem dX5_revokeSpan_54 : decode cX5_revokeSpan 54 = .ok (.invokevirtual 111, 3) := by decide +kernel
theorem dX5_revokeSpan_57 : decode cX5_revokeSpan 57 = .ok (.ifCond .ne 5, 3) := by decide +kernel
theorem dX5_revokeSpan_60 : decode cX5_revokeSpan 60 = .ok (.iconst 0, 1) := by decide +kernel
theorem dX5_revokeSpan_61 : decode cX5_revokeSpan 61 = .ok (.ireturn, 1) := by decide +kernel
theorem dX5_revokeSpan_62 : decode cX5_revokeSpan 62 = .ok (.aload_n 0, 1) := by decide +kernel
theorem dX5_revokeSpan_63 : decode cX5_revokeSpan 63 = .ok (.getfield 72, 3) := by decide +kernel
theorem dX5_revokeSpan_66 : decode cX5_revokeSpan 66 = .ok (.aload_n 0, 1) := by decide +kernel
theorem dX5_revokeSpan_67 : decode cX5_revokeSpan 67 = .ok (.getfield 145, 3) := by decide +kernel
theorem dX5_revokeSpan_70 : decode cX5_revokeSpan 70 = .ok (.iload_n 1, 1) := by decide +kernel
theorem dX5_revokeSpan_71 : decode cX5_revokeSpan 71 = .ok (.iastore, 1) := by decide +kernel
theorem dX5_revokeSpan_72 : decode cX5_revokeSpan 72 = .ok (.aload_n 0, 1) := by decide +kernel
theorem dX5_revokeSpan_73 : decode cX5_revokeSpan 73 = .ok (.getfield 75, 3) := by decide +kernel
theorem dX5_revokeSpan_76 : decode cX5_revokeSpan 76 = .ok (.aload_n 0, 1) := by decide +kernel
theorem dX5_revokeSpan_77 : decode cX5_revokeSpan 77 = .ok (.getfield 145, 3) := by decide +kernel
theorem dX5_revokeSpan_80 : decode cX5_revokeSpan 80 = .ok (.iload_n 2, 1) := by decide +kernel
theorem dX5_revokeSpan_81 : decode cX5_revokeSpan 81 = .ok (.iastore, 1) := by decide +kernel
theorem dX5_revokeSpan_82 : decode cX5_revokeSpan 82 = .ok (.aload_n 0, 1) := by decide +kernel
theorem dX5_revokeSpan_83 : decode cX5_revokeSpan 83 = .ok (.getfield 78, 3) := by decide +kernel
theorem dX5_revokeSpan_86 : decode cX5_revokeSpan 86 = .ok (.aload_n 0, 1) := by decide +kernel
theorem dX5_revokeSpan_87 : decode cX5_revokeSpan 87 = .ok (.getfield 145, 3) := by decide +kernel
theorem dX5_revokeSpan_90 : decode cX5_revokeSpan 90 = .ok (.iload_n 3, 1) := by decide +kernel
theorem dX5_revokeSpan_91 : decode cX5_revokeSpan 91 = .ok (.iastore, 1) := by decide +kernel
theorem dX5_revokeSpan_92 : decode cX5_revokeSpan 92 = .ok (.aload_n 0, 1) := by decide +kernel
theorem dX5_revokeSpan_93 : decode cX5_revokeSpan 93 = .ok (.dup, 1) := by decide +kernel
theorem dX5_revokeSpan_94 : decode cX5_revokeSpan 94 = .ok (.getfield 145, 3) := by decide +kernel
theorem dX5_revokeSpan_97 : decode cX5_revokeSpan 97 = .ok (.iconst 1, 1) := by decide +kernel
theorem dX5_revokeSpan_98 : decode cX5_revokeSpan 98 = .ok (.iadd, 1) := by decide +kernel
theorem dX5_revokeSpan_99 : decode cX5_revokeSpan 99 = .ok (.putfield 145, 3) := by decide +kernel
theorem dX5_revokeSpan_102 : decode cX5_revokeSpan 102 = .ok (.iconst 0, 1) := by decide +kernel
theorem dX5_revokeSpan_103 : decode cX5_revokeSpan 103 = .ok (.istore 5, 2) := by decide +kernel
theorem dX5_revokeSpan_105 : decode cX5_revokeSpan 105 = .ok (.iconst 0, 1) := by decide +kernel
theorem dX5_revokeSpan_106 : decode cX5_revokeSpan 106 = .ok (.istore 6, 2) := by decide +kernel
theorem dX5_revokeSpan_108 : decode cX5_revokeSpan 108 = .ok (.iload 6, 2) := by decide +kernel
theorem dX5_revokeSpan_110 : decode cX5_revokeSpan 110 = .ok (.aload_n 0, 1) := by decide +kernel
theorem dX5_revokeSpan_111 : decode cX5_revokeSpan 111 = .ok (.getfield 142, 3) := by decide +kernel
theorem dX5_revokeSpan_114 : decode cX5_revokeSpan 114 = .ok (.if_icmp .ge 28, 3) := by decide +kernel
theorem dX5_revokeSpan_117 : decode cX5_revokeSpan 117 = .ok (.iload 5, 2) := by decide +kernel
theorem dX5_revokeSpan_119 : decode cX5_revokeSpan 119 = .ok (.aload_n 0, 1) := by decide +kernel
theorem dX5_revokeSpan_120 : decode cX5_revokeSpan 120 = .ok (.iload 6, 2) := by decide +kernel
theorem dX5_revokeSpan_122 : decode cX5_revokeSpan 122 = .ok (.invokevirtual 148, 3) := by decide +kernel
theorem dX5_revokeSpan_125 : decode cX5_revokeSpan 125 = .ok (.ifCond .eq 7, 3) := by decide +kernel
theorem dX5_revokeSpan_128 : decode cX5_revokeSpan 128 = .ok (.iconst 1, 1) := by decide +kernel
theorem dX5_revokeSpan_129 : decode cX5_revokeSpan 129 = .ok (.goto 4, 3) := by decide +kernel
theorem dX5_revokeSpan_132 : decode cX5_revokeSpan 132 = .ok (.iconst 0, 1) := by decide +kernel
theorem dX5_revokeSpan_133 : decode cX5_revokeSpan 133 = .ok (.iadd, 1) := by decide +kernel
theorem dX5_revokeSpan_134 : decode cX5_revokeSpan 134 = .ok (.istore 5, 2) := by decide +kernel
theorem dX5_revokeSpan_136 : decode cX5_revokeSpan 136 = .ok (.iinc 6 1, 3) := by decide +kernel
theorem dX5_revokeSpan_139 : decode cX5_revokeSpan 139 = .ok (.goto (-31), 3) := by decide +kernel
theorem dX5_revokeSpan_142 : decode cX5_revokeSpan 142 = .ok (.iload 5, 2) := by decide +kernel
theorem dX5_revokeSpan_144 : decode cX5_revokeSpan 144 = .ok (.ireturn, 1) := by decide +kernel
set_option maxRecDepth 20000 in
theorem ggX5_has_X5_hasEnded : GoodIn wsX5_has wsX5_hasEnded := goodIn_r _ [8, 9, 10, 29, 30, 31, 32, 33, 34, 35, 36, 37, 38, 39, 40, 41, 42, 43, 44, 45, 46, 47, 48, 49, 50, 51, 52, 53, 54, 55, 56, 57, 58, 59, 60] (by decide +kernel) (by decide +kernel)
set_option maxRecDepth 20000 in
theorem gX5_has_X5_hasEnded : GoodIn wsX5_has (wsV RX5 151 RX5 yX5_hasEnded wsX5_hasEnded) := goodIn_app (goodIn_of _ (by decide +kernel)) ggX5_has_X5_hasEnded
set_option maxRecDepth 20000 in
theorem ggX5_has_X5_isFor : GoodIn wsX5_has wsX5_isFor := goodIn_r _ [14, 15, 16, 17, 18, 19, 20, 21, 22, 23, 24, 7, 25, 26, 27, 28, 29, 30, 31, 32, 33, 34, 35, 36, 37, 38, 39, 40, 41, 42, 43, 44, 45, 46, 47, 48, 49, 50, 51, 52, 53, 54, 55, 56, 57, 58, 59, 60] (by decide +kernel) (by decide +kernel)
set_option maxRecDepth 20000 in
theorem gX5_has_X5_isFor : GoodIn wsX5_has (wsV RX5 154 RX5 yX5_isFor wsX5_isFor) := goodIn_app (goodIn_of _ (by decide +kernel)) ggX5_has_X5_isFor
theorem dX5_has_0 : decode cX5_has 0 = .ok (.iconst 0, 1) := by decide +kernel
theorem dX5_has_1 : decode cX5_has 1 = .ok (.istore 6, 2) := by decide +kernel
theorem dX5_has_3 : decode cX5_has 3 = .ok (.iconst 0, 1) := by decide +kernel
theorem dX5_has_4 : decode cX5_has 4 = .ok (.istore 7, 2) := by decide +kernel
theorem dX5_has_6 : decode cX5_has 6 = .ok (.iload 7, 2) := by decide +kernel
theorem dX5_has_8 : decode cX5_has 8 = .ok (.aload_n 0, 1) := by decide +kernel
theorem dX5_has_9 : decode cX5_has 9 = .ok (.getfield 91, 3) := by decide +kernel
theorem dX5_has_12 : decode cX5_has 12 = .ok (.if_icmp .ge 69, 3) := by decide +kernel
theorem dX5_has_15 : decode cX5_has 15 = .ok (.iload 6, 2) := by decide +kernel
theorem dX5_has_17 : decode cX5_has 17 = .ok (.ifCond .ne 51, 3) := by decide +kernel
theorem dX5_has_20 : decode cX5_has 20 = .ok (.aload_n 0, 1) := by decide +kernel
theorem dX5_has_21 : decode cX5_has 21 = .ok (.getfield 17, 3) := by decide +kernel
theorem dX5_has_24 : decode cX5_has 24 = .ok (.iload 7, 2) := by decide +kernel
theorem dX5_has_26 : decode cX5_has 26 = .ok (.iaload, 1) := by decide +kernel
theorem dX5_has_27 : decode cX5_has 27 = .ok (.iload_n 1, 1) := by decide +kernel
theorem dX5_has_28 : decode cX5_has 28 = .ok (.if_icmp .ne 44, 3) := by decide +kernel
theorem dX5_has_31 : decode cX5_has 31 = .ok (.aload_n 0, 1) := by decide +kernel
theorem dX5_has_32 : decode cX5_has 32 = .ok (.getfield 13, 3) := by decide +kernel
theorem dX5_has_35 : decode cX5_has 35 = .ok (.iload 7, 2) := by decide +kernel
theorem dX5_has_37 : decode cX5_has 37 = .ok (.iaload, 1) := by decide +kernel
theorem dX5_has_38 : decode cX5_has 38 = .ok (.iload_n 2, 1) := by decide +kernel
theorem dX5_has_39 : decode cX5_has 39 = .ok (.if_icmp .ne 33, 3) := by decide +kernel
theorem dX5_has_42 : decode cX5_has 42 = .ok (.iload_n 3, 1) := by decide +kernel
theorem dX5_has_43 : decode cX5_has 43 = .ok (.ifCond .ne 12, 3) := by decide +kernel
theorem dX5_has_46 : decode cX5_has 46 = .ok (.aload_n 0, 1) := by decide +kernel
theorem dX5_has_47 : decode cX5_has 47 = .ok (.iload 7, 2) := by decide +kernel
theorem dX5_has_49 : decode cX5_has 49 = .ok (.invokevirtual 151, 3) := by decide +kernel
theorem dX5_has_52 : decode cX5_has 52 = .ok (.ifCond .ne 20, 3) := by decide +kernel
theorem dX5_has_55 : decode cX5_has 55 = .ok (.aload_n 0, 1) := by decide +kernel
theorem dX5_has_56 : decode cX5_has 56 = .ok (.iload 7, 2) := by decide +kernel
theorem dX5_has_58 : decode cX5_has 58 = .ok (.iload 4, 2) := by decide +kernel
theorem dX5_has_60 : decode cX5_has 60 = .ok (.iload 5, 2) := by decide +kernel
theorem dX5_has_62 : decode cX5_has 62 = .ok (.invokevirtual 154, 3) := by decide +kernel
theorem dX5_has_65 : decode cX5_has 65 = .ok (.ifCond .eq 7, 3) := by decide +kernel
theorem dX5_has_68 : decode cX5_has 68 = .ok (.iconst 1, 1) := by decide +kernel
theorem dX5_has_69 : decode cX5_has 69 = .ok (.goto 4, 3) := by decide +kernel
theorem dX5_has_72 : decode cX5_has 72 = .ok (.iconst 0, 1) := by decide +kernel
theorem dX5_has_73 : decode cX5_has 73 = .ok (.istore 6, 2) := by decide +kernel
theorem dX5_has_75 : decode cX5_has 75 = .ok (.iinc 7 1, 3) := by decide +kernel
theorem dX5_has_78 : decode cX5_has 78 = .ok (.goto (-72), 3) := by decide +kernel
theorem dX5_has_81 : decode cX5_has 81 = .ok (.iload 6, 2) := by decide +kernel
theorem dX5_has_83 : decode cX5_has 83 = .ok (.ireturn, 1) := by decide +kernel
set_option maxRecDepth 20000 in
theorem ggX5_isGood_X5_areLike : GoodIn wsX5_isGood wsX5_areLike := goodIn_r _ [10] (by decide +kernel) (by decide +kernel)
set_option maxRecDepth 20000 in
theorem gX5_isGood_X5_areLike : GoodIn wsX5_isGood (va_wsS RX5 98 yX5_areLike wsX5_areLike) := goodIn_app (goodIn_of _ (by decide +kernel)) ggX5_isGood_X5_areLike
set_option maxRecDepth 20000 in
theorem ggX5_isGood_X5_isIn : GoodIn wsX5_isGood wsX5_isIn := goodIn_r _ [13] (by decide +kernel) (by decide +kernel)
set_option maxRecDepth 20000 in
theorem gX5_isGood_X5_isIn : GoodIn wsX5_isGood (va_wsS RX5 87 yX5_isIn wsX5_isIn) := goodIn_app (goodIn_of _ (by decide +kernel)) ggX5_isGood_X5_isIn
set_option maxRecDepth 20000 in
theorem ggX5_isGood_X5_isRevoked : GoodIn wsX5_isGood wsX5_isRevoked := goodIn_r _ [17, 18, 19, 6, 20, 21, 22, 11, 12, 9, 13, 50, 51, 52, 53, 54, 55, 56, 57, 58, 59, 60, 61, 62, 63, 64, 65, 66, 67, 68, 69, 70, 71, 72, 73, 74, 75, 76, 77, 78, 79, 80, 81] (by decide +kernel) (by decide +kernel)
set_option maxRecDepth 20000 in
theorem gX5_isGood_X5_isRevoked : GoodIn wsX5_isGood (wsV RX5 148 RX5 yX5_isRevoked wsX5_isRevoked) := goodIn_app (goodIn_of _ (by decide +kernel)) ggX5_isGood_X5_isRevoked
set_option maxRecDepth 20000 in
theorem ggX5_isGood_X5_has : GoodIn wsX5_isGood wsX5_has := goodIn_r _ [26, 27, 28, 29, 30, 31, 32, 9, 33, 34, 3, 35, 36, 37, 38, 39, 40, 41, 42, 43, 44, 45, 46, 47, 48, 49, 7, 8, 10, 50, 51, 52, 53, 54, 55, 56, 57, 58, 59, 60, 61, 62, 63, 64, 65, 66, 67, 68, 69, 70, 71, 72, 73, 74, 75, 76, 77, 78, 79, 80, 81] (by decide +kernel) (by decide +kernel)
set_option maxRecDepth 20000 in
theorem gX5_isGood_X5_has : GoodIn wsX5_isGood (wsV RX5 157 RX5 yX5_has wsX5_has) := goodIn_app (goodIn_of _ (by decide +kernel)) ggX5_isGood_X5_has
theorem dX5_isGood_0 : decode cX5_isGood 0 = .ok (.aload_n 0, 1) := by decide +kernel
theorem dX5_isGood_1 : decode cX5_isGood 1 = .ok (.getfield 57, 3) := by decide +kernel
theorem dX5_isGood_4 : decode cX5_isGood 4 = .ok (.iload_n 1, 1) := by decide +kernel
theorem dX5_isGood_5 : decode cX5_isGood 5 = .ok (.iaload, 1) := by decide +kernel
theorem dX5_isGood_6 : decode cX5_isGood 6 = .ok (.iload_n 2, 1) := by decide +kernel
theorem dX5_isGood_7 : decode cX5_isGood 7 = .ok (.aload_n 0, 1) := by decide +kernel
theorem dX5_isGood_8 : decode cX5_isGood 8 = .ok (.getfield 60, 3) := by decide +kernel
theorem dX5_isGood_11 : decode cX5_isGood 11 = .ok (.iload_n 1, 1) := by decide +kernel
theorem dX5_isGood_12 : decode cX5_isGood 12 = .ok (.iaload, 1) := by decide +kernel
theorem dX5_isGood_13 : decode cX5_isGood 13 = .ok (.invokestatic 98, 3) := by decide +kernel
theorem dX5_isGood_16 : decode cX5_isGood 16 = .ok (.ifCond .eq 29, 3) := by decide +kernel
theorem dX5_isGood_19 : decode cX5_isGood 19 = .ok (.aload_n 0, 1) := by decide +kernel
theorem dX5_isGood_20 : decode cX5_isGood 20 = .ok (.getfield 101, 3) := by decide +kernel
theorem dX5_isGood_23 : decode cX5_isGood 23 = .ok (.aload_n 0, 1) := by decide +kernel
theorem dX5_isGood_24 : decode cX5_isGood 24 = .ok (.getfield 66, 3) := by decide +kernel
theorem dX5_isGood_27 : decode cX5_isGood 27 = .ok (.iload_n 1, 1) := by decide +kernel
theorem dX5_isGood_28 : decode cX5_isGood 28 = .ok (.iaload, 1) := by decide +kernel
theorem dX5_isGood_29 : decode cX5_isGood 29 = .ok (.aload_n 0, 1) := by decide +kernel
theorem dX5_isGood_30 : decode cX5_isGood 30 = .ok (.getfield 69, 3) := by decide +kernel
theorem dX5_isGood_33 : decode cX5_isGood 33 = .ok (.iload_n 1, 1) := by decide +kernel
theorem dX5_isGood_34 : decode cX5_isGood 34 = .ok (.iaload, 1) := by decide +kernel
theorem dX5_isGood_35 : decode cX5_isGood 35 = .ok (.invokestatic 87, 3) := by decide +kernel
theorem dX5_isGood_38 : decode cX5_isGood 38 = .ok (.ifCond .eq 7, 3) := by decide +kernel
theorem dX5_isGood_41 : decode cX5_isGood 41 = .ok (.iconst 1, 1) := by decide +kernel
theorem dX5_isGood_42 : decode cX5_isGood 42 = .ok (.goto 4, 3) := by decide +kernel
theorem dX5_isGood_45 : decode cX5_isGood 45 = .ok (.iconst 0, 1) := by decide +kernel
theorem dX5_isGood_46 : decode cX5_isGood 46 = .ok (.istore 4, 2) := by decide +kernel
theorem dX5_isGood_48 : decode cX5_isGood 48 = .ok (.iload 4, 2) := by decide +kernel
theorem dX5_isGood_50 : decode cX5_isGood 50 = .ok (.ifCond .eq 32, 3) := by decide +kernel
theorem dX5_isGood_53 : decode cX5_isGood 53 = .ok (.aload_n 0, 1) := by decide +kernel
theorem dX5_isGood_54 : decode cX5_isGood 54 = .ok (.iload_n 1, 1) := by decide +kernel
theorem dX5_isGood_55 : decode cX5_isGood 55 = .ok (.invokevirtual 148, 3) := by decide +kernel
theorem dX5_isGood_58 : decode cX5_isGood 58 = .ok (.ifCond .ne 24, 3) := by decide +kernel
theorem dX5_isGood_61 : decode cX5_isGood 61 = .ok (.aload_n 0, 1) := by decide +kernel
theorem dX5_isGood_62 : decode cX5_isGood 62 = .ok (.iconst 2, 1) := by decide +kernel
theorem dX5_isGood_63 : decode cX5_isGood 63 = .ok (.aload_n 0, 1) := by decide +kernel
theorem dX5_isGood_64 : decode cX5_isGood 64 = .ok (.getfield 51, 3) := by decide +kernel
theorem dX5_isGood_67 : decode cX5_isGood 67 = .ok (.iload_n 1, 1) := by decide +kernel
theorem dX5_isGood_68 : decode cX5_isGood 68 = .ok (.iaload, 1) := by decide +kernel
theorem dX5_isGood_69 : decode cX5_isGood 69 = .ok (.iconst 0, 1) := by decide +kernel
theorem dX5_isGood_70 : decode cX5_isGood 70 = .ok (.iload_n 2, 1) := by decide +kernel
theorem dX5_isGood_71 : decode cX5_isGood 71 = .ok (.iload_n 3, 1) := by decide +kernel
theorem dX5_isGood_72 : decode cX5_isGood 72 = .ok (.invokevirtual 157, 3) := by decide +kernel
theorem dX5_isGood_75 : decode cX5_isGood 75 = .ok (.ifCond .eq 7, 3) := by decide +kernel
theorem dX5_isGood_78 : decode cX5_isGood 78 = .ok (.iconst 1, 1) := by decide +kernel
theorem dX5_isGood_79 : decode cX5_isGood 79 = .ok (.goto 4, 3) := by decide +kernel
theorem dX5_isGood_82 : decode cX5_isGood 82 = .ok (.iconst 0, 1) := by decide +kernel
theorem dX5_isGood_83 : decode cX5_isGood 83 = .ok (.ireturn, 1) := by decide +kernel
set_option maxRecDepth 20000 in
theorem ggX5_judgement_X5_has : GoodIn wsX5_judgement wsX5_has := goodIn_r _ [10, 3, 4, 5, 11, 12, 13, 9, 14, 15, 16, 17, 18, 19, 20, 21, 22, 23, 24, 25, 26, 27, 28, 29, 30, 31, 32, 33, 34, 55, 56, 57, 58, 59, 60, 61, 62, 63, 64, 65, 66, 67, 68, 69, 70, 71, 72, 73, 74, 75, 76, 77, 78, 79, 80, 81, 82, 83, 84, 85, 86] (by decide +kernel) (by decide +kernel)
set_option maxRecDepth 20000 in
theorem gX5_judgement_X5_has : GoodIn wsX5_judgement (wsV RX5 157 RX5 yX5_has wsX5_has) := goodIn_app (goodIn_of _ (by decide +kernel)) ggX5_judgement_X5_has
set_option maxRecDepth 20000 in
theorem ggX5_judgement_X5_isGood : GoodIn wsX5_judgement wsX5_isGood := goodIn_r _ [38, 39, 40, 16, 41, 42, 1, 32, 33, 9, 34, 43, 44, 45, 46, 47, 48, 49, 50, 51, 52, 53, 54, 6, 7, 8, 10, 3, 4, 5, 11, 12, 13, 14, 15, 17, 18, 19, 20, 21, 22, 23, 24, 25, 26, 27, 28, 29, 30, 31, 55, 56, 57, 58, 59, 60, 61, 62, 63, 64, 65, 66, 67, 68, 69, 70, 71, 72, 73, 74, 75, 76, 77, 78, 79, 80, 81, 82, 83, 84, 85, 86] (by decide +kernel) (by decide +kernel)
set_option maxRecDepth 20000 in
theorem gX5_judgement_X5_isGood : GoodIn wsX5_judgement (wsV RX5 161 RX5 yX5_isGood wsX5_isGood) := goodIn_app (goodIn_of _ (by decide +kernel)) ggX5_judgement_X5_isGood
set_option maxRecDepth 20000 in
theorem ggX5_judgement_X5_hasEnded : GoodIn wsX5_judgement wsX5_hasEnded := goodIn_r _ [14, 15, 16, 55, 56, 57, 58, 59, 60, 61, 62, 63, 64, 65, 66, 67, 68, 69, 70, 71, 72, 73, 74, 75, 76, 77, 78, 79, 80, 81, 82, 83, 84, 85, 86] (by decide +kernel) (by decide +kernel)
set_option maxRecDepth 20000 in
theorem gX5_judgement_X5_hasEnded : GoodIn wsX5_judgement (wsV RX5 151 RX5 yX5_hasEnded wsX5_hasEnded) := goodIn_app (goodIn_of _ (by decide +kernel)) ggX5_judgement_X5_hasEnded
set_option maxRecDepth 20000 in
theorem ggX5_judgement_X5_isFor : GoodIn wsX5_judgement wsX5_isFor := goodIn_r _ [20, 21, 22, 23, 24, 25, 26, 27, 28, 29, 30, 9, 31, 32, 33, 34, 55, 56, 57, 58, 59, 60, 61, 62, 63, 64, 65, 66, 67, 68, 69, 70, 71, 72, 73, 74, 75, 76, 77, 78, 79, 80, 81, 82, 83, 84, 85, 86] (by decide +kernel) (by decide +kernel)
set_option maxRecDepth 20000 in
theorem gX5_judgement_X5_isFor : GoodIn wsX5_judgement (wsV RX5 154 RX5 yX5_isFor wsX5_isFor) := goodIn_app (goodIn_of _ (by decide +kernel)) ggX5_judgement_X5_isFor
theorem dX5_judgement_0 : decode cX5_judgement 0 = .ok (.aload_n 0, 1) := by decide +kernel
theorem dX5_judgement_1 : decode cX5_judgement 1 = .ok (.iconst 1, 1) := by decide +kernel
theorem dX5_judgement_2 : decode cX5_judgement 2 = .ok (.iload_n 3, 1) := by decide +kernel
theorem dX5_judgement_3 : decode cX5_judgement 3 = .ok (.iconst 1, 1) := by decide +kernel
theorem dX5_judgement_4 : decode cX5_judgement 4 = .ok (.iload_n 1, 1) := by decide +kernel
theorem dX5_judgement_5 : decode cX5_judgement 5 = .ok (.iload_n 2, 1) := by decide +kernel
theorem dX5_judgement_6 : decode cX5_judgement 6 = .ok (.invokevirtual 157, 3) := by decide +kernel
theorem dX5_judgement_9 : decode cX5_judgement 9 = .ok (.ifCond .ne 27, 3) := by decide +kernel
theorem dX5_judgement_12 : decode cX5_judgement 12 = .ok (.iload 4, 2) := by decide +kernel
theorem dX5_judgement_14 : decode cX5_judgement 14 = .ok (.iconst (-1), 1) := by decide +kernel
theorem dX5_judgement_15 : decode cX5_judgement 15 = .ok (.if_icmp .eq 23, 3) := by decide +kernel
theorem dX5_judgement_18 : decode cX5_judgement 18 = .ok (.aload_n 0, 1) := by decide +kernel
theorem dX5_judgement_19 : decode cX5_judgement 19 = .ok (.iconst 1, 1) := by decide +kernel
theorem dX5_judgement_20 : decode cX5_judgement 20 = .ok (.aload_n 0, 1) := by decide +kernel
theorem dX5_judgement_21 : decode cX5_judgement 21 = .ok (.getfield 51, 3) := by decide +kernel
theorem dX5_judgement_24 : decode cX5_judgement 24 = .ok (.iload 4, 2) := by decide +kernel
theorem dX5_judgement_26 : decode cX5_judgement 26 = .ok (.iaload, 1) := by decide +kernel
theorem dX5_judgement_27 : decode cX5_judgement 27 = .ok (.iconst 1, 1) := by decide +kernel
theorem dX5_judgement_28 : decode cX5_judgement 28 = .ok (.iload_n 1, 1) := by decide +kernel
theorem dX5_judgement_29 : decode cX5_judgement 29 = .ok (.iload_n 2, 1) := by decide +kernel
theorem dX5_judgement_30 : decode cX5_judgement 30 = .ok (.invokevirtual 157, 3) := by decide +kernel
theorem dX5_judgement_33 : decode cX5_judgement 33 = .ok (.ifCond .eq 5, 3) := by decide +kernel
theorem dX5_judgement_36 : decode cX5_judgement 36 = .ok (.iconst 0, 1) := by decide +kernel
theorem dX5_judgement_37 : decode cX5_judgement 37 = .ok (.ireturn, 1) := by decide +kernel
theorem dX5_judgement_38 : decode cX5_judgement 38 = .ok (.iload 4, 2) := by decide +kernel
theorem dX5_judgement_40 : decode cX5_judgement 40 = .ok (.iconst (-1), 1) := by decide +kernel
theorem dX5_judgement_41 : decode cX5_judgement 41 = .ok (.if_icmp .eq 27, 3) := by decide +kernel
theorem dX5_judgement_44 : decode cX5_judgement 44 = .ok (.aload_n 0, 1) := by decide +kernel
theorem dX5_judgement_45 : decode cX5_judgement 45 = .ok (.getfield 54, 3) := by decide +kernel
theorem dX5_judgement_48 : decode cX5_judgement 48 = .ok (.iload 4, 2) := by decide +kernel
theorem dX5_judgement_50 : decode cX5_judgement 50 = .ok (.iaload, 1) := by decide +kernel
theorem dX5_judgement_51 : decode cX5_judgement 51 = .ok (.iload_n 3, 1) := by decide +kernel
theorem dX5_judgement_52 : decode cX5_judgement 52 = .ok (.if_icmp .ne 16, 3) := by decide +kernel
theorem dX5_judgement_55 : decode cX5_judgement 55 = .ok (.aload_n 0, 1) := by decide +kernel
theorem dX5_judgement_56 : decode cX5_judgement 56 = .ok (.iload 4, 2) := by decide +kernel
theorem dX5_judgement_58 : decode cX5_judgement 58 = .ok (.iload_n 1, 1) := by decide +kernel
theorem dX5_judgement_59 : decode cX5_judgement 59 = .ok (.iload_n 2, 1) := by decide +kernel
theorem dX5_judgement_60 : decode cX5_judgement 60 = .ok (.invokevirtual 161, 3) := by decide +kernel
theorem dX5_judgement_63 : decode cX5_judgement 63 = .ok (.ifCond .eq 5, 3) := by decide +kernel
theorem dX5_judgement_66 : decode cX5_judgement 66 = .ok (.iconst 1, 1) := by decide +kernel
theorem dX5_judgement_67 : decode cX5_judgement 67 = .ok (.ireturn, 1) := by decide +kernel
theorem dX5_judgement_68 : decode cX5_judgement 68 = .ok (.iconst 5, 1) := by decide +kernel
theorem dX5_judgement_69 : decode cX5_judgement 69 = .ok (.istore 5, 2) := by decide +kernel
theorem dX5_judgement_71 : decode cX5_judgement 71 = .ok (.iconst 0, 1) := by decide +kernel
theorem dX5_judgement_72 : decode cX5_judgement 72 = .ok (.istore 6, 2) := by decide +kernel
theorem dX5_judgement_74 : decode cX5_judgement 74 = .ok (.iload 6, 2) := by decide +kernel
theorem dX5_judgement_76 : decode cX5_judgement 76 = .ok (.aload_n 0, 1) := by decide +kernel
theorem dX5_judgement_77 : decode cX5_judgement 77 = .ok (.getfield 91, 3) := by decide +kernel
theorem dX5_judgement_80 : decode cX5_judgement 80 = .ok (.if_icmp .ge 104, 3) := by decide +kernel
theorem dX5_judgement_83 : decode cX5_judgement 83 = .ok (.aload_n 0, 1) := by decide +kernel
theorem dX5_judgement_84 : decode cX5_judgement 84 = .ok (.getfield 17, 3) := by decide +kernel
theorem dX5_judgement_87 : decode cX5_judgement 87 = .ok (.iload 6, 2) := by decide +kernel
theorem dX5_judgement_89 : decode cX5_judgement 89 = .ok (.iaload, 1) := by decide +kernel
theorem dX5_judgement_90 : decode cX5_judgement 90 = .ok (.ifCond .ne 27, 3) := by decide +kernel
theorem dX5_judgement_93 : decode cX5_judgement 93 = .ok (.aload_n 0, 1) := by decide +kernel
theorem dX5_judgement_94 : decode cX5_judgement 94 = .ok (.iload 6, 2) := by decide +kernel
theorem dX5_judgement_96 : decode cX5_judgement 96 = .ok (.invokevirtual 151, 3) := by decide +kernel
theorem dX5_judgement_99 : decode cX5_judgement 99 = .ok (.ifCond .ne 18, 3) := by decide +kernel
theorem dX5_judgement_102 : decode cX5_judgement 102 = .ok (.aload_n 0, 1) := by decide +kernel
theorem dX5_judgement_103 : decode cX5_judgement 103 = .ok (.iload 6, 2) := by decide +kernel
theorem dX5_judgement_105 : decode cX5_judgement 105 = .ok (.iload_n 1, 1) := by decide +kernel
theorem dX5_judgement_106 : decode cX5_judgement 106 = .ok (.iload_n 2, 1) := by decide +kernel
theorem dX5_judgement_107 : decode cX5_judgement 107 = .ok (.invokevirtual 154, 3) := by decide +kernel
theorem dX5_judgement_110 : decode cX5_judgement 110 = .ok (.ifCond .eq 7, 3) := by decide +kernel
theorem dX5_judgement_113 : decode cX5_judgement 113 = .ok (.iconst 1, 1) := by decide +kernel
theorem dX5_judgement_114 : decode cX5_judgement 114 = .ok (.goto 4, 3) := by decide +kernel
theorem dX5_judgement_117 : decode cX5_judgement 117 = .ok (.iconst 0, 1) := by decide +kernel
theorem dX5_judgement_118 : decode cX5_judgement 118 = .ok (.istore 7, 2) := by decide +kernel
theorem dX5_judgement_120 : decode cX5_judgement 120 = .ok (.aload_n 0, 1) := by decide +kernel
theorem dX5_judgement_121 : decode cX5_judgement 121 = .ok (.getfield 13, 3) := by decide +kernel
theorem dX5_judgement_124 : decode cX5_judgement 124 = .ok (.iload 6, 2) := by decide +kernel
theorem dX5_judgement_126 : decode cX5_judgement 126 = .ok (.iaload, 1) := by decide +kernel
theorem dX5_judgement_127 : decode cX5_judgement 127 = .ok (.iload_n 3, 1) := by decide +kernel
theorem dX5_judgement_128 : decode cX5_judgement 128 = .ok (.if_icmp .ne 7, 3) := by decide +kernel
theorem dX5_judgement_131 : decode cX5_judgement 131 = .ok (.iconst 2, 1) := by decide +kernel
theorem dX5_judgement_132 : decode cX5_judgement 132 = .ok (.goto 23, 3) := by decide +kernel
theorem dX5_judgement_135 : decode cX5_judgement 135 = .ok (.aload_n 0, 1) := by decide +kernel
theorem dX5_judgement_136 : decode cX5_judgement 136 = .ok (.getfield 13, 3) := by decide +kernel
theorem dX5_judgement_139 : decode cX5_judgement 139 = .ok (.iload 6, 2) := by decide +kernel
theorem dX5_judgement_141 : decode cX5_judgement 141 = .ok (.iaload, 1) := by decide +kernel
theorem dX5_judgement_142 : decode cX5_judgement 142 = .ok (.iconst 3, 1) := by decide +kernel
theorem dX5_judgement_143 : decode cX5_judgement 143 = .ok (.irem, 1) := by decide +kernel
theorem dX5_judgement_144 : decode cX5_judgement 144 = .ok (.iload_n 3, 1) := by decide +kernel
theorem dX5_judgement_145 : decode cX5_judgement 145 = .ok (.iconst 3, 1) := by decide +kernel
theorem dX5_judgement_146 : decode cX5_judgement 146 = .ok (.irem, 1) := by decide +kernel
theorem dX5_judgement_147 : decode cX5_judgement 147 = .ok (.if_icmp .ne 7, 3) := by decide +kernel
theorem dX5_judgement_150 : decode cX5_judgement 150 = .ok (.iconst 3, 1) := by decide +kernel
theorem dX5_judgement_151 : decode cX5_judgement 151 = .ok (.goto 4, 3) := by decide +kernel
theorem dX5_judgement_154 : decode cX5_judgement 154 = .ok (.iconst 4, 1) := by decide +kernel
theorem dX5_judgement_155 : decode cX5_judgement 155 = .ok (.istore 8, 2) := by decide +kernel
theorem dX5_judgement_157 : decode cX5_judgement 157 = .ok (.iload 7, 2) := by decide +kernel
theorem dX5_judgement_159 : decode cX5_judgement 159 = .ok (.ifCond .eq 15, 3) := by decide +kernel
theorem dX5_judgement_162 : decode cX5_judgement 162 = .ok (.iload 8, 2) := by decide +kernel
theorem dX5_judgement_164 : decode cX5_judgement 164 = .ok (.iload 5, 2) := by decide +kernel
theorem dX5_judgement_166 : decode cX5_judgement 166 = .ok (.if_icmp .ge 8, 3) := by decide +kernel
theorem dX5_judgement_169 : decode cX5_judgement 169 = .ok (.iload 8, 2) := by decide +kernel
theorem dX5_judgement_171 : decode cX5_judgement 171 = .ok (.goto 5, 3) := by decide +kernel
theorem dX5_judgement_174 : decode cX5_judgement 174 = .ok (.iload 5, 2) := by decide +kernel
theorem dX5_judgement_176 : decode cX5_judgement 176 = .ok (.istore 5, 2) := by decide +kernel
theorem dX5_judgement_178 : decode cX5_judgement 178 = .ok (.iinc 6 1, 3) := by decide +kernel
theorem dX5_judgement_181 : decode cX5_judgement 181 = .ok (.goto (-107), 3) := by decide +kernel
theorem dX5_judgement_184 : decode cX5_judgement 184 = .ok (.iload 5, 2) := by decide +kernel
theorem dX5_judgement_186 : decode cX5_judgement 186 = .ok (.ireturn, 1) := by decide +kernel
set_option maxRecDepth 20000 in
theorem ggX5_setFirstSight_X5_isIn : GoodIn wsX5_setFirstSight wsX5_isIn := goodIn_r _ [6] (by decide +kernel) (by decide +kernel)
set_option maxRecDepth 20000 in
theorem gX5_setFirstSight_X5_isIn : GoodIn wsX5_setFirstSight (va_wsS RX5 87 yX5_isIn wsX5_isIn) := goodIn_app (goodIn_of _ (by decide +kernel)) ggX5_setFirstSight_X5_isIn
set_option maxRecDepth 20000 in
theorem ggX5_setFirstSight_X5_holds : GoodIn wsX5_setFirstSight wsX5_holds := goodIn_r _ [10, 11, 12, 13, 14, 15, 16, 17, 18, 19, 20, 21, 22, 23, 24, 25, 26, 27, 28, 29, 30, 31, 32, 33, 34, 35, 36, 37, 38, 39, 40, 41, 42, 43] (by decide +kernel) (by decide +kernel)
set_option maxRecDepth 20000 in
theorem gX5_setFirstSight_X5_holds : GoodIn wsX5_setFirstSight (wsV RX5 111 RX5 yX5_holds wsX5_holds) := goodIn_app (goodIn_of _ (by decide +kernel)) ggX5_setFirstSight_X5_holds
theorem dX5_setFirstSight_0 : decode cX5_setFirstSight 0 = .ok (.aload_n 0, 1) := by decide +kernel
theorem dX5_setFirstSight_1 : decode cX5_setFirstSight 1 = .ok (.iload_n 1, 1) := by decide +kernel
theorem dX5_setFirstSight_2 : decode cX5_setFirstSight 2 = .ok (.iconst 0, 1) := by decide +kernel
theorem dX5_setFirstSight_3 : decode cX5_setFirstSight 3 = .ok (.iconst 2, 1) := by decide +kernel
theorem dX5_setFirstSight_4 : decode cX5_setFirstSight 4 = .ok (.invokestatic 87, 3) := by decide +kernel
theorem dX5_setFirstSight_7 : decode cX5_setFirstSight 7 = .ok (.ifCond .eq 7, 3) := by decide +kernel
theorem dX5_setFirstSight_10 : decode cX5_setFirstSight 10 = .ok (.iconst 0, 1) := by decide +kernel
theorem dX5_setFirstSight_11 : decode cX5_setFirstSight 11 = .ok (.goto 4, 3) := by decide +kernel
theorem dX5_setFirstSight_14 : decode cX5_setFirstSight 14 = .ok (.iconst 1, 1) := by decide +kernel
theorem dX5_setFirstSight_15 : decode cX5_setFirstSight 15 = .ok (.invokevirtual 111, 3) := by decide +kernel
theorem dX5_setFirstSight_18 : decode cX5_setFirstSight 18 = .ok (.ifCond .ne 5, 3) := by decide +kernel
theorem dX5_setFirstSight_21 : decode cX5_setFirstSight 21 = .ok (.iconst 0, 1) := by decide +kernel
theorem dX5_setFirstSight_22 : decode cX5_setFirstSight 22 = .ok (.ireturn, 1) := by decide +kernel
theorem dX5_setFirstSight_23 : decode cX5_setFirstSight 23 = .ok (.aload_n 0, 1) := by decide +kernel
theorem dX5_setFirstSight_24 : decode cX5_setFirstSight 24 = .ok (.getfield 7, 3) := by decide +kernel
theorem dX5_setFirstSight_27 : decode cX5_setFirstSight 27 = .ok (.istore_n 3, 1) := by decide +kernel
theorem dX5_setFirstSight_28 : decode cX5_setFirstSight 28 = .ok (.aload_n 0, 1) := by decide +kernel
theorem dX5_setFirstSight_29 : decode cX5_setFirstSight 29 = .ok (.iload_n 1, 1) := by decide +kernel
theorem dX5_setFirstSight_30 : decode cX5_setFirstSight 30 = .ok (.putfield 7, 3) := by decide +kernel
theorem dX5_setFirstSight_33 : decode cX5_setFirstSight 33 = .ok (.aload_n 0, 1) := by decide +kernel
theorem dX5_setFirstSight_34 : decode cX5_setFirstSight 34 = .ok (.iload_n 2, 1) := by decide +kernel
theorem dX5_setFirstSight_35 : decode cX5_setFirstSight 35 = .ok (.putfield 164, 3) := by decide +kernel
theorem dX5_setFirstSight_38 : decode cX5_setFirstSight 38 = .ok (.iload_n 3, 1) := by decide +kernel
theorem dX5_setFirstSight_39 : decode cX5_setFirstSight 39 = .ok (.ireturn, 1) := by decide +kernel
set_option maxRecDepth 20000 in
theorem ggX5_areAsked_X5_isName : GoodIn wsX5_areAsked wsX5_isName := goodIn_r _ [4, 5, 6, 3, 7] (by decide +kernel) (by decide +kernel)
set_option maxRecDepth 20000 in
theorem gX5_areAsked_X5_isName : GoodIn wsX5_areAsked (va_wsS RX5 121 yX5_isName wsX5_isName) := goodIn_app (goodIn_of _ (by decide +kernel)) ggX5_areAsked_X5_isName
set_option maxRecDepth 20000 in
theorem ggX5_areAsked_X5_isPort : GoodIn wsX5_areAsked wsX5_isPort := goodIn_r _ [10, 5, 6, 3, 7] (by decide +kernel) (by decide +kernel)
set_option maxRecDepth 20000 in
theorem gX5_areAsked_X5_isPort : GoodIn wsX5_areAsked (va_wsS RX5 124 yX5_isPort wsX5_isPort) := goodIn_app (goodIn_of _ (by decide +kernel)) ggX5_areAsked_X5_isPort
set_option maxRecDepth 20000 in
theorem ggX5_areAsked_X5_isKey : GoodIn wsX5_areAsked wsX5_isKey := goodIn_r _ [13, 5, 6, 3, 7] (by decide +kernel) (by decide +kernel)
set_option maxRecDepth 20000 in
theorem gX5_areAsked_X5_isKey : GoodIn wsX5_areAsked (va_wsS RX5 108 yX5_isKey wsX5_isKey) := goodIn_app (goodIn_of _ (by decide +kernel)) ggX5_areAsked_X5_isKey
theorem dX5_areAsked_0 : decode cX5_areAsked 0 = .ok (.iload_n 0, 1) := by decide +kernel
theorem dX5_areAsked_1 : decode cX5_areAsked 1 = .ok (.invokestatic 121, 3) := by decide +kernel
theorem dX5_areAsked_4 : decode cX5_areAsked 4 = .ok (.ifCond .eq 21, 3) := by decide +kernel
theorem dX5_areAsked_7 : decode cX5_areAsked 7 = .ok (.iload_n 1, 1) := by decide +kernel
theorem dX5_areAsked_8 : decode cX5_areAsked 8 = .ok (.invokestatic 124, 3) := by decide +kernel
theorem dX5_areAsked_11 : decode cX5_areAsked 11 = .ok (.ifCond .eq 14, 3) := by decide +kernel
theorem dX5_areAsked_14 : decode cX5_areAsked 14 = .ok (.iload_n 2, 1) := by decide +kernel
theorem dX5_areAsked_15 : decode cX5_areAsked 15 = .ok (.invokestatic 108, 3) := by decide +kernel
theorem dX5_areAsked_18 : decode cX5_areAsked 18 = .ok (.ifCond .eq 7, 3) := by decide +kernel
theorem dX5_areAsked_21 : decode cX5_areAsked 21 = .ok (.iconst 1, 1) := by decide +kernel
theorem dX5_areAsked_22 : decode cX5_areAsked 22 = .ok (.goto 4, 3) := by decide +kernel
theorem dX5_areAsked_25 : decode cX5_areAsked 25 = .ok (.iconst 0, 1) := by decide +kernel
theorem dX5_areAsked_26 : decode cX5_areAsked 26 = .ok (.ireturn, 1) := by decide +kernel
set_option maxRecDepth 20000 in
theorem ggX5_isJudged_X5_isIn : GoodIn wsX5_isJudged wsX5_isIn := goodIn_r _ [5] (by decide +kernel) (by decide +kernel)
set_option maxRecDepth 20000 in
theorem gX5_isJudged_X5_isIn : GoodIn wsX5_isJudged (va_wsS RX5 87 yX5_isIn wsX5_isIn) := goodIn_app (goodIn_of _ (by decide +kernel)) ggX5_isJudged_X5_isIn
set_option maxRecDepth 20000 in
theorem ggX5_isJudged_X5_areAsked : GoodIn wsX5_isJudged wsX5_areAsked := goodIn_r _ [8, 9, 10, 4, 11, 2, 3, 5, 12, 13, 14, 15, 16, 17] (by decide +kernel) (by decide +kernel)
set_option maxRecDepth 20000 in
theorem gX5_isJudged_X5_areAsked : GoodIn wsX5_isJudged (va_wsS RX5 168 yX5_areAsked wsX5_areAsked) := goodIn_app (goodIn_of _ (by decide +kernel)) ggX5_isJudged_X5_areAsked
set_option maxRecDepth 20000 in
theorem ggX5_isJudged_X5_holds : GoodIn wsX5_isJudged wsX5_holds := goodIn_r _ [21, 22, 23, 24, 25, 26, 27, 28, 29, 30, 31, 32, 33, 34, 35, 36, 37, 38, 39, 40, 41, 42, 43, 44, 45, 46, 47, 48, 49, 50, 51, 52, 53, 54] (by decide +kernel) (by decide +kernel)
set_option maxRecDepth 20000 in
theorem gX5_isJudged_X5_holds : GoodIn wsX5_isJudged (wsV RX5 111 RX5 yX5_holds wsX5_holds) := goodIn_app (goodIn_of _ (by decide +kernel)) ggX5_isJudged_X5_holds
theorem dX5_isJudged_0 : decode cX5_isJudged 0 = .ok (.aload_n 0, 1) := by decide +kernel
theorem dX5_isJudged_1 : decode cX5_isJudged 1 = .ok (.iload 4, 2) := by decide +kernel
theorem dX5_isJudged_3 : decode cX5_isJudged 3 = .ok (.iconst (-1), 1) := by decide +kernel
theorem dX5_isJudged_4 : decode cX5_isJudged 4 = .ok (.aload_n 0, 1) := by decide +kernel
theorem dX5_isJudged_5 : decode cX5_isJudged 5 = .ok (.getfield 142, 3) := by decide +kernel
theorem dX5_isJudged_8 : decode cX5_isJudged 8 = .ok (.iconst 1, 1) := by decide +kernel
theorem dX5_isJudged_9 : decode cX5_isJudged 9 = .ok (.isub, 1) := by decide +kernel
theorem dX5_isJudged_10 : decode cX5_isJudged 10 = .ok (.invokestatic 87, 3) := by decide +kernel
theorem dX5_isJudged_13 : decode cX5_isJudged 13 = .ok (.ifCond .ne 7, 3) := by decide +kernel
theorem dX5_isJudged_16 : decode cX5_isJudged 16 = .ok (.iconst 1, 1) := by decide +kernel
theorem dX5_isJudged_17 : decode cX5_isJudged 17 = .ok (.goto 17, 3) := by decide +kernel
theorem dX5_isJudged_20 : decode cX5_isJudged 20 = .ok (.iload_n 1, 1) := by decide +kernel
theorem dX5_isJudged_21 : decode cX5_isJudged 21 = .ok (.iload_n 2, 1) := by decide +kernel
theorem dX5_isJudged_22 : decode cX5_isJudged 22 = .ok (.iload_n 3, 1) := by decide +kernel
theorem dX5_isJudged_23 : decode cX5_isJudged 23 = .ok (.invokestatic 168, 3) := by decide +kernel
theorem dX5_isJudged_26 : decode cX5_isJudged 26 = .ok (.ifCond .eq 7, 3) := by decide +kernel
theorem dX5_isJudged_29 : decode cX5_isJudged 29 = .ok (.iconst 0, 1) := by decide +kernel
theorem dX5_isJudged_30 : decode cX5_isJudged 30 = .ok (.goto 4, 3) := by decide +kernel
theorem dX5_isJudged_33 : decode cX5_isJudged 33 = .ok (.iconst 2, 1) := by decide +kernel
theorem dX5_isJudged_34 : decode cX5_isJudged 34 = .ok (.invokevirtual 111, 3) := by decide +kernel
theorem dX5_isJudged_37 : decode cX5_isJudged 37 = .ok (.ireturn, 1) := by decide +kernel
set_option maxRecDepth 20000 in
theorem ggX5_trusts_X5_addsHashed : GoodIn wsX5_trusts wsX5_addsHashed := goodIn_r _ [7, 8, 2, 9, 10, 11, 12, 13, 6, 14, 15, 16, 17, 18, 19, 20, 21, 22, 23, 32, 33, 34, 35, 36, 37, 38, 39, 40, 41, 42, 43, 44, 45, 46, 47, 48, 49, 50, 51, 52, 53, 54, 55, 56, 57, 58, 59, 60, 61, 62, 63] (by decide +kernel) (by decide +kernel)
set_option maxRecDepth 20000 in
theorem gX5_trusts_X5_addsHashed : GoodIn wsX5_trusts (wsV RX5 131 RX5 yX5_addsHashed wsX5_addsHashed) := goodIn_app (goodIn_of _ (by decide +kernel)) ggX5_trusts_X5_addsHashed
set_option maxRecDepth 20000 in
theorem ggX5_trusts_X5_adds : GoodIn wsX5_trusts wsX5_adds := goodIn_r _ [14, 15, 2, 16, 17, 18, 19, 8, 20, 32, 33, 34, 35, 36, 37, 38, 39, 40, 41, 42, 43, 44, 45, 46, 47, 48, 49, 50, 51, 52, 53, 54, 55, 56, 57, 58, 59, 60, 61, 62, 63] (by decide +kernel) (by decide +kernel)
set_option maxRecDepth 20000 in
theorem gX5_trusts_X5_adds : GoodIn wsX5_trusts (wsV RX5 114 RX5 yX5_adds wsX5_adds) := goodIn_app (goodIn_of _ (by decide +kernel)) ggX5_trusts_X5_adds
set_option maxRecDepth 20000 in
theorem ggX5_trusts_X5_addsPattern : GoodIn wsX5_trusts wsX5_addsPattern := goodIn_r _ [27, 20, 28, 29, 30, 31, 32, 33, 34, 35, 36, 37, 38, 39, 40, 41, 42, 43, 44, 45, 46, 47, 48, 49, 50, 51, 52, 53, 54, 55, 56, 57, 58, 59, 60, 61, 62, 63] (by decide +kernel) (by decide +kernel)
set_option maxRecDepth 20000 in
theorem gX5_trusts_X5_addsPattern : GoodIn wsX5_trusts (wsV RX5 127 RX5 yX5_addsPattern wsX5_addsPattern) := goodIn_app (goodIn_of _ (by decide +kernel)) ggX5_trusts_X5_addsPattern
theorem dX5_trusts_0 : decode cX5_trusts 0 = .ok (.aload_n 0, 1) := by decide +kernel
theorem dX5_trusts_1 : decode cX5_trusts 1 = .ok (.getfield 164, 3) := by decide +kernel
theorem dX5_trusts_4 : decode cX5_trusts 4 = .ok (.ifCond .eq 23, 3) := by decide +kernel
theorem dX5_trusts_7 : decode cX5_trusts 7 = .ok (.aload_n 0, 1) := by decide +kernel
theorem dX5_trusts_8 : decode cX5_trusts 8 = .ok (.iconst 0, 1) := by decide +kernel
theorem dX5_trusts_9 : decode cX5_trusts 9 = .ok (.iload_n 3, 1) := by decide +kernel
theorem dX5_trusts_10 : decode cX5_trusts 10 = .ok (.iload_n 1, 1) := by decide +kernel
theorem dX5_trusts_11 : decode cX5_trusts 11 = .ok (.iload_n 2, 1) := by decide +kernel
theorem dX5_trusts_12 : decode cX5_trusts 12 = .ok (.bipush 7, 2) := by decide +kernel
theorem dX5_trusts_14 : decode cX5_trusts 14 = .ok (.iload_n 1, 1) := by decide +kernel
theorem dX5_trusts_15 : decode cX5_trusts 15 = .ok (.imul, 1) := by decide +kernel
theorem dX5_trusts_16 : decode cX5_trusts 16 = .ok (.iload_n 3, 1) := by decide +kernel
theorem dX5_trusts_17 : decode cX5_trusts 17 = .ok (.iadd, 1) := by decide +kernel
theorem dX5_trusts_18 : decode cX5_trusts 18 = .ok (.bipush 100, 2) := by decide +kernel
theorem dX5_trusts_20 : decode cX5_trusts 20 = .ok (.irem, 1) := by decide +kernel
theorem dX5_trusts_21 : decode cX5_trusts 21 = .ok (.invokevirtual 131, 3) := by decide +kernel
theorem dX5_trusts_24 : decode cX5_trusts 24 = .ok (.goto 24, 3) := by decide +kernel
theorem dX5_trusts_27 : decode cX5_trusts 27 = .ok (.aload_n 0, 1) := by decide +kernel
theorem dX5_trusts_28 : decode cX5_trusts 28 = .ok (.iconst 0, 1) := by decide +kernel
theorem dX5_trusts_29 : decode cX5_trusts 29 = .ok (.iload_n 3, 1) := by decide +kernel
theorem dX5_trusts_30 : decode cX5_trusts 30 = .ok (.invokevirtual 114, 3) := by decide +kernel
theorem dX5_trusts_33 : decode cX5_trusts 33 = .ok (.aload_n 0, 1) := by decide +kernel
theorem dX5_trusts_34 : decode cX5_trusts 34 = .ok (.aload_n 0, 1) := by decide +kernel
theorem dX5_trusts_35 : decode cX5_trusts 35 = .ok (.getfield 91, 3) := by decide +kernel
theorem dX5_trusts_38 : decode cX5_trusts 38 = .ok (.iconst 1, 1) := by decide +kernel
theorem dX5_trusts_39 : decode cX5_trusts 39 = .ok (.isub, 1) := by decide +kernel
theorem dX5_trusts_40 : decode cX5_trusts 40 = .ok (.iload_n 1, 1) := by decide +kernel
theorem dX5_trusts_41 : decode cX5_trusts 41 = .ok (.bipush 15, 2) := by decide +kernel
theorem dX5_trusts_43 : decode cX5_trusts 43 = .ok (.iload_n 2, 1) := by decide +kernel
theorem dX5_trusts_44 : decode cX5_trusts 44 = .ok (.iconst 0, 1) := by decide +kernel
theorem dX5_trusts_45 : decode cX5_trusts 45 = .ok (.invokevirtual 127, 3) := by decide +kernel
theorem dX5_trusts_48 : decode cX5_trusts 48 = .ok (.return_, 1) := by decide +kernel
set_option maxRecDepth 20000 in
theorem ggX5_sees_X5_hasEnded : GoodIn wsX5_sees wsX5_hasEnded := goodIn_r _ [10, 11, 5, 30, 31, 32, 33, 34, 35, 36, 37, 38, 39, 40, 41, 42, 43, 44, 45, 46, 47, 48, 49, 50, 51, 52, 53, 54, 55, 56, 57, 58, 59, 60, 61] (by decide +kernel) (by decide +kernel)
set_option maxRecDepth 20000 in
theorem gX5_sees_X5_hasEnded : GoodIn wsX5_sees (wsV RX5 151 RX5 yX5_hasEnded wsX5_hasEnded) := goodIn_app (goodIn_of _ (by decide +kernel)) ggX5_sees_X5_hasEnded
set_option maxRecDepth 20000 in
theorem ggX5_sees_X5_isFor : GoodIn wsX5_sees wsX5_isFor := goodIn_r _ [15, 16, 17, 18, 19, 20, 21, 22, 23, 24, 25, 9, 26, 27, 28, 29, 30, 31, 32, 33, 34, 35, 36, 37, 38, 39, 40, 41, 42, 43, 44, 45, 46, 47, 48, 49, 50, 51, 52, 53, 54, 55, 56, 57, 58, 59, 60, 61] (by decide +kernel) (by decide +kernel)
set_option maxRecDepth 20000 in
theorem gX5_sees_X5_isFor : GoodIn wsX5_sees (wsV RX5 154 RX5 yX5_isFor wsX5_isFor) := goodIn_app (goodIn_of _ (by decide +kernel)) ggX5_sees_X5_isFor
theorem dX5_sees_0 : decode cX5_sees 0 = .ok (.iconst 0, 1) := by decide +kernel
theorem dX5_sees_1 : decode cX5_sees 1 = .ok (.istore 4, 2) := by decide +kernel
theorem dX5_sees_3 : decode cX5_sees 3 = .ok (.iload 4, 2) := by decide +kernel
theorem dX5_sees_5 : decode cX5_sees 5 = .ok (.aload_n 0, 1) := by decide +kernel
theorem dX5_sees_6 : decode cX5_sees 6 = .ok (.getfield 91, 3) := by decide +kernel
theorem dX5_sees_9 : decode cX5_sees 9 = .ok (.if_icmp .ge 84, 3) := by decide +kernel
theorem dX5_sees_12 : decode cX5_sees 12 = .ok (.aload_n 0, 1) := by decide +kernel
theorem dX5_sees_13 : decode cX5_sees 13 = .ok (.getfield 17, 3) := by decide +kernel
theorem dX5_sees_16 : decode cX5_sees 16 = .ok (.iload 4, 2) := by decide +kernel
theorem dX5_sees_18 : decode cX5_sees 18 = .ok (.iaload, 1) := by decide +kernel
theorem dX5_sees_19 : decode cX5_sees 19 = .ok (.iconst 1, 1) := by decide +kernel
theorem dX5_sees_20 : decode cX5_sees 20 = .ok (.if_icmp .eq 38, 3) := by decide +kernel
theorem dX5_sees_23 : decode cX5_sees 23 = .ok (.aload_n 0, 1) := by decide +kernel
theorem dX5_sees_24 : decode cX5_sees 24 = .ok (.getfield 13, 3) := by decide +kernel
theorem dX5_sees_27 : decode cX5_sees 27 = .ok (.iload 4, 2) := by decide +kernel
theorem dX5_sees_29 : decode cX5_sees 29 = .ok (.iaload, 1) := by decide +kernel
theorem dX5_sees_30 : decode cX5_sees 30 = .ok (.iload_n 3, 1) := by decide +kernel
theorem dX5_sees_31 : decode cX5_sees 31 = .ok (.if_icmp .ne 27, 3) := by decide +kernel
theorem dX5_sees_34 : decode cX5_sees 34 = .ok (.aload_n 0, 1) := by decide +kernel
theorem dX5_sees_35 : decode cX5_sees 35 = .ok (.iload 4, 2) := by decide +kernel
theorem dX5_sees_37 : decode cX5_sees 37 = .ok (.invokevirtual 151, 3) := by decide +kernel
theorem dX5_sees_40 : decode cX5_sees 40 = .ok (.ifCond .ne 18, 3) := by decide +kernel
theorem dX5_sees_43 : decode cX5_sees 43 = .ok (.aload_n 0, 1) := by decide +kernel
theorem dX5_sees_44 : decode cX5_sees 44 = .ok (.iload 4, 2) := by decide +kernel
theorem dX5_sees_46 : decode cX5_sees 46 = .ok (.iload_n 1, 1) := by decide +kernel
theorem dX5_sees_47 : decode cX5_sees 47 = .ok (.iload_n 2, 1) := by decide +kernel
theorem dX5_sees_48 : decode cX5_sees 48 = .ok (.invokevirtual 154, 3) := by decide +kernel
theorem dX5_sees_51 : decode cX5_sees 51 = .ok (.ifCond .eq 7, 3) := by decide +kernel
theorem dX5_sees_54 : decode cX5_sees 54 = .ok (.iconst 1, 1) := by decide +kernel
theorem dX5_sees_55 : decode cX5_sees 55 = .ok (.goto 4, 3) := by decide +kernel
theorem dX5_sees_58 : decode cX5_sees 58 = .ok (.iconst 0, 1) := by decide +kernel
theorem dX5_sees_59 : decode cX5_sees 59 = .ok (.istore 5, 2) := by decide +kernel
theorem dX5_sees_61 : decode cX5_sees 61 = .ok (.aload_n 0, 1) := by decide +kernel
theorem dX5_sees_62 : decode cX5_sees 62 = .ok (.getfield 20, 3) := by decide +kernel
theorem dX5_sees_65 : decode cX5_sees 65 = .ok (.iload 4, 2) := by decide +kernel
theorem dX5_sees_67 : decode cX5_sees 67 = .ok (.iload 5, 2) := by decide +kernel
theorem dX5_sees_69 : decode cX5_sees 69 = .ok (.ifCond .eq 10, 3) := by decide +kernel
theorem dX5_sees_72 : decode cX5_sees 72 = .ok (.aload_n 0, 1) := by decide +kernel
theorem dX5_sees_73 : decode cX5_sees 73 = .ok (.getfield 101, 3) := by decide +kernel
theorem dX5_sees_76 : decode cX5_sees 76 = .ok (.goto 10, 3) := by decide +kernel
theorem dX5_sees_79 : decode cX5_sees 79 = .ok (.aload_n 0, 1) := by decide +kernel
theorem dX5_sees_80 : decode cX5_sees 80 = .ok (.getfield 20, 3) := by decide +kernel
theorem dX5_sees_83 : decode cX5_sees 83 = .ok (.iload 4, 2) := by decide +kernel
theorem dX5_sees_85 : decode cX5_sees 85 = .ok (.iaload, 1) := by decide +kernel
theorem dX5_sees_86 : decode cX5_sees 86 = .ok (.iastore, 1) := by decide +kernel
theorem dX5_sees_87 : decode cX5_sees 87 = .ok (.iinc 4 1, 3) := by decide +kernel
theorem dX5_sees_90 : decode cX5_sees 90 = .ok (.goto (-87), 3) := by decide +kernel
theorem dX5_sees_93 : decode cX5_sees 93 = .ok (.return_, 1) := by decide +kernel
set_option maxRecDepth 20000 in
theorem ggX5_answer_X5_isJudged : GoodIn wsX5_answer wsX5_isJudged := goodIn_r _ [11, 12, 13, 14, 10, 15, 16, 17, 18, 19, 20, 21, 22, 23, 24, 25, 26, 27, 28, 29, 30, 31, 32, 107, 108, 109, 110, 111, 112, 113, 114, 115, 116, 117, 118, 119, 120, 121, 122, 123, 124, 125, 126, 127, 128, 129, 130, 131, 132, 133, 134, 135, 136, 137, 138] (by decide +kernel) (by decide +kernel)
set_option maxRecDepth 20000 in
theorem gX5_answer_X5_isJudged : GoodIn wsX5_answer (wsV RX5 171 RX5 yX5_isJudged wsX5_isJudged) := goodIn_app (goodIn_of _ (by decide +kernel)) ggX5_answer_X5_isJudged
set_option maxRecDepth 20000 in
theorem ggX5_answer_X5_judgement : GoodIn wsX5_answer wsX5_judgement := goodIn_r _ [36, 5, 37, 6, 38, 39, 40, 41, 42, 10, 43, 44, 45, 46, 47, 48, 49, 50, 51, 52, 53, 54, 55, 56, 57, 58, 59, 60, 61, 62, 63, 64, 65, 66, 67, 68, 69, 70, 71, 72, 73, 74, 75, 13, 14, 15, 76, 77, 78, 79, 80, 81, 82, 83, 84, 107, 108, 109, 110, 111, 112, 113, 114, 115, 116, 117, 118, 119, 120, 121, 122, 123, 124, 125, 126, 127, 128, 129, 130, 131, 132, 133, 134, 135, 136, 137, 138] (by decide +kernel) (by decide +kernel)
set_option maxRecDepth 20000 in
theorem gX5_answer_X5_judgement : GoodIn wsX5_answer (wsV RX5 175 RX5 yX5_judgement wsX5_judgement) := goodIn_app (goodIn_of _ (by decide +kernel)) ggX5_answer_X5_judgement
set_option maxRecDepth 20000 in
theorem ggX5_answer_X5_sees : GoodIn wsX5_answer wsX5_sees := goodIn_r _ [88, 6, 38, 39, 89, 49, 44, 45, 46, 10, 47, 48, 50, 51, 52, 53, 54, 55, 56, 57, 58, 59, 60, 61, 62, 63, 64, 65, 66, 67, 107, 108, 109, 110, 111, 112, 113, 114, 115, 116, 117, 118, 119, 120, 121, 122, 123, 124, 125, 126, 127, 128, 129, 130, 131, 132, 133, 134, 135, 136, 137, 138] (by decide +kernel) (by decide +kernel)
set_option maxRecDepth 20000 in
theorem gX5_answer_X5_sees : GoodIn wsX5_answer (wsV RX5 185 RX5 yX5_sees wsX5_sees) := goodIn_app (goodIn_of _ (by decide +kernel)) ggX5_answer_X5_sees
set_option maxRecDepth 20000 in
theorem ggX5_answer_X5_trusts : GoodIn wsX5_answer wsX5_trusts := goodIn_r _ [93, 94, 6, 95, 96, 97, 10, 98, 54, 56, 55, 99, 100, 101, 102, 39, 38, 89, 49, 48, 57, 62, 63, 64, 103, 104, 105, 106, 59, 60, 58, 61, 107, 108, 109, 110, 111, 112, 113, 114, 115, 116, 117, 118, 119, 120, 121, 122, 123, 124, 125, 126, 127, 128, 129, 130, 131, 132, 133, 134, 135, 136, 137, 138] (by decide +kernel) (by decide +kernel)
set_option maxRecDepth 20000 in
theorem gX5_answer_X5_trusts : GoodIn wsX5_answer (wsV RX5 189 RX5 yX5_trusts wsX5_trusts) := goodIn_app (goodIn_of _ (by decide +kernel)) ggX5_answer_X5_trusts
theorem dX5_answer_0 : decode cX5_answer 0 = .ok (.aload_n 0, 1) := by decide +kernel
theorem dX5_answer_1 : decode cX5_answer 1 = .ok (.iload_n 1, 1) := by decide +kernel
theorem dX5_answer_2 : decode cX5_answer 2 = .ok (.iload_n 2, 1) := by decide +kernel
theorem dX5_answer_3 : decode cX5_answer 3 = .ok (.iload_n 3, 1) := by decide +kernel
theorem dX5_answer_4 : decode cX5_answer 4 = .ok (.iload 4, 2) := by decide +kernel
theorem dX5_answer_6 : decode cX5_answer 6 = .ok (.invokevirtual 171, 3) := by decide +kernel
theorem dX5_answer_9 : decode cX5_answer 9 = .ok (.ifCond .ne 5, 3) := by decide +kernel
theorem dX5_answer_12 : decode cX5_answer 12 = .ok (.iconst 0, 1) := by decide +kernel
theorem dX5_answer_13 : decode cX5_answer 13 = .ok (.ireturn, 1) := by decide +kernel
theorem dX5_answer_14 : decode cX5_answer 14 = .ok (.aload_n 0, 1) := by decide +kernel
theorem dX5_answer_15 : decode cX5_answer 15 = .ok (.iload_n 1, 1) := by decide +kernel
theorem dX5_answer_16 : decode cX5_answer 16 = .ok (.iload_n 2, 1) := by decide +kernel
theorem dX5_answer_17 : decode cX5_answer 17 = .ok (.iload_n 3, 1) := by decide +kernel
theorem dX5_answer_18 : decode cX5_answer 18 = .ok (.iload 4, 2) := by decide +kernel
theorem dX5_answer_20 : decode cX5_answer 20 = .ok (.invokevirtual 175, 3) := by decide +kernel
theorem dX5_answer_23 : decode cX5_answer 23 = .ok (.istore 5, 2) := by decide +kernel
theorem dX5_answer_25 : decode cX5_answer 25 = .ok (.iload 5, 2) := by decide +kernel
theorem dX5_answer_27 : decode cX5_answer 27 = .ok (.iconst 5, 1) := by decide +kernel
theorem dX5_answer_28 : decode cX5_answer 28 = .ok (.if_icmp .ne 11, 3) := by decide +kernel
theorem dX5_answer_31 : decode cX5_answer 31 = .ok (.aload_n 0, 1) := by decide +kernel
theorem dX5_answer_32 : decode cX5_answer 32 = .ok (.getfield 7, 3) := by decide +kernel
theorem dX5_answer_35 : decode cX5_answer 35 = .ok (.iconst 1, 1) := by decide +kernel
theorem dX5_answer_36 : decode cX5_answer 36 = .ok (.if_icmp .eq 9, 3) := by decide +kernel
theorem dX5_answer_39 : decode cX5_answer 39 = .ok (.iload 5, 2) := by decide +kernel
theorem dX5_answer_41 : decode cX5_answer 41 = .ok (.iconst 4, 1) := by decide +kernel
theorem dX5_answer_42 : decode cX5_answer 42 = .ok (.if_icmp .ne 7, 3) := by decide +kernel
theorem dX5_answer_45 : decode cX5_answer 45 = .ok (.iconst 1, 1) := by decide +kernel
theorem dX5_answer_46 : decode cX5_answer 46 = .ok (.goto 4, 3) := by decide +kernel
theorem dX5_answer_49 : decode cX5_answer 49 = .ok (.iconst 0, 1) := by decide +kernel
theorem dX5_answer_50 : decode cX5_answer 50 = .ok (.istore 6, 2) := by decide +kernel
theorem dX5_answer_52 : decode cX5_answer 52 = .ok (.aload_n 0, 1) := by decide +kernel
theorem dX5_answer_53 : decode cX5_answer 53 = .ok (.iload 6, 2) := by decide +kernel
theorem dX5_answer_55 : decode cX5_answer 55 = .ok (.ifCond .eq 7, 3) := by decide +kernel
theorem dX5_answer_58 : decode cX5_answer 58 = .ok (.iload_n 3, 1) := by decide +kernel
theorem dX5_answer_59 : decode cX5_answer 59 = .ok (.goto 4, 3) := by decide +kernel
theorem dX5_answer_62 : decode cX5_answer 62 = .ok (.iconst (-1), 1) := by decide +kernel
theorem dX5_answer_63 : decode cX5_answer 63 = .ok (.putfield 81, 3) := by decide +kernel
theorem dX5_answer_66 : decode cX5_answer 66 = .ok (.aload_n 0, 1) := by decide +kernel
theorem dX5_answer_67 : decode cX5_answer 67 = .ok (.iload_n 1, 1) := by decide +kernel
theorem dX5_answer_68 : decode cX5_answer 68 = .ok (.putfield 179, 3) := by decide +kernel
theorem dX5_answer_71 : decode cX5_answer 71 = .ok (.aload_n 0, 1) := by decide +kernel
theorem dX5_answer_72 : decode cX5_answer 72 = .ok (.iload_n 2, 1) := by decide +kernel
theorem dX5_answer_73 : decode cX5_answer 73 = .ok (.putfield 182, 3) := by decide +kernel
theorem dX5_answer_76 : decode cX5_answer 76 = .ok (.iload 5, 2) := by decide +kernel
theorem dX5_answer_78 : decode cX5_answer 78 = .ok (.iconst 1, 1) := by decide +kernel
theorem dX5_answer_79 : decode cX5_answer 79 = .ok (.if_icmp .eq 9, 3) := by decide +kernel
theorem dX5_answer_82 : decode cX5_answer 82 = .ok (.iload 5, 2) := by decide +kernel
theorem dX5_answer_84 : decode cX5_answer 84 = .ok (.iconst 2, 1) := by decide +kernel
theorem dX5_answer_85 : decode cX5_answer 85 = .ok (.if_icmp .ne 29, 3) := by decide +kernel
theorem dX5_answer_88 : decode cX5_answer 88 = .ok (.aload_n 0, 1) := by decide +kernel
theorem dX5_answer_89 : decode cX5_answer 89 = .ok (.iload_n 1, 1) := by decide +kernel
theorem dX5_answer_90 : decode cX5_answer 90 = .ok (.iload_n 2, 1) := by decide +kernel
theorem dX5_answer_91 : decode cX5_answer 91 = .ok (.iload_n 3, 1) := by decide +kernel
theorem dX5_answer_92 : decode cX5_answer 92 = .ok (.invokevirtual 185, 3) := by decide +kernel
theorem dX5_answer_95 : decode cX5_answer 95 = .ok (.iload 4, 2) := by decide +kernel
theorem dX5_answer_97 : decode cX5_answer 97 = .ok (.iconst (-1), 1) := by decide +kernel
theorem dX5_answer_98 : decode cX5_answer 98 = .ok (.if_icmp .eq 16, 3) := by decide +kernel
theorem dX5_answer_101 : decode cX5_answer 101 = .ok (.aload_n 0, 1) := by decide +kernel
theorem dX5_answer_102 : decode cX5_answer 102 = .ok (.iload_n 1, 1) := by decide +kernel
theorem dX5_answer_103 : decode cX5_answer 103 = .ok (.iload_n 2, 1) := by decide +kernel
theorem dX5_answer_104 : decode cX5_answer 104 = .ok (.aload_n 0, 1) := by decide +kernel
theorem dX5_answer_105 : decode cX5_answer 105 = .ok (.getfield 51, 3) := by decide +kernel
theorem dX5_answer_108 : decode cX5_answer 108 = .ok (.iload 4, 2) := by decide +kernel
theorem dX5_answer_110 : decode cX5_answer 110 = .ok (.iaload, 1) := by decide +kernel
theorem dX5_answer_111 : decode cX5_answer 111 = .ok (.invokevirtual 185, 3) := by decide +kernel
theorem dX5_answer_114 : decode cX5_answer 114 = .ok (.iload 5, 2) := by decide +kernel
theorem dX5_answer_116 : decode cX5_answer 116 = .ok (.iconst 5, 1) := by decide +kernel
theorem dX5_answer_117 : decode cX5_answer 117 = .ok (.if_icmp .ne 26, 3) := by decide +kernel
theorem dX5_answer_120 : decode cX5_answer 120 = .ok (.aload_n 0, 1) := by decide +kernel
theorem dX5_answer_121 : decode cX5_answer 121 = .ok (.getfield 7, 3) := by decide +kernel
theorem dX5_answer_124 : decode cX5_answer 124 = .ok (.ifCond .ne 19, 3) := by decide +kernel
theorem dX5_answer_127 : decode cX5_answer 127 = .ok (.aload_n 0, 1) := by decide +kernel
theorem dX5_answer_128 : decode cX5_answer 128 = .ok (.getfield 91, 3) := by decide +kernel
theorem dX5_answer_131 : decode cX5_answer 131 = .ok (.bipush 40, 2) := by decide +kernel
theorem dX5_answer_133 : decode cX5_answer 133 = .ok (.if_icmp .ge 10, 3) := by decide +kernel
theorem dX5_answer_136 : decode cX5_answer 136 = .ok (.aload_n 0, 1) := by decide +kernel
theorem dX5_answer_137 : decode cX5_answer 137 = .ok (.iload_n 1, 1) := by decide +kernel
theorem dX5_answer_138 : decode cX5_answer 138 = .ok (.iload_n 2, 1) := by decide +kernel
theorem dX5_answer_139 : decode cX5_answer 139 = .ok (.iload_n 3, 1) := by decide +kernel
theorem dX5_answer_140 : decode cX5_answer 140 = .ok (.invokevirtual 189, 3) := by decide +kernel
theorem dX5_answer_143 : decode cX5_answer 143 = .ok (.iload 5, 2) := by decide +kernel
theorem dX5_answer_145 : decode cX5_answer 145 = .ok (.ireturn, 1) := by decide +kernel
set_option maxRecDepth 20000 in
theorem ggX5_confirm_X5_holds : GoodIn wsX5_confirm wsX5_holds := goodIn_r _ [9, 10, 44, 45, 46, 47, 48, 49, 50, 51, 52, 53, 54, 55, 56, 57, 58, 59, 60, 61, 62, 63, 64, 65, 66, 67, 68, 69, 70, 71, 72, 73, 74, 75] (by decide +kernel) (by decide +kernel)
set_option maxRecDepth 20000 in
theorem gX5_confirm_X5_holds : GoodIn wsX5_confirm (wsV RX5 111 RX5 yX5_holds wsX5_holds) := goodIn_app (goodIn_of _ (by decide +kernel)) ggX5_confirm_X5_holds
set_option maxRecDepth 20000 in
theorem ggX5_confirm_X5_trusts : GoodIn wsX5_confirm wsX5_trusts := goodIn_r _ [14, 15, 2, 16, 17, 18, 8, 19, 20, 21, 22, 23, 24, 25, 26, 27, 28, 29, 30, 31, 32, 33, 34, 35, 36, 37, 38, 39, 40, 41, 42, 43, 44, 45, 46, 47, 48, 49, 50, 51, 52, 53, 54, 55, 56, 57, 58, 59, 60, 61, 62, 63, 64, 65, 66, 67, 68, 69, 70, 71, 72, 73, 74, 75] (by decide +kernel) (by decide +kernel)
set_option maxRecDepth 20000 in
theorem gX5_confirm_X5_trusts : GoodIn wsX5_confirm (wsV RX5 189 RX5 yX5_trusts wsX5_trusts) := goodIn_app (goodIn_of _ (by decide +kernel)) ggX5_confirm_X5_trusts
theorem dX5_confirm_0 : decode cX5_confirm 0 = .ok (.aload_n 0, 1) := by decide +kernel
theorem dX5_confirm_1 : decode cX5_confirm 1 = .ok (.aload_n 0, 1) := by decide +kernel
theorem dX5_confirm_2 : decode cX5_confirm 2 = .ok (.getfield 81, 3) := by decide +kernel
theorem dX5_confirm_5 : decode cX5_confirm 5 = .ok (.iconst (-1), 1) := by decide +kernel
theorem dX5_confirm_6 : decode cX5_confirm 6 = .ok (.if_icmp .eq 12, 3) := by decide +kernel
theorem dX5_confirm_9 : decode cX5_confirm 9 = .ok (.aload_n 0, 1) := by decide +kernel
theorem dX5_confirm_10 : decode cX5_confirm 10 = .ok (.getfield 91, 3) := by decide +kernel
theorem dX5_confirm_13 : decode cX5_confirm 13 = .ok (.bipush 40, 2) := by decide +kernel
theorem dX5_confirm_15 : decode cX5_confirm 15 = .ok (.if_icmp .ne 7, 3) := by decide +kernel
theorem dX5_confirm_18 : decode cX5_confirm 18 = .ok (.iconst 1, 1) := by decide +kernel
theorem dX5_confirm_19 : decode cX5_confirm 19 = .ok (.goto 4, 3) := by decide +kernel
theorem dX5_confirm_22 : decode cX5_confirm 22 = .ok (.iconst 0, 1) := by decide +kernel
theorem dX5_confirm_23 : decode cX5_confirm 23 = .ok (.invokevirtual 111, 3) := by decide +kernel
theorem dX5_confirm_26 : decode cX5_confirm 26 = .ok (.ifCond .ne 5, 3) := by decide +kernel
theorem dX5_confirm_29 : decode cX5_confirm 29 = .ok (.iconst 0, 1) := by decide +kernel
theorem dX5_confirm_30 : decode cX5_confirm 30 = .ok (.ireturn, 1) := by decide +kernel
theorem dX5_confirm_31 : decode cX5_confirm 31 = .ok (.aload_n 0, 1) := by decide +kernel
theorem dX5_confirm_32 : decode cX5_confirm 32 = .ok (.aload_n 0, 1) := by decide +kernel
theorem dX5_confirm_33 : decode cX5_confirm 33 = .ok (.getfield 179, 3) := by decide +kernel
theorem dX5_confirm_36 : decode cX5_confirm 36 = .ok (.aload_n 0, 1) := by decide +kernel
theorem dX5_confirm_37 : decode cX5_confirm 37 = .ok (.getfield 182, 3) := by decide +kernel
theorem dX5_confirm_40 : decode cX5_confirm 40 = .ok (.aload_n 0, 1) := by decide +kernel
theorem dX5_confirm_41 : decode cX5_confirm 41 = .ok (.getfield 81, 3) := by decide +kernel
theorem dX5_confirm_44 : decode cX5_confirm 44 = .ok (.invokevirtual 189, 3) := by decide +kernel
theorem dX5_confirm_47 : decode cX5_confirm 47 = .ok (.aload_n 0, 1) := by decide +kernel
theorem dX5_confirm_48 : decode cX5_confirm 48 = .ok (.iconst (-1), 1) := by decide +kernel
theorem dX5_confirm_49 : decode cX5_confirm 49 = .ok (.putfield 81, 3) := by decide +kernel
theorem dX5_confirm_52 : decode cX5_confirm 52 = .ok (.aload_n 0, 1) := by decide +kernel
theorem dX5_confirm_53 : decode cX5_confirm 53 = .ok (.getfield 91, 3) := by decide +kernel
theorem dX5_confirm_56 : decode cX5_confirm 56 = .ok (.iconst 1, 1) := by decide +kernel
theorem dX5_confirm_57 : decode cX5_confirm 57 = .ok (.isub, 1) := by decide +kernel
theorem dX5_confirm_58 : decode cX5_confirm 58 = .ok (.ireturn, 1) := by decide +kernel
set_option maxRecDepth 20000 in
theorem ggX5_turn_X5_areAsked : GoodIn wsX5_turn wsX5_areAsked := goodIn_r _ [9, 10, 11, 8, 12, 13, 14, 15, 16, 17, 18, 19, 20, 21] (by decide +kernel) (by decide +kernel)
set_option maxRecDepth 20000 in
theorem gX5_turn_X5_areAsked : GoodIn wsX5_turn (va_wsS RX5 168 yX5_areAsked wsX5_areAsked) := goodIn_app (goodIn_of _ (by decide +kernel)) ggX5_turn_X5_areAsked
set_option maxRecDepth 20000 in
theorem ggX5_turn_X5_isKey : GoodIn wsX5_turn wsX5_isKey := goodIn_r _ [21, 13, 14, 8, 15] (by decide +kernel) (by decide +kernel)
set_option maxRecDepth 20000 in
theorem gX5_turn_X5_isKey : GoodIn wsX5_turn (va_wsS RX5 108 yX5_isKey wsX5_isKey) := goodIn_app (goodIn_of _ (by decide +kernel)) ggX5_turn_X5_isKey
set_option maxRecDepth 20000 in
theorem ggX5_turn_X5_isIn : GoodIn wsX5_turn wsX5_isIn := goodIn_r _ [15] (by decide +kernel) (by decide +kernel)
set_option maxRecDepth 20000 in
theorem gX5_turn_X5_isIn : GoodIn wsX5_turn (va_wsS RX5 87 yX5_isIn wsX5_isIn) := goodIn_app (goodIn_of _ (by decide +kernel)) ggX5_turn_X5_isIn
set_option maxRecDepth 20000 in
theorem ggX5_turn_X5_judgement : GoodIn wsX5_turn wsX5_judgement := goodIn_r _ [25, 26, 27, 1, 2, 3, 28, 29, 30, 8, 31, 32, 33, 34, 35, 4, 5, 36, 37, 38, 39, 40, 41, 42, 43, 44, 45, 46, 47, 48, 49, 50, 51, 52, 53, 54, 55, 56, 57, 58, 59, 60, 61, 13, 14, 15, 62, 63, 64, 65, 66, 67, 68, 69, 70, 85, 86, 87, 88, 89, 90, 91, 92, 93, 94, 95, 96, 97, 98, 99, 100, 101, 102, 103, 104, 105, 106, 107, 108, 109, 110, 111, 112, 113, 114, 115, 116] (by decide +kernel) (by decide +kernel)
set_option maxRecDepth 20000 in
theorem gX5_turn_X5_judgement : GoodIn wsX5_turn (wsV RX5 175 RX5 yX5_judgement wsX5_judgement) := goodIn_app (goodIn_of _ (by decide +kernel)) ggX5_turn_X5_judgement
set_option maxRecDepth 20000 in
theorem ggX5_turn_X5_holds : GoodIn wsX5_turn wsX5_holds := goodIn_r _ [74, 75, 85, 86, 87, 88, 89, 90, 91, 92, 93, 94, 95, 96, 97, 98, 99, 100, 101, 102, 103, 104, 105, 106, 107, 108, 109, 110, 111, 112, 113, 114, 115, 116] (by decide +kernel) (by decide +kernel)
set_option maxRecDepth 20000 in
theorem gX5_turn_X5_holds : GoodIn wsX5_turn (wsV RX5 111 RX5 yX5_holds wsX5_holds) := goodIn_app (goodIn_of _ (by decide +kernel)) ggX5_turn_X5_holds
set_option maxRecDepth 20000 in
theorem ggX5_turn_X5_hasEnded : GoodIn wsX5_turn wsX5_hasEnded := goodIn_r _ [35, 4, 5, 85, 86, 87, 88, 89, 90, 91, 92, 93, 94, 95, 96, 97, 98, 99, 100, 101, 102, 103, 104, 105, 106, 107, 108, 109, 110, 111, 112, 113, 114, 115, 116] (by decide +kernel) (by decide +kernel)
set_option maxRecDepth 20000 in
theorem gX5_turn_X5_hasEnded : GoodIn wsX5_turn (wsV RX5 151 RX5 yX5_hasEnded wsX5_hasEnded) := goodIn_app (goodIn_of _ (by decide +kernel)) ggX5_turn_X5_hasEnded
set_option maxRecDepth 20000 in
theorem ggX5_turn_X5_isFor : GoodIn wsX5_turn wsX5_isFor := goodIn_r _ [39, 40, 41, 42, 43, 44, 45, 46, 47, 48, 49, 8, 50, 51, 52, 53, 85, 86, 87, 88, 89, 90, 91, 92, 93, 94, 95, 96, 97, 98, 99, 100, 101, 102, 103, 104, 105, 106, 107, 108, 109, 110, 111, 112, 113, 114, 115, 116] (by decide +kernel) (by decide +kernel)
set_option maxRecDepth 20000 in
theorem gX5_turn_X5_isFor : GoodIn wsX5_turn (wsV RX5 154 RX5 yX5_isFor wsX5_isFor) := goodIn_app (goodIn_of _ (by decide +kernel)) ggX5_turn_X5_isFor
set_option maxRecDepth 20000 in
theorem ggX5_turn_X5_adds : GoodIn wsX5_turn wsX5_adds := goodIn_r _ [79, 3, 1, 2, 80, 5, 4, 40, 43, 85, 86, 87, 88, 89, 90, 91, 92, 93, 94, 95, 96, 97, 98, 99, 100, 101, 102, 103, 104, 105, 106, 107, 108, 109, 110, 111, 112, 113, 114, 115, 116] (by decide +kernel) (by decide +kernel)
set_option maxRecDepth 20000 in
theorem gX5_turn_X5_adds : GoodIn wsX5_turn (wsV RX5 114 RX5 yX5_adds wsX5_adds) := goodIn_app (goodIn_of _ (by decide +kernel)) ggX5_turn_X5_adds
set_option maxRecDepth 20000 in
theorem ggX5_turn_X5_becomesLike : GoodIn wsX5_turn wsX5_becomesLike := goodIn_r _ [84, 40, 42, 41, 43, 45, 46, 44, 47, 85, 86, 87, 88, 89, 90, 91, 92, 93, 94, 95, 96, 97, 98, 99, 100, 101, 102, 103, 104, 105, 106, 107, 108, 109, 110, 111, 112, 113, 114, 115, 116] (by decide +kernel) (by decide +kernel)
set_option maxRecDepth 20000 in
theorem gX5_turn_X5_becomesLike : GoodIn wsX5_turn (wsV RX5 135 RX5 yX5_becomesLike wsX5_becomesLike) := goodIn_app (goodIn_of _ (by decide +kernel)) ggX5_turn_X5_becomesLike
theorem dX5_turn_0 : decode cX5_turn 0 = .ok (.iload_n 1, 1) := by decide +kernel
theorem dX5_turn_1 : decode cX5_turn 1 = .ok (.iload_n 2, 1) := by decide +kernel
theorem dX5_turn_2 : decode cX5_turn 2 = .ok (.iload_n 3, 1) := by decide +kernel
theorem dX5_turn_3 : decode cX5_turn 3 = .ok (.invokestatic 168, 3) := by decide +kernel
theorem dX5_turn_6 : decode cX5_turn 6 = .ok (.ifCond .eq 33, 3) := by decide +kernel
theorem dX5_turn_9 : decode cX5_turn 9 = .ok (.iload 4, 2) := by decide +kernel
theorem dX5_turn_11 : decode cX5_turn 11 = .ok (.invokestatic 108, 3) := by decide +kernel
theorem dX5_turn_14 : decode cX5_turn 14 = .ok (.ifCond .eq 25, 3) := by decide +kernel
theorem dX5_turn_17 : decode cX5_turn 17 = .ok (.iload 5, 2) := by decide +kernel
theorem dX5_turn_19 : decode cX5_turn 19 = .ok (.iconst 0, 1) := by decide +kernel
theorem dX5_turn_20 : decode cX5_turn 20 = .ok (.sipush 1000, 3) := by decide +kernel
theorem dX5_turn_23 : decode cX5_turn 23 = .ok (.invokestatic 87, 3) := by decide +kernel
theorem dX5_turn_26 : decode cX5_turn 26 = .ok (.ifCond .eq 13, 3) := by decide +kernel
theorem dX5_turn_29 : decode cX5_turn 29 = .ok (.iload_n 3, 1) := by decide +kernel
theorem dX5_turn_30 : decode cX5_turn 30 = .ok (.iload 4, 2) := by decide +kernel
theorem dX5_turn_32 : decode cX5_turn 32 = .ok (.if_icmp .eq 7, 3) := by decide +kernel
theorem dX5_turn_35 : decode cX5_turn 35 = .ok (.iconst 1, 1) := by decide +kernel
theorem dX5_turn_36 : decode cX5_turn 36 = .ok (.goto 4, 3) := by decide +kernel
theorem dX5_turn_39 : decode cX5_turn 39 = .ok (.iconst 0, 1) := by decide +kernel
theorem dX5_turn_40 : decode cX5_turn 40 = .ok (.istore 6, 2) := by decide +kernel
theorem dX5_turn_42 : decode cX5_turn 42 = .ok (.iload 6, 2) := by decide +kernel
theorem dX5_turn_44 : decode cX5_turn 44 = .ok (.ifCond .eq 31, 3) := by decide +kernel
theorem dX5_turn_47 : decode cX5_turn 47 = .ok (.aload_n 0, 1) := by decide +kernel
theorem dX5_turn_48 : decode cX5_turn 48 = .ok (.iload_n 1, 1) := by decide +kernel
theorem dX5_turn_49 : decode cX5_turn 49 = .ok (.iload_n 2, 1) := by decide +kernel
theorem dX5_turn_50 : decode cX5_turn 50 = .ok (.iload_n 3, 1) := by decide +kernel
theorem dX5_turn_51 : decode cX5_turn 51 = .ok (.iconst (-1), 1) := by decide +kernel
theorem dX5_turn_52 : decode cX5_turn 52 = .ok (.invokevirtual 175, 3) := by decide +kernel
theorem dX5_turn_55 : decode cX5_turn 55 = .ok (.iconst 2, 1) := by decide +kernel
theorem dX5_turn_56 : decode cX5_turn 56 = .ok (.if_icmp .ne 19, 3) := by decide +kernel
theorem dX5_turn_59 : decode cX5_turn 59 = .ok (.aload_n 0, 1) := by decide +kernel
theorem dX5_turn_60 : decode cX5_turn 60 = .ok (.iload_n 1, 1) := by decide +kernel
theorem dX5_turn_61 : decode cX5_turn 61 = .ok (.iload_n 2, 1) := by decide +kernel
theorem dX5_turn_62 : decode cX5_turn 62 = .ok (.iload 4, 2) := by decide +kernel
theorem dX5_turn_64 : decode cX5_turn 64 = .ok (.iconst (-1), 1) := by decide +kernel
theorem dX5_turn_65 : decode cX5_turn 65 = .ok (.invokevirtual 175, 3) := by decide +kernel
theorem dX5_turn_68 : decode cX5_turn 68 = .ok (.ifCond .eq 7, 3) := by decide +kernel
theorem dX5_turn_71 : decode cX5_turn 71 = .ok (.iconst 1, 1) := by decide +kernel
theorem dX5_turn_72 : decode cX5_turn 72 = .ok (.goto 4, 3) := by decide +kernel
theorem dX5_turn_75 : decode cX5_turn 75 = .ok (.iconst 0, 1) := by decide +kernel
theorem dX5_turn_76 : decode cX5_turn 76 = .ok (.istore 7, 2) := by decide +kernel
theorem dX5_turn_78 : decode cX5_turn 78 = .ok (.aload_n 0, 1) := by decide +kernel
theorem dX5_turn_79 : decode cX5_turn 79 = .ok (.iload 6, 2) := by decide +kernel
theorem dX5_turn_81 : decode cX5_turn 81 = .ok (.ifCond .ne 7, 3) := by decide +kernel
theorem dX5_turn_84 : decode cX5_turn 84 = .ok (.iconst 1, 1) := by decide +kernel
theorem dX5_turn_85 : decode cX5_turn 85 = .ok (.goto 13, 3) := by decide +kernel
theorem dX5_turn_88 : decode cX5_turn 88 = .ok (.iload 7, 2) := by decide +kernel
theorem dX5_turn_90 : decode cX5_turn 90 = .ok (.ifCond .eq 7, 3) := by decide +kernel
theorem dX5_turn_93 : decode cX5_turn 93 = .ok (.iconst 0, 1) := by decide +kernel
theorem dX5_turn_94 : decode cX5_turn 94 = .ok (.goto 4, 3) := by decide +kernel
theorem dX5_turn_97 : decode cX5_turn 97 = .ok (.iconst 2, 1) := by decide +kernel
theorem dX5_turn_98 : decode cX5_turn 98 = .ok (.invokevirtual 111, 3) := by decide +kernel
theorem dX5_turn_101 : decode cX5_turn 101 = .ok (.ifCond .ne 5, 3) := by decide +kernel
theorem dX5_turn_104 : decode cX5_turn 104 = .ok (.iconst 0, 1) := by decide +kernel
theorem dX5_turn_105 : decode cX5_turn 105 = .ok (.ireturn, 1) := by decide +kernel
theorem dX5_turn_106 : decode cX5_turn 106 = .ok (.aload_n 0, 1) := by decide +kernel
theorem dX5_turn_107 : decode cX5_turn 107 = .ok (.getfield 91, 3) := by decide +kernel
theorem dX5_turn_110 : decode cX5_turn 110 = .ok (.istore 8, 2) := by decide +kernel
theorem dX5_turn_112 : decode cX5_turn 112 = .ok (.iconst 0, 1) := by decide +kernel
theorem dX5_turn_113 : decode cX5_turn 113 = .ok (.istore 9, 2) := by decide +kernel
theorem dX5_turn_115 : decode cX5_turn 115 = .ok (.iload 9, 2) := by decide +kernel
theorem dX5_turn_117 : decode cX5_turn 117 = .ok (.iload 8, 2) := by decide +kernel
theorem dX5_turn_119 : decode cX5_turn 119 = .ok (.if_icmp .ge 130, 3) := by decide +kernel
theorem dX5_turn_122 : decode cX5_turn 122 = .ok (.aload_n 0, 1) := by decide +kernel
theorem dX5_turn_123 : decode cX5_turn 123 = .ok (.getfield 91, 3) := by decide +kernel
theorem dX5_turn_126 : decode cX5_turn 126 = .ok (.bipush 40, 2) := by decide +kernel
theorem dX5_turn_128 : decode cX5_turn 128 = .ok (.if_icmp .ge 121, 3) := by decide +kernel
theorem dX5_turn_131 : decode cX5_turn 131 = .ok (.aload_n 0, 1) := by decide +kernel
theorem dX5_turn_132 : decode cX5_turn 132 = .ok (.getfield 17, 3) := by decide +kernel
theorem dX5_turn_135 : decode cX5_turn 135 = .ok (.iload 9, 2) := by decide +kernel
theorem dX5_turn_137 : decode cX5_turn 137 = .ok (.iaload, 1) := by decide +kernel
theorem dX5_turn_138 : decode cX5_turn 138 = .ok (.ifCond .ne 105, 3) := by decide +kernel
theorem dX5_turn_141 : decode cX5_turn 141 = .ok (.aload_n 0, 1) := by decide +kernel
theorem dX5_turn_142 : decode cX5_turn 142 = .ok (.getfield 13, 3) := by decide +kernel
theorem dX5_turn_145 : decode cX5_turn 145 = .ok (.iload 9, 2) := by decide +kernel
theorem dX5_turn_147 : decode cX5_turn 147 = .ok (.iaload, 1) := by decide +kernel
theorem dX5_turn_148 : decode cX5_turn 148 = .ok (.iload_n 3, 1) := by decide +kernel
theorem dX5_turn_149 : decode cX5_turn 149 = .ok (.if_icmp .ne 94, 3) := by decide +kernel
theorem dX5_turn_152 : decode cX5_turn 152 = .ok (.aload_n 0, 1) := by decide +kernel
theorem dX5_turn_153 : decode cX5_turn 153 = .ok (.iload 9, 2) := by decide +kernel
theorem dX5_turn_155 : decode cX5_turn 155 = .ok (.invokevirtual 151, 3) := by decide +kernel
theorem dX5_turn_158 : decode cX5_turn 158 = .ok (.ifCond .ne 85, 3) := by decide +kernel
theorem dX5_turn_161 : decode cX5_turn 161 = .ok (.aload_n 0, 1) := by decide +kernel
theorem dX5_turn_162 : decode cX5_turn 162 = .ok (.iload 9, 2) := by decide +kernel
theorem dX5_turn_164 : decode cX5_turn 164 = .ok (.iload_n 1, 1) := by decide +kernel
theorem dX5_turn_165 : decode cX5_turn 165 = .ok (.iload_n 2, 1) := by decide +kernel
theorem dX5_turn_166 : decode cX5_turn 166 = .ok (.invokevirtual 154, 3) := by decide +kernel
theorem dX5_turn_169 : decode cX5_turn 169 = .ok (.ifCond .eq 74, 3) := by decide +kernel
theorem dX5_turn_172 : decode cX5_turn 172 = .ok (.aload_n 0, 1) := by decide +kernel
theorem dX5_turn_173 : decode cX5_turn 173 = .ok (.iconst 0, 1) := by decide +kernel
theorem dX5_turn_174 : decode cX5_turn 174 = .ok (.iload 4, 2) := by decide +kernel
theorem dX5_turn_176 : decode cX5_turn 176 = .ok (.invokevirtual 114, 3) := by decide +kernel
theorem dX5_turn_179 : decode cX5_turn 179 = .ok (.aload_n 0, 1) := by decide +kernel
theorem dX5_turn_180 : decode cX5_turn 180 = .ok (.aload_n 0, 1) := by decide +kernel
theorem dX5_turn_181 : decode cX5_turn 181 = .ok (.getfield 91, 3) := by decide +kernel
theorem dX5_turn_184 : decode cX5_turn 184 = .ok (.iconst 1, 1) := by decide +kernel
theorem dX5_turn_185 : decode cX5_turn 185 = .ok (.isub, 1) := by decide +kernel
theorem dX5_turn_186 : decode cX5_turn 186 = .ok (.iload 9, 2) := by decide +kernel
theorem dX5_turn_188 : decode cX5_turn 188 = .ok (.invokevirtual 135, 3) := by decide +kernel
theorem dX5_turn_191 : decode cX5_turn 191 = .ok (.aload_n 0, 1) := by decide +kernel
theorem dX5_turn_192 : decode cX5_turn 192 = .ok (.getfield 23, 3) := by decide +kernel
theorem dX5_turn_195 : decode cX5_turn 195 = .ok (.iload 9, 2) := by decide +kernel
theorem dX5_turn_197 : decode cX5_turn 197 = .ok (.aload_n 0, 1) := by decide +kernel
theorem dX5_turn_198 : decode cX5_turn 198 = .ok (.getfield 23, 3) := by decide +kernel
theorem dX5_turn_201 : decode cX5_turn 201 = .ok (.iload 9, 2) := by decide +kernel
theorem dX5_turn_203 : decode cX5_turn 203 = .ok (.iaload, 1) := by decide +kernel
theorem dX5_turn_204 : decode cX5_turn 204 = .ok (.iconst (-1), 1) := by decide +kernel
theorem dX5_turn_205 : decode cX5_turn 205 = .ok (.if_icmp .eq 30, 3) := by decide +kernel
theorem dX5_turn_208 : decode cX5_turn 208 = .ok (.aload_n 0, 1) := by decide +kernel
theorem dX5_turn_209 : decode cX5_turn 209 = .ok (.getfield 23, 3) := by decide +kernel
theorem dX5_turn_212 : decode cX5_turn 212 = .ok (.iload 9, 2) := by decide +kernel
theorem dX5_turn_214 : decode cX5_turn 214 = .ok (.iaload, 1) := by decide +kernel
theorem dX5_turn_215 : decode cX5_turn 215 = .ok (.aload_n 0, 1) := by decide +kernel
theorem dX5_turn_216 : decode cX5_turn 216 = .ok (.getfield 101, 3) := by decide +kernel
theorem dX5_turn_219 : decode cX5_turn 219 = .ok (.iload 5, 2) := by decide +kernel
theorem dX5_turn_221 : decode cX5_turn 221 = .ok (.iadd, 1) := by decide +kernel
theorem dX5_turn_222 : decode cX5_turn 222 = .ok (.if_icmp .ge 13, 3) := by decide +kernel
theorem dX5_turn_225 : decode cX5_turn 225 = .ok (.aload_n 0, 1) := by decide +kernel
theorem dX5_turn_226 : decode cX5_turn 226 = .ok (.getfield 23, 3) := by decide +kernel
theorem dX5_turn_229 : decode cX5_turn 229 = .ok (.iload 9, 2) := by decide +kernel
theorem dX5_turn_231 : decode cX5_turn 231 = .ok (.iaload, 1) := by decide +kernel
theorem dX5_turn_232 : decode cX5_turn 232 = .ok (.goto 10, 3) := by decide +kernel
theorem dX5_turn_235 : decode cX5_turn 235 = .ok (.aload_n 0, 1) := by decide +kernel
theorem dX5_turn_236 : decode cX5_turn 236 = .ok (.getfield 101, 3) := by decide +kernel
theorem dX5_turn_239 : decode cX5_turn 239 = .ok (.iload 5, 2) := by decide +kernel
theorem dX5_turn_241 : decode cX5_turn 241 = .ok (.iadd, 1) := by decide +kernel
theorem dX5_turn_242 : decode cX5_turn 242 = .ok (.iastore, 1) := by decide +kernel
theorem dX5_turn_243 : decode cX5_turn 243 = .ok (.iinc 9 1, 3) := by decide +kernel
theorem dX5_turn_246 : decode cX5_turn 246 = .ok (.goto (-131), 3) := by decide +kernel
theorem dX5_turn_249 : decode cX5_turn 249 = .ok (.aload_n 0, 1) := by decide +kernel
theorem dX5_turn_250 : decode cX5_turn 250 = .ok (.getfield 91, 3) := by decide +kernel
theorem dX5_turn_253 : decode cX5_turn 253 = .ok (.iload 8, 2) := by decide +kernel
theorem dX5_turn_255 : decode cX5_turn 255 = .ok (.isub, 1) := by decide +kernel
theorem dX5_turn_256 : decode cX5_turn 256 = .ok (.ireturn, 1) := by decide +kernel
set_option maxRecDepth 20000 in
theorem ggX5_pass_X5_isIn : GoodIn wsX5_pass wsX5_isIn := goodIn_r _ [5] (by decide +kernel) (by decide +kernel)
set_option maxRecDepth 20000 in
theorem gX5_pass_X5_isIn : GoodIn wsX5_pass (va_wsS RX5 87 yX5_isIn wsX5_isIn) := goodIn_app (goodIn_of _ (by decide +kernel)) ggX5_pass_X5_isIn
set_option maxRecDepth 20000 in
theorem ggX5_pass_X5_holds : GoodIn wsX5_pass wsX5_holds := goodIn_r _ [9, 10, 11, 12, 13, 14, 15, 16, 17, 18, 19, 20, 21, 22, 23, 24, 25, 26, 27, 28, 29, 30, 31, 32, 33, 34, 35, 36, 37, 38, 39, 40, 41, 42] (by decide +kernel) (by decide +kernel)
set_option maxRecDepth 20000 in
theorem gX5_pass_X5_holds : GoodIn wsX5_pass (wsV RX5 111 RX5 yX5_holds wsX5_holds) := goodIn_app (goodIn_of _ (by decide +kernel)) ggX5_pass_X5_holds
theorem dX5_pass_0 : decode cX5_pass 0 = .ok (.aload_n 0, 1) := by decide +kernel
theorem dX5_pass_1 : decode cX5_pass 1 = .ok (.iload_n 1, 1) := by decide +kernel
theorem dX5_pass_2 : decode cX5_pass 2 = .ok (.iconst 1, 1) := by decide +kernel
theorem dX5_pass_3 : decode cX5_pass 3 = .ok (.sipush 1000, 3) := by decide +kernel
theorem dX5_pass_6 : decode cX5_pass 6 = .ok (.invokestatic 87, 3) := by decide +kernel
theorem dX5_pass_9 : decode cX5_pass 9 = .ok (.ifCond .ne 7, 3) := by decide +kernel
theorem dX5_pass_12 : decode cX5_pass 12 = .ok (.iconst 1, 1) := by decide +kernel
theorem dX5_pass_13 : decode cX5_pass 13 = .ok (.goto 20, 3) := by decide +kernel
theorem dX5_pass_16 : decode cX5_pass 16 = .ok (.aload_n 0, 1) := by decide +kernel
theorem dX5_pass_17 : decode cX5_pass 17 = .ok (.getfield 101, 3) := by decide +kernel
theorem dX5_pass_20 : decode cX5_pass 20 = .ok (.iload_n 1, 1) := by decide +kernel
theorem dX5_pass_21 : decode cX5_pass 21 = .ok (.iadd, 1) := by decide +kernel
theorem dX5_pass_22 : decode cX5_pass 22 = .ok (.sipush 5000, 3) := by decide +kernel
theorem dX5_pass_25 : decode cX5_pass 25 = .ok (.if_icmp .le 7, 3) := by decide +kernel
theorem dX5_pass_28 : decode cX5_pass 28 = .ok (.iconst 2, 1) := by decide +kernel
theorem dX5_pass_29 : decode cX5_pass 29 = .ok (.goto 4, 3) := by decide +kernel
theorem dX5_pass_32 : decode cX5_pass 32 = .ok (.iconst 0, 1) := by decide +kernel
theorem dX5_pass_33 : decode cX5_pass 33 = .ok (.invokevirtual 111, 3) := by decide +kernel
theorem dX5_pass_36 : decode cX5_pass 36 = .ok (.ifCond .ne 5, 3) := by decide +kernel
theorem dX5_pass_39 : decode cX5_pass 39 = .ok (.iconst 0, 1) := by decide +kernel
theorem dX5_pass_40 : decode cX5_pass 40 = .ok (.ireturn, 1) := by decide +kernel
theorem dX5_pass_41 : decode cX5_pass 41 = .ok (.aload_n 0, 1) := by decide +kernel
theorem dX5_pass_42 : decode cX5_pass 42 = .ok (.dup, 1) := by decide +kernel
theorem dX5_pass_43 : decode cX5_pass 43 = .ok (.getfield 101, 3) := by decide +kernel
theorem dX5_pass_46 : decode cX5_pass 46 = .ok (.iload_n 1, 1) := by decide +kernel
theorem dX5_pass_47 : decode cX5_pass 47 = .ok (.iadd, 1) := by decide +kernel
theorem dX5_pass_48 : decode cX5_pass 48 = .ok (.putfield 101, 3) := by decide +kernel
theorem dX5_pass_51 : decode cX5_pass 51 = .ok (.aload_n 0, 1) := by decide +kernel
theorem dX5_pass_52 : decode cX5_pass 52 = .ok (.getfield 101, 3) := by decide +kernel
theorem dX5_pass_55 : decode cX5_pass 55 = .ok (.ireturn, 1) := by decide +kernel
set_option maxRecDepth 20000 in
theorem ggX5_clean_X5_isIn : GoodIn wsX5_clean wsX5_isIn := goodIn_r _ [8] (by decide +kernel) (by decide +kernel)
set_option maxRecDepth 20000 in
theorem gX5_clean_X5_isIn : GoodIn wsX5_clean (va_wsS RX5 87 yX5_isIn wsX5_isIn) := goodIn_app (goodIn_of _ (by decide +kernel)) ggX5_clean_X5_isIn
set_option maxRecDepth 20000 in
theorem ggX5_clean_X5_holds : GoodIn wsX5_clean wsX5_holds := goodIn_r _ [12, 13, 36, 37, 38, 39, 40, 41, 42, 43, 44, 45, 46, 47, 48, 49, 50, 51, 52, 53, 54, 55, 56, 57, 58, 59, 60, 61, 62, 63, 64, 65, 66, 67] (by decide +kernel) (by decide +kernel)
set_option maxRecDepth 20000 in
theorem gX5_clean_X5_holds : GoodIn wsX5_clean (wsV RX5 111 RX5 yX5_holds wsX5_holds) := goodIn_app (goodIn_of _ (by decide +kernel)) ggX5_clean_X5_holds
set_option maxRecDepth 20000 in
theorem ggX5_clean_X5_hasEnded : GoodIn wsX5_clean wsX5_hasEnded := goodIn_r _ [17, 18, 3, 36, 37, 38, 39, 40, 41, 42, 43, 44, 45, 46, 47, 48, 49, 50, 51, 52, 53, 54, 55, 56, 57, 58, 59, 60, 61, 62, 63, 64, 65, 66, 67] (by decide +kernel) (by decide +kernel)
set_option maxRecDepth 20000 in
theorem gX5_clean_X5_hasEnded : GoodIn wsX5_clean (wsV RX5 151 RX5 yX5_hasEnded wsX5_hasEnded) := goodIn_app (goodIn_of _ (by decide +kernel)) ggX5_clean_X5_hasEnded
set_option maxRecDepth 20000 in
theorem ggX5_clean_X5_removes : GoodIn wsX5_clean wsX5_removes := goodIn_r _ [22, 1, 23, 2, 4, 18, 24, 25, 26, 7, 27, 28, 29, 30, 31, 32, 33, 34, 35, 36, 37, 38, 39, 40, 41, 42, 43, 44, 45, 46, 47, 48, 49, 50, 51, 52, 53, 54, 55, 56, 57, 58, 59, 60, 61, 62, 63, 64, 65, 66, 67] (by decide +kernel) (by decide +kernel)
set_option maxRecDepth 20000 in
theorem gX5_clean_X5_removes : GoodIn wsX5_clean (wsV RX5 138 RX5 yX5_removes wsX5_removes) := goodIn_app (goodIn_of _ (by decide +kernel)) ggX5_clean_X5_removes
theorem dX5_clean_0 : decode cX5_clean 0 = .ok (.aload_n 0, 1) := by decide +kernel
theorem dX5_clean_1 : decode cX5_clean 1 = .ok (.iload_n 1, 1) := by decide +kernel
theorem dX5_clean_2 : decode cX5_clean 2 = .ok (.iconst 1, 1) := by decide +kernel
theorem dX5_clean_3 : decode cX5_clean 3 = .ok (.sipush 5000, 3) := by decide +kernel
theorem dX5_clean_6 : decode cX5_clean 6 = .ok (.invokestatic 87, 3) := by decide +kernel
theorem dX5_clean_9 : decode cX5_clean 9 = .ok (.ifCond .eq 7, 3) := by decide +kernel
theorem dX5_clean_12 : decode cX5_clean 12 = .ok (.iconst 0, 1) := by decide +kernel
theorem dX5_clean_13 : decode cX5_clean 13 = .ok (.goto 4, 3) := by decide +kernel
theorem dX5_clean_16 : decode cX5_clean 16 = .ok (.iconst 1, 1) := by decide +kernel
theorem dX5_clean_17 : decode cX5_clean 17 = .ok (.invokevirtual 111, 3) := by decide +kernel
theorem dX5_clean_20 : decode cX5_clean 20 = .ok (.ifCond .ne 5, 3) := by decide +kernel
theorem dX5_clean_23 : decode cX5_clean 23 = .ok (.iconst 0, 1) := by decide +kernel
theorem dX5_clean_24 : decode cX5_clean 24 = .ok (.ireturn, 1) := by decide +kernel
theorem dX5_clean_25 : decode cX5_clean 25 = .ok (.aload_n 0, 1) := by decide +kernel
theorem dX5_clean_26 : decode cX5_clean 26 = .ok (.getfield 91, 3) := by decide +kernel
theorem dX5_clean_29 : decode cX5_clean 29 = .ok (.istore_n 2, 1) := by decide +kernel
theorem dX5_clean_30 : decode cX5_clean 30 = .ok (.aload_n 0, 1) := by decide +kernel
theorem dX5_clean_31 : decode cX5_clean 31 = .ok (.getfield 91, 3) := by decide +kernel
theorem dX5_clean_34 : decode cX5_clean 34 = .ok (.iconst 1, 1) := by decide +kernel
theorem dX5_clean_35 : decode cX5_clean 35 = .ok (.isub, 1) := by decide +kernel
theorem dX5_clean_36 : decode cX5_clean 36 = .ok (.istore_n 3, 1) := by decide +kernel
theorem dX5_clean_37 : decode cX5_clean 37 = .ok (.iload_n 3, 1) := by decide +kernel
theorem dX5_clean_38 : decode cX5_clean 38 = .ok (.ifCond .lt 46, 3) := by decide +kernel
theorem dX5_clean_41 : decode cX5_clean 41 = .ok (.aload_n 0, 1) := by decide +kernel
theorem dX5_clean_42 : decode cX5_clean 42 = .ok (.getfield 17, 3) := by decide +kernel
theorem dX5_clean_45 : decode cX5_clean 45 = .ok (.iload_n 3, 1) := by decide +kernel
theorem dX5_clean_46 : decode cX5_clean 46 = .ok (.iaload, 1) := by decide +kernel
theorem dX5_clean_47 : decode cX5_clean 47 = .ok (.ifCond .ne 31, 3) := by decide +kernel
theorem dX5_clean_50 : decode cX5_clean 50 = .ok (.aload_n 0, 1) := by decide +kernel
theorem dX5_clean_51 : decode cX5_clean 51 = .ok (.iload_n 3, 1) := by decide +kernel
theorem dX5_clean_52 : decode cX5_clean 52 = .ok (.invokevirtual 151, 3) := by decide +kernel
theorem dX5_clean_55 : decode cX5_clean 55 = .ok (.ifCond .ne 18, 3) := by decide +kernel
theorem dX5_clean_58 : decode cX5_clean 58 = .ok (.aload_n 0, 1) := by decide +kernel
theorem dX5_clean_59 : decode cX5_clean 59 = .ok (.getfield 101, 3) := by decide +kernel
theorem dX5_clean_62 : decode cX5_clean 62 = .ok (.aload_n 0, 1) := by decide +kernel
theorem dX5_clean_63 : decode cX5_clean 63 = .ok (.getfield 20, 3) := by decide +kernel
theorem dX5_clean_66 : decode cX5_clean 66 = .ok (.iload_n 3, 1) := by decide +kernel
theorem dX5_clean_67 : decode cX5_clean 67 = .ok (.iaload, 1) := by decide +kernel
theorem dX5_clean_68 : decode cX5_clean 68 = .ok (.isub, 1) := by decide +kernel
theorem dX5_clean_69 : decode cX5_clean 69 = .ok (.iload_n 1, 1) := by decide +kernel
theorem dX5_clean_70 : decode cX5_clean 70 = .ok (.if_icmp .lt 8, 3) := by decide +kernel
theorem dX5_clean_73 : decode cX5_clean 73 = .ok (.aload_n 0, 1) := by decide +kernel
theorem dX5_clean_74 : decode cX5_clean 74 = .ok (.iload_n 3, 1) := by decide +kernel
theorem dX5_clean_75 : decode cX5_clean 75 = .ok (.invokevirtual 138, 3) := by decide +kernel
theorem dX5_clean_78 : decode cX5_clean 78 = .ok (.iinc 3 (-1), 3) := by decide +kernel
theorem dX5_clean_81 : decode cX5_clean 81 = .ok (.goto (-44), 3) := by decide +kernel
theorem dX5_clean_84 : decode cX5_clean 84 = .ok (.iload_n 2, 1) := by decide +kernel
theorem dX5_clean_85 : decode cX5_clean 85 = .ok (.aload_n 0, 1) := by decide +kernel
theorem dX5_clean_86 : decode cX5_clean 86 = .ok (.getfield 91, 3) := by decide +kernel
theorem dX5_clean_89 : decode cX5_clean 89 = .ok (.isub, 1) := by decide +kernel
theorem dX5_clean_90 : decode cX5_clean 90 = .ok (.ireturn, 1) := by decide +kernel
set_option maxRecDepth 20000 in
theorem ggX5_judge_X5_isJudged : GoodIn wsX5_judge wsX5_isJudged := goodIn_r _ [5, 6, 7, 8, 4, 9, 10, 11, 12, 13, 14, 15, 16, 17, 18, 19, 20, 21, 22, 23, 24, 25, 26, 81, 82, 83, 84, 85, 86, 87, 88, 89, 90, 91, 92, 93, 94, 95, 96, 97, 98, 99, 100, 101, 102, 103, 104, 105, 106, 107, 108, 109, 110, 111, 112] (by decide +kernel) (by decide +kernel)
set_option maxRecDepth 20000 in
theorem gX5_judge_X5_isJudged : GoodIn wsX5_judge (wsV RX5 171 RX5 yX5_isJudged wsX5_isJudged) := goodIn_app (goodIn_of _ (by decide +kernel)) ggX5_judge_X5_isJudged
set_option maxRecDepth 20000 in
theorem ggX5_judge_X5_judgement : GoodIn wsX5_judge wsX5_judgement := goodIn_r _ [30, 31, 32, 33, 34, 35, 36, 37, 38, 4, 39, 40, 41, 42, 43, 44, 45, 46, 47, 48, 49, 50, 51, 52, 53, 54, 55, 56, 57, 58, 59, 60, 61, 62, 63, 64, 65, 66, 67, 68, 69, 70, 71, 7, 8, 9, 72, 73, 74, 75, 76, 77, 78, 79, 80, 81, 82, 83, 84, 85, 86, 87, 88, 89, 90, 91, 92, 93, 94, 95, 96, 97, 98, 99, 100, 101, 102, 103, 104, 105, 106, 107, 108, 109, 110, 111, 112] (by decide +kernel) (by decide +kernel)
set_option maxRecDepth 20000 in
theorem gX5_judge_X5_judgement : GoodIn wsX5_judge (wsV RX5 175 RX5 yX5_judgement wsX5_judgement) := goodIn_app (goodIn_of _ (by decide +kernel)) ggX5_judge_X5_judgement
theorem dX5_judge_0 : decode cX5_judge 0 = .ok (.aload_n 0, 1) := by decide +kernel
theorem dX5_judge_1 : decode cX5_judge 1 = .ok (.iload_n 1, 1) := by decide +kernel
theorem dX5_judge_2 : decode cX5_judge 2 = .ok (.iload_n 2, 1) := by decide +kernel
theorem dX5_judge_3 : decode cX5_judge 3 = .ok (.iload_n 3, 1) := by decide +kernel
theorem dX5_judge_4 : decode cX5_judge 4 = .ok (.iload 4, 2) := by decide +kernel
theorem dX5_judge_6 : decode cX5_judge 6 = .ok (.invokevirtual 171, 3) := by decide +kernel
theorem dX5_judge_9 : decode cX5_judge 9 = .ok (.ifCond .eq 15, 3) := by decide +kernel
theorem dX5_judge_12 : decode cX5_judge 12 = .ok (.aload_n 0, 1) := by decide +kernel
theorem dX5_judge_13 : decode cX5_judge 13 = .ok (.iload_n 1, 1) := by decide +kernel
theorem dX5_judge_14 : decode cX5_judge 14 = .ok (.iload_n 2, 1) := by decide +kernel
theorem dX5_judge_15 : decode cX5_judge 15 = .ok (.iload_n 3, 1) := by decide +kernel
theorem dX5_judge_16 : decode cX5_judge 16 = .ok (.iload 4, 2) := by decide +kernel
theorem dX5_judge_18 : decode cX5_judge 18 = .ok (.invokevirtual 175, 3) := by decide +kernel
theorem dX5_judge_21 : decode cX5_judge 21 = .ok (.goto 4, 3) := by decide +kernel
theorem dX5_judge_24 : decode cX5_judge 24 = .ok (.iconst 0, 1) := by decide +kernel
theorem dX5_judge_25 : decode cX5_judge 25 = .ok (.ireturn, 1) := by decide +kernel
set_option maxRecDepth 20000 in
theorem ggX5_judgeByReading_X5_areAsked : GoodIn wsX5_judgeByReading wsX5_areAsked := goodIn_r _ [4, 5, 6, 3, 7, 8, 9, 10, 11, 12, 13, 14, 15, 16] (by decide +kernel) (by decide +kernel)
set_option maxRecDepth 20000 in
theorem gX5_judgeByReading_X5_areAsked : GoodIn wsX5_judgeByReading (va_wsS RX5 168 yX5_areAsked wsX5_areAsked) := goodIn_app (goodIn_of _ (by decide +kernel)) ggX5_judgeByReading_X5_areAsked
set_option maxRecDepth 20000 in
theorem ggX5_judgeByReading_X5_holds : GoodIn wsX5_judgeByReading wsX5_holds := goodIn_r _ [20, 21, 76, 77, 78, 79, 80, 81, 82, 83, 84, 85, 86, 87, 88, 89, 90, 91, 92, 93, 94, 95, 96, 97, 98, 99, 100, 101, 102, 103, 104, 105, 106, 107] (by decide +kernel) (by decide +kernel)
set_option maxRecDepth 20000 in
theorem gX5_judgeByReading_X5_holds : GoodIn wsX5_judgeByReading (wsV RX5 111 RX5 yX5_holds wsX5_holds) := goodIn_app (goodIn_of _ (by decide +kernel)) ggX5_judgeByReading_X5_holds
set_option maxRecDepth 20000 in
theorem ggX5_judgeByReading_X5_judgement : GoodIn wsX5_judgeByReading wsX5_judgement := goodIn_r _ [25, 26, 27, 28, 29, 30, 31, 32, 33, 3, 34, 35, 36, 37, 38, 39, 40, 41, 42, 43, 44, 45, 46, 47, 48, 49, 50, 51, 52, 53, 54, 55, 56, 57, 58, 59, 60, 61, 62, 63, 64, 65, 66, 8, 9, 10, 67, 68, 69, 70, 71, 72, 73, 74, 75, 76, 77, 78, 79, 80, 81, 82, 83, 84, 85, 86, 87, 88, 89, 90, 91, 92, 93, 94, 95, 96, 97, 98, 99, 100, 101, 102, 103, 104, 105, 106, 107] (by decide +kernel) (by decide +kernel)
set_option maxRecDepth 20000 in
theorem gX5_judgeByReading_X5_judgement : GoodIn wsX5_judgeByReading (wsV RX5 175 RX5 yX5_judgement wsX5_judgement) := goodIn_app (goodIn_of _ (by decide +kernel)) ggX5_judgeByReading_X5_judgement
theorem dX5_judgeByReading_0 : decode cX5_judgeByReading 0 = .ok (.aload_n 0, 1) := by decide +kernel
theorem dX5_judgeByReading_1 : decode cX5_judgeByReading 1 = .ok (.iload_n 1, 1) := by decide +kernel
theorem dX5_judgeByReading_2 : decode cX5_judgeByReading 2 = .ok (.iload_n 2, 1) := by decide +kernel
theorem dX5_judgeByReading_3 : decode cX5_judgeByReading 3 = .ok (.iload_n 3, 1) := by decide +kernel
theorem dX5_judgeByReading_4 : decode cX5_judgeByReading 4 = .ok (.invokestatic 168, 3) := by decide +kernel
theorem dX5_judgeByReading_7 : decode cX5_judgeByReading 7 = .ok (.ifCond .eq 7, 3) := by decide +kernel
theorem dX5_judgeByReading_10 : decode cX5_judgeByReading 10 = .ok (.iconst 0, 1) := by decide +kernel
theorem dX5_judgeByReading_11 : decode cX5_judgeByReading 11 = .ok (.goto 4, 3) := by decide +kernel
theorem dX5_judgeByReading_14 : decode cX5_judgeByReading 14 = .ok (.iconst 1, 1) := by decide +kernel
theorem dX5_judgeByReading_15 : decode cX5_judgeByReading 15 = .ok (.invokevirtual 111, 3) := by decide +kernel
theorem dX5_judgeByReading_18 : decode cX5_judgeByReading 18 = .ok (.ifCond .eq 14, 3) := by decide +kernel
theorem dX5_judgeByReading_21 : decode cX5_judgeByReading 21 = .ok (.aload_n 0, 1) := by decide +kernel
theorem dX5_judgeByReading_22 : decode cX5_judgeByReading 22 = .ok (.iload_n 1, 1) := by decide +kernel
theorem dX5_judgeByReading_23 : decode cX5_judgeByReading 23 = .ok (.iload_n 2, 1) := by decide +kernel
theorem dX5_judgeByReading_24 : decode cX5_judgeByReading 24 = .ok (.iload_n 3, 1) := by decide +kernel
theorem dX5_judgeByReading_25 : decode cX5_judgeByReading 25 = .ok (.iconst (-1), 1) := by decide +kernel
theorem dX5_judgeByReading_26 : decode cX5_judgeByReading 26 = .ok (.invokevirtual 175, 3) := by decide +kernel
theorem dX5_judgeByReading_29 : decode cX5_judgeByReading 29 = .ok (.goto 4, 3) := by decide +kernel
theorem dX5_judgeByReading_32 : decode cX5_judgeByReading 32 = .ok (.iconst 0, 1) := by decide +kernel
theorem dX5_judgeByReading_33 : decode cX5_judgeByReading 33 = .ok (.ireturn, 1) := by decide +kernel
theorem dX5_day_0 : decode cX5_day 0 = .ok (.aload_n 0, 1) := by decide +kernel
theorem dX5_day_1 : decode cX5_day 1 = .ok (.iconst 0, 1) := by decide +kernel
theorem dX5_day_2 : decode cX5_day 2 = .ok (.putfield 84, 3) := by decide +kernel
theorem dX5_day_5 : decode cX5_day 5 = .ok (.aload_n 0, 1) := by decide +kernel
theorem dX5_day_6 : decode cX5_day 6 = .ok (.getfield 101, 3) := by decide +kernel
theorem dX5_day_9 : decode cX5_day 9 = .ok (.ireturn, 1) := by decide +kernel
theorem dX5_lines_0 : decode cX5_lines 0 = .ok (.aload_n 0, 1) := by decide +kernel
theorem dX5_lines_1 : decode cX5_lines 1 = .ok (.iconst 0, 1) := by decide +kernel
theorem dX5_lines_2 : decode cX5_lines 2 = .ok (.putfield 84, 3) := by decide +kernel
theorem dX5_lines_5 : decode cX5_lines 5 = .ok (.aload_n 0, 1) := by decide +kernel
theorem dX5_lines_6 : decode cX5_lines 6 = .ok (.getfield 91, 3) := by decide +kernel
theorem dX5_lines_9 : decode cX5_lines 9 = .ok (.ireturn, 1) := by decide +kernel
set_option maxRecDepth 20000 in
theorem ggX5_keyOf_X5_isLine : GoodIn wsX5_keyOf wsX5_isLine := goodIn_r _ [7, 8, 9, 10, 6, 11, 17, 18, 19, 20, 21, 22, 23, 24, 25, 26, 27, 28, 29, 30, 31, 32, 33, 34, 35, 36, 37, 38, 39, 40, 41, 42, 43, 44, 45, 46, 47, 48] (by decide +kernel) (by decide +kernel)
set_option maxRecDepth 20000 in
theorem gX5_keyOf_X5_isLine : GoodIn wsX5_keyOf (wsV RX5 118 RX5 yX5_isLine wsX5_isLine) := goodIn_app (goodIn_of _ (by decide +kernel)) ggX5_keyOf_X5_isLine
set_option maxRecDepth 20000 in
theorem ggX5_keyOf_X5_holds : GoodIn wsX5_keyOf wsX5_holds := goodIn_r _ [15, 16, 17, 18, 19, 20, 21, 22, 23, 24, 25, 26, 27, 28, 29, 30, 31, 32, 33, 34, 35, 36, 37, 38, 39, 40, 41, 42, 43, 44, 45, 46, 47, 48] (by decide +kernel) (by decide +kernel)
set_option maxRecDepth 20000 in
theorem gX5_keyOf_X5_holds : GoodIn wsX5_keyOf (wsV RX5 111 RX5 yX5_holds wsX5_holds) := goodIn_app (goodIn_of _ (by decide +kernel)) ggX5_keyOf_X5_holds
theorem dX5_keyOf_0 : decode cX5_keyOf 0 = .ok (.aload_n 0, 1) := by decide +kernel
theorem dX5_keyOf_1 : decode cX5_keyOf 1 = .ok (.aload_n 0, 1) := by decide +kernel
theorem dX5_keyOf_2 : decode cX5_keyOf 2 = .ok (.iload_n 1, 1) := by decide +kernel
theorem dX5_keyOf_3 : decode cX5_keyOf 3 = .ok (.invokevirtual 118, 3) := by decide +kernel
theorem dX5_keyOf_6 : decode cX5_keyOf 6 = .ok (.ifCond .eq 7, 3) := by decide +kernel
theorem dX5_keyOf_9 : decode cX5_keyOf 9 = .ok (.iconst 0, 1) := by decide +kernel
theorem dX5_keyOf_10 : decode cX5_keyOf 10 = .ok (.goto 4, 3) := by decide +kernel
theorem dX5_keyOf_13 : decode cX5_keyOf 13 = .ok (.iconst 1, 1) := by decide +kernel
theorem dX5_keyOf_14 : decode cX5_keyOf 14 = .ok (.invokevirtual 111, 3) := by decide +kernel
theorem dX5_keyOf_17 : decode cX5_keyOf 17 = .ok (.ifCond .eq 23, 3) := by decide +kernel
theorem dX5_keyOf_20 : decode cX5_keyOf 20 = .ok (.sipush 1000, 3) := by decide +kernel
theorem dX5_keyOf_23 : decode cX5_keyOf 23 = .ok (.aload_n 0, 1) := by decide +kernel
theorem dX5_keyOf_24 : decode cX5_keyOf 24 = .ok (.getfield 17, 3) := by decide +kernel
theorem dX5_keyOf_27 : decode cX5_keyOf 27 = .ok (.iload_n 1, 1) := by decide +kernel
theorem dX5_keyOf_28 : decode cX5_keyOf 28 = .ok (.iaload, 1) := by decide +kernel
theorem dX5_keyOf_29 : decode cX5_keyOf 29 = .ok (.imul, 1) := by decide +kernel
theorem dX5_keyOf_30 : decode cX5_keyOf 30 = .ok (.aload_n 0, 1) := by decide +kernel
theorem dX5_keyOf_31 : decode cX5_keyOf 31 = .ok (.getfield 13, 3) := by decide +kernel
theorem dX5_keyOf_34 : decode cX5_keyOf 34 = .ok (.iload_n 1, 1) := by decide +kernel
theorem dX5_keyOf_35 : decode cX5_keyOf 35 = .ok (.iaload, 1) := by decide +kernel
theorem dX5_keyOf_36 : decode cX5_keyOf 36 = .ok (.iadd, 1) := by decide +kernel
theorem dX5_keyOf_37 : decode cX5_keyOf 37 = .ok (.goto 4, 3) := by decide +kernel
theorem dX5_keyOf_40 : decode cX5_keyOf 40 = .ok (.iconst 0, 1) := by decide +kernel
theorem dX5_keyOf_41 : decode cX5_keyOf 41 = .ok (.ireturn, 1) := by decide +kernel
set_option maxRecDepth 20000 in
theorem ggX5_seen_X5_isLine : GoodIn wsX5_seen wsX5_isLine := goodIn_r _ [6, 7, 8, 9, 5, 10, 16, 17, 18, 19, 20, 21, 22, 23, 24, 25, 26, 27, 28, 29, 30, 31, 32, 33, 34, 35, 36, 37, 38, 39, 40, 41, 42, 43, 44, 45, 46, 47] (by decide +kernel) (by decide +kernel)
set_option maxRecDepth 20000 in
theorem gX5_seen_X5_isLine : GoodIn wsX5_seen (wsV RX5 118 RX5 yX5_isLine wsX5_isLine) := goodIn_app (goodIn_of _ (by decide +kernel)) ggX5_seen_X5_isLine
set_option maxRecDepth 20000 in
theorem ggX5_seen_X5_holds : GoodIn wsX5_seen wsX5_holds := goodIn_r _ [14, 15, 16, 17, 18, 19, 20, 21, 22, 23, 24, 25, 26, 27, 28, 29, 30, 31, 32, 33, 34, 35, 36, 37, 38, 39, 40, 41, 42, 43, 44, 45, 46, 47] (by decide +kernel) (by decide +kernel)
set_option maxRecDepth 20000 in
theorem gX5_seen_X5_holds : GoodIn wsX5_seen (wsV RX5 111 RX5 yX5_holds wsX5_holds) := goodIn_app (goodIn_of _ (by decide +kernel)) ggX5_seen_X5_holds
theorem dX5_seen_0 : decode cX5_seen 0 = .ok (.aload_n 0, 1) := by decide +kernel
theorem dX5_seen_1 : decode cX5_seen 1 = .ok (.aload_n 0, 1) := by decide +kernel
theorem dX5_seen_2 : decode cX5_seen 2 = .ok (.iload_n 1, 1) := by decide +kernel
theorem dX5_seen_3 : decode cX5_seen 3 = .ok (.invokevirtual 118, 3) := by decide +kernel
theorem dX5_seen_6 : decode cX5_seen 6 = .ok (.ifCond .eq 7, 3) := by decide +kernel
theorem dX5_seen_9 : decode cX5_seen 9 = .ok (.iconst 0, 1) := by decide +kernel
theorem dX5_seen_10 : decode cX5_seen 10 = .ok (.goto 4, 3) := by decide +kernel
theorem dX5_seen_13 : decode cX5_seen 13 = .ok (.iconst 1, 1) := by decide +kernel
theorem dX5_seen_14 : decode cX5_seen 14 = .ok (.invokevirtual 111, 3) := by decide +kernel
theorem dX5_seen_17 : decode cX5_seen 17 = .ok (.ifCond .eq 12, 3) := by decide +kernel
theorem dX5_seen_20 : decode cX5_seen 20 = .ok (.aload_n 0, 1) := by decide +kernel
theorem dX5_seen_21 : decode cX5_seen 21 = .ok (.getfield 20, 3) := by decide +kernel
theorem dX5_seen_24 : decode cX5_seen 24 = .ok (.iload_n 1, 1) := by decide +kernel
theorem dX5_seen_25 : decode cX5_seen 25 = .ok (.iaload, 1) := by decide +kernel
theorem dX5_seen_26 : decode cX5_seen 26 = .ok (.goto 4, 3) := by decide +kernel
theorem dX5_seen_29 : decode cX5_seen 29 = .ok (.iconst 0, 1) := by decide +kernel
theorem dX5_seen_30 : decode cX5_seen 30 = .ok (.ireturn, 1) := by decide +kernel
set_option maxRecDepth 20000 in
theorem ggX5_end_X5_isLine : GoodIn wsX5_end wsX5_isLine := goodIn_r _ [6, 7, 8, 9, 5, 10, 16, 17, 18, 19, 20, 21, 22, 23, 24, 25, 26, 27, 28, 29, 30, 31, 32, 33, 34, 35, 36, 37, 38, 39, 40, 41, 42, 43, 44, 45, 46, 47] (by decide +kernel) (by decide +kernel)
set_option maxRecDepth 20000 in
theorem gX5_end_X5_isLine : GoodIn wsX5_end (wsV RX5 118 RX5 yX5_isLine wsX5_isLine) := goodIn_app (goodIn_of _ (by decide +kernel)) ggX5_end_X5_isLine
set_option maxRecDepth 20000 in
theorem ggX5_end_X5_holds : GoodIn wsX5_end wsX5_holds := goodIn_r _ [14, 15, 16, 17, 18, 19, 20, 21, 22, 23, 24, 25, 26, 27, 28, 29, 30, 31, 32, 33, 34, 35, 36, 37, 38, 39, 40, 41, 42, 43, 44, 45, 46, 47] (by decide +kernel) (by decide +kernel)
set_option maxRecDepth 20000 in
theorem gX5_end_X5_holds : GoodIn wsX5_end (wsV RX5 111 RX5 yX5_holds wsX5_holds) := goodIn_app (goodIn_of _ (by decide +kernel)) ggX5_end_X5_holds
theorem dX5_end_0 : decode cX5_end 0 = .ok (.aload_n 0, 1) := by decide +kernel
theorem dX5_end_1 : decode cX5_end 1 = .ok (.aload_n 0, 1) := by decide +kernel
theorem dX5_end_2 : decode cX5_end 2 = .ok (.iload_n 1, 1) := by decide +kernel
theorem dX5_end_3 : decode cX5_end 3 = .ok (.invokevirtual 118, 3) := by decide +kernel
theorem dX5_end_6 : decode cX5_end 6 = .ok (.ifCond .eq 7, 3) := by decide +kernel
theorem dX5_end_9 : decode cX5_end 9 = .ok (.iconst 0, 1) := by decide +kernel
theorem dX5_end_10 : decode cX5_end 10 = .ok (.goto 4, 3) := by decide +kernel
theorem dX5_end_13 : decode cX5_end 13 = .ok (.iconst 1, 1) := by decide +kernel
theorem dX5_end_14 : decode cX5_end 14 = .ok (.invokevirtual 111, 3) := by decide +kernel
theorem dX5_end_17 : decode cX5_end 17 = .ok (.ifCond .eq 12, 3) := by decide +kernel
theorem dX5_end_20 : decode cX5_end 20 = .ok (.aload_n 0, 1) := by decide +kernel
theorem dX5_end_21 : decode cX5_end 21 = .ok (.getfield 23, 3) := by decide +kernel
theorem dX5_end_24 : decode cX5_end 24 = .ok (.iload_n 1, 1) := by decide +kernel
theorem dX5_end_25 : decode cX5_end 25 = .ok (.iaload, 1) := by decide +kernel
theorem dX5_end_26 : decode cX5_end 26 = .ok (.goto 4, 3) := by decide +kernel
theorem dX5_end_29 : decode cX5_end 29 = .ok (.iconst 0, 1) := by decide +kernel
theorem dX5_end_30 : decode cX5_end 30 = .ok (.ireturn, 1) := by decide +kernel
set_option maxRecDepth 20000 in
theorem ggX5_matches_X5_isLine : GoodIn wsX5_matches wsX5_isLine := goodIn_r _ [5, 6, 7, 8, 4, 9, 39, 40, 41, 42, 43, 44, 45, 46, 47, 48, 49, 50, 51, 52, 53, 54, 55, 56, 57, 58, 59, 60, 61, 62, 63, 64, 65, 66, 67, 68, 69, 70] (by decide +kernel) (by decide +kernel)
set_option maxRecDepth 20000 in
theorem gX5_matches_X5_isLine : GoodIn wsX5_matches (wsV RX5 118 RX5 yX5_isLine wsX5_isLine) := goodIn_app (goodIn_of _ (by decide +kernel)) ggX5_matches_X5_isLine
set_option maxRecDepth 20000 in
theorem ggX5_matches_X5_isName : GoodIn wsX5_matches wsX5_isName := goodIn_r _ [12, 7, 8, 4, 9] (by decide +kernel) (by decide +kernel)
set_option maxRecDepth 20000 in
theorem gX5_matches_X5_isName : GoodIn wsX5_matches (va_wsS RX5 121 yX5_isName wsX5_isName) := goodIn_app (goodIn_of _ (by decide +kernel)) ggX5_matches_X5_isName
set_option maxRecDepth 20000 in
theorem ggX5_matches_X5_isPort : GoodIn wsX5_matches wsX5_isPort := goodIn_r _ [15, 7, 8, 4, 9] (by decide +kernel) (by decide +kernel)
set_option maxRecDepth 20000 in
theorem gX5_matches_X5_isPort : GoodIn wsX5_matches (va_wsS RX5 124 yX5_isPort wsX5_isPort) := goodIn_app (goodIn_of _ (by decide +kernel)) ggX5_matches_X5_isPort
set_option maxRecDepth 20000 in
theorem ggX5_matches_X5_holds : GoodIn wsX5_matches wsX5_holds := goodIn_r _ [19, 20, 39, 40, 41, 42, 43, 44, 45, 46, 47, 48, 49, 50, 51, 52, 53, 54, 55, 56, 57, 58, 59, 60, 61, 62, 63, 64, 65, 66, 67, 68, 69, 70] (by decide +kernel) (by decide +kernel)
set_option maxRecDepth 20000 in
theorem gX5_matches_X5_holds : GoodIn wsX5_matches (wsV RX5 111 RX5 yX5_holds wsX5_holds) := goodIn_app (goodIn_of _ (by decide +kernel)) ggX5_matches_X5_holds
set_option maxRecDepth 20000 in
theorem ggX5_matches_X5_isFor : GoodIn wsX5_matches wsX5_isFor := goodIn_r _ [24, 25, 26, 27, 28, 29, 30, 31, 32, 33, 34, 4, 35, 36, 37, 38, 39, 40, 41, 42, 43, 44, 45, 46, 47, 48, 49, 50, 51, 52, 53, 54, 55, 56, 57, 58, 59, 60, 61, 62, 63, 64, 65, 66, 67, 68, 69, 70] (by decide +kernel) (by decide +kernel)
set_option maxRecDepth 20000 in
theorem gX5_matches_X5_isFor : GoodIn wsX5_matches (wsV RX5 154 RX5 yX5_isFor wsX5_isFor) := goodIn_app (goodIn_of _ (by decide +kernel)) ggX5_matches_X5_isFor
theorem dX5_matches_0 : decode cX5_matches 0 = .ok (.aload_n 0, 1) := by decide +kernel
theorem dX5_matches_1 : decode cX5_matches 1 = .ok (.aload_n 0, 1) := by decide +kernel
theorem dX5_matches_2 : decode cX5_matches 2 = .ok (.iload_n 1, 1) := by decide +kernel
theorem dX5_matches_3 : decode cX5_matches 3 = .ok (.invokevirtual 118, 3) := by decide +kernel
theorem dX5_matches_6 : decode cX5_matches 6 = .ok (.ifCond .ne 7, 3) := by decide +kernel
theorem dX5_matches_9 : decode cX5_matches 9 = .ok (.iconst 1, 1) := by decide +kernel
theorem dX5_matches_10 : decode cX5_matches 10 = .ok (.goto 22, 3) := by decide +kernel
theorem dX5_matches_13 : decode cX5_matches 13 = .ok (.iload_n 2, 1) := by decide +kernel
theorem dX5_matches_14 : decode cX5_matches 14 = .ok (.invokestatic 121, 3) := by decide +kernel
theorem dX5_matches_17 : decode cX5_matches 17 = .ok (.ifCond .eq 14, 3) := by decide +kernel
theorem dX5_matches_20 : decode cX5_matches 20 = .ok (.iload_n 3, 1) := by decide +kernel
theorem dX5_matches_21 : decode cX5_matches 21 = .ok (.invokestatic 124, 3) := by decide +kernel
theorem dX5_matches_24 : decode cX5_matches 24 = .ok (.ifCond .eq 7, 3) := by decide +kernel
theorem dX5_matches_27 : decode cX5_matches 27 = .ok (.iconst 0, 1) := by decide +kernel
theorem dX5_matches_28 : decode cX5_matches 28 = .ok (.goto 4, 3) := by decide +kernel
theorem dX5_matches_31 : decode cX5_matches 31 = .ok (.iconst 2, 1) := by decide +kernel
theorem dX5_matches_32 : decode cX5_matches 32 = .ok (.invokevirtual 111, 3) := by decide +kernel
theorem dX5_matches_35 : decode cX5_matches 35 = .ok (.ifCond .eq 17, 3) := by decide +kernel
theorem dX5_matches_38 : decode cX5_matches 38 = .ok (.aload_n 0, 1) := by decide +kernel
theorem dX5_matches_39 : decode cX5_matches 39 = .ok (.iload_n 1, 1) := by decide +kernel
theorem dX5_matches_40 : decode cX5_matches 40 = .ok (.iload_n 2, 1) := by decide +kernel
theorem dX5_matches_41 : decode cX5_matches 41 = .ok (.iload_n 3, 1) := by decide +kernel
theorem dX5_matches_42 : decode cX5_matches 42 = .ok (.invokevirtual 154, 3) := by decide +kernel
theorem dX5_matches_45 : decode cX5_matches 45 = .ok (.ifCond .eq 7, 3) := by decide +kernel
theorem dX5_matches_48 : decode cX5_matches 48 = .ok (.iconst 1, 1) := by decide +kernel
theorem dX5_matches_49 : decode cX5_matches 49 = .ok (.goto 4, 3) := by decide +kernel
theorem dX5_matches_52 : decode cX5_matches 52 = .ok (.iconst 0, 1) := by decide +kernel
theorem dX5_matches_53 : decode cX5_matches 53 = .ok (.ireturn, 1) := by decide +kernel
set_option maxRecDepth 20000 in
theorem ggX5_find_X5_isName : GoodIn wsX5_find wsX5_isName := goodIn_r _ [5, 6, 7, 4, 8] (by decide +kernel) (by decide +kernel)
set_option maxRecDepth 20000 in
theorem gX5_find_X5_isName : GoodIn wsX5_find (va_wsS RX5 121 yX5_isName wsX5_isName) := goodIn_app (goodIn_of _ (by decide +kernel)) ggX5_find_X5_isName
set_option maxRecDepth 20000 in
theorem ggX5_find_X5_isPort : GoodIn wsX5_find wsX5_isPort := goodIn_r _ [11, 6, 7, 4, 8] (by decide +kernel) (by decide +kernel)
set_option maxRecDepth 20000 in
theorem gX5_find_X5_isPort : GoodIn wsX5_find (va_wsS RX5 124 yX5_isPort wsX5_isPort) := goodIn_app (goodIn_of _ (by decide +kernel)) ggX5_find_X5_isPort
set_option maxRecDepth 20000 in
theorem ggX5_find_X5_holds : GoodIn wsX5_find wsX5_holds := goodIn_r _ [15, 16, 35, 36, 37, 38, 39, 40, 41, 42, 43, 44, 45, 46, 47, 48, 49, 50, 51, 52, 53, 54, 55, 56, 57, 58, 59, 60, 61, 62, 63, 64, 65, 66] (by decide +kernel) (by decide +kernel)
set_option maxRecDepth 20000 in
theorem gX5_find_X5_holds : GoodIn wsX5_find (wsV RX5 111 RX5 yX5_holds wsX5_holds) := goodIn_app (goodIn_of _ (by decide +kernel)) ggX5_find_X5_holds
set_option maxRecDepth 20000 in
theorem ggX5_find_X5_isFor : GoodIn wsX5_find wsX5_isFor := goodIn_r _ [20, 21, 22, 23, 24, 25, 26, 27, 28, 29, 30, 4, 31, 32, 33, 34, 35, 36, 37, 38, 39, 40, 41, 42, 43, 44, 45, 46, 47, 48, 49, 50, 51, 52, 53, 54, 55, 56, 57, 58, 59, 60, 61, 62, 63, 64, 65, 66] (by decide +kernel) (by decide +kernel)
set_option maxRecDepth 20000 in
theorem gX5_find_X5_isFor : GoodIn wsX5_find (wsV RX5 154 RX5 yX5_isFor wsX5_isFor) := goodIn_app (goodIn_of _ (by decide +kernel)) ggX5_find_X5_isFor
theorem dX5_find_0 : decode cX5_find 0 = .ok (.aload_n 0, 1) := by decide +kernel
theorem dX5_find_1 : decode cX5_find 1 = .ok (.iload_n 1, 1) := by decide +kernel
theorem dX5_find_2 : decode cX5_find 2 = .ok (.invokestatic 121, 3) := by decide +kernel
theorem dX5_find_5 : decode cX5_find 5 = .ok (.ifCond .eq 14, 3) := by decide +kernel
theorem dX5_find_8 : decode cX5_find 8 = .ok (.iload_n 2, 1) := by decide +kernel
theorem dX5_find_9 : decode cX5_find 9 = .ok (.invokestatic 124, 3) := by decide +kernel
theorem dX5_find_12 : decode cX5_find 12 = .ok (.ifCond .eq 7, 3) := by decide +kernel
theorem dX5_find_15 : decode cX5_find 15 = .ok (.iconst 0, 1) := by decide +kernel
theorem dX5_find_16 : decode cX5_find 16 = .ok (.goto 4, 3) := by decide +kernel
theorem dX5_find_19 : decode cX5_find 19 = .ok (.iconst 1, 1) := by decide +kernel
theorem dX5_find_20 : decode cX5_find 20 = .ok (.invokevirtual 111, 3) := by decide +kernel
theorem dX5_find_23 : decode cX5_find 23 = .ok (.ifCond .ne 5, 3) := by decide +kernel
theorem dX5_find_26 : decode cX5_find 26 = .ok (.iconst 0, 1) := by decide +kernel
theorem dX5_find_27 : decode cX5_find 27 = .ok (.ireturn, 1) := by decide +kernel
theorem dX5_find_28 : decode cX5_find 28 = .ok (.iconst (-1), 1) := by decide +kernel
theorem dX5_find_29 : decode cX5_find 29 = .ok (.istore_n 3, 1) := by decide +kernel
theorem dX5_find_30 : decode cX5_find 30 = .ok (.aload_n 0, 1) := by decide +kernel
theorem dX5_find_31 : decode cX5_find 31 = .ok (.getfield 91, 3) := by decide +kernel
theorem dX5_find_34 : decode cX5_find 34 = .ok (.iconst 1, 1) := by decide +kernel
theorem dX5_find_35 : decode cX5_find 35 = .ok (.isub, 1) := by decide +kernel
theorem dX5_find_36 : decode cX5_find 36 = .ok (.istore 4, 2) := by decide +kernel
theorem dX5_find_38 : decode cX5_find 38 = .ok (.iload 4, 2) := by decide +kernel
theorem dX5_find_40 : decode cX5_find 40 = .ok (.ifCond .lt 27, 3) := by decide +kernel
theorem dX5_find_43 : decode cX5_find 43 = .ok (.aload_n 0, 1) := by decide +kernel
theorem dX5_find_44 : decode cX5_find 44 = .ok (.iload 4, 2) := by decide +kernel
theorem dX5_find_46 : decode cX5_find 46 = .ok (.iload_n 1, 1) := by decide +kernel
theorem dX5_find_47 : decode cX5_find 47 = .ok (.iload_n 2, 1) := by decide +kernel
theorem dX5_find_48 : decode cX5_find 48 = .ok (.invokevirtual 154, 3) := by decide +kernel
theorem dX5_find_51 : decode cX5_find 51 = .ok (.ifCond .eq 8, 3) := by decide +kernel
theorem dX5_find_54 : decode cX5_find 54 = .ok (.iload 4, 2) := by decide +kernel
theorem dX5_find_56 : decode cX5_find 56 = .ok (.goto 4, 3) := by decide +kernel
theorem dX5_find_59 : decode cX5_find 59 = .ok (.iload_n 3, 1) := by decide +kernel
theorem dX5_find_60 : decode cX5_find 60 = .ok (.istore_n 3, 1) := by decide +kernel
theorem dX5_find_61 : decode cX5_find 61 = .ok (.iinc 4 (-1), 3) := by decide +kernel
theorem dX5_find_64 : decode cX5_find 64 = .ok (.goto (-26), 3) := by decide +kernel
theorem dX5_find_67 : decode cX5_find 67 = .ok (.iload_n 3, 1) := by decide +kernel
theorem dX5_find_68 : decode cX5_find 68 = .ok (.ireturn, 1) := by decide +kernel
set_option maxRecDepth 20000 in
theorem ggX5_linesOf_X5_isKey : GoodIn wsX5_linesOf wsX5_isKey := goodIn_r _ [6, 7, 8, 5, 9] (by decide +kernel) (by decide +kernel)
set_option maxRecDepth 20000 in
theorem gX5_linesOf_X5_isKey : GoodIn wsX5_linesOf (va_wsS RX5 108 yX5_isKey wsX5_isKey) := goodIn_app (goodIn_of _ (by decide +kernel)) ggX5_linesOf_X5_isKey
set_option maxRecDepth 20000 in
theorem ggX5_linesOf_X5_holds : GoodIn wsX5_linesOf wsX5_holds := goodIn_r _ [13, 14, 15, 16, 17, 18, 19, 20, 21, 22, 23, 24, 25, 26, 27, 28, 29, 30, 31, 32, 33, 34, 35, 36, 37, 38, 39, 40, 41, 42, 43, 44, 45, 46] (by decide +kernel) (by decide +kernel)
set_option maxRecDepth 20000 in
theorem gX5_linesOf_X5_holds : GoodIn wsX5_linesOf (wsV RX5 111 RX5 yX5_holds wsX5_holds) := goodIn_app (goodIn_of _ (by decide +kernel)) ggX5_linesOf_X5_holds
theorem dX5_linesOf_0 : decode cX5_linesOf 0 = .ok (.aload_n 0, 1) := by decide +kernel
theorem dX5_linesOf_1 : decode cX5_linesOf 1 = .ok (.iload_n 1, 1) := by decide +kernel
theorem dX5_linesOf_2 : decode cX5_linesOf 2 = .ok (.invokestatic 108, 3) := by decide +kernel
theorem dX5_linesOf_5 : decode cX5_linesOf 5 = .ok (.ifCond .eq 7, 3) := by decide +kernel
theorem dX5_linesOf_8 : decode cX5_linesOf 8 = .ok (.iconst 0, 1) := by decide +kernel
theorem dX5_linesOf_9 : decode cX5_linesOf 9 = .ok (.goto 4, 3) := by decide +kernel
theorem dX5_linesOf_12 : decode cX5_linesOf 12 = .ok (.iconst 1, 1) := by decide +kernel
theorem dX5_linesOf_13 : decode cX5_linesOf 13 = .ok (.invokevirtual 111, 3) := by decide +kernel
theorem dX5_linesOf_16 : decode cX5_linesOf 16 = .ok (.ifCond .ne 5, 3) := by decide +kernel
theorem dX5_linesOf_19 : decode cX5_linesOf 19 = .ok (.lconst 0, 1) := by decide +kernel
theorem dX5_linesOf_20 : decode cX5_linesOf 20 = .ok (.lreturn, 1) := by decide +kernel
theorem dX5_linesOf_21 : decode cX5_linesOf 21 = .ok (.lconst 0, 1) := by decide +kernel
theorem dX5_linesOf_22 : decode cX5_linesOf 22 = .ok (.lstore_n 2, 1) := by decide +kernel
theorem dX5_linesOf_23 : decode cX5_linesOf 23 = .ok (.iconst 0, 1) := by decide +kernel
theorem dX5_linesOf_24 : decode cX5_linesOf 24 = .ok (.istore 4, 2) := by decide +kernel
theorem dX5_linesOf_26 : decode cX5_linesOf 26 = .ok (.iload 4, 2) := by decide +kernel
theorem dX5_linesOf_28 : decode cX5_linesOf 28 = .ok (.aload_n 0, 1) := by decide +kernel
theorem dX5_linesOf_29 : decode cX5_linesOf 29 = .ok (.getfield 91, 3) := by decide +kernel
theorem dX5_linesOf_32 : decode cX5_linesOf 32 = .ok (.if_icmp .ge 31, 3) := by decide +kernel
theorem dX5_linesOf_35 : decode cX5_linesOf 35 = .ok (.lload_n 2, 1) := by decide +kernel
theorem dX5_linesOf_36 : decode cX5_linesOf 36 = .ok (.aload_n 0, 1) := by decide +kernel
theorem dX5_linesOf_37 : decode cX5_linesOf 37 = .ok (.getfield 13, 3) := by decide +kernel
theorem dX5_linesOf_40 : decode cX5_linesOf 40 = .ok (.iload 4, 2) := by decide +kernel
theorem dX5_linesOf_42 : decode cX5_linesOf 42 = .ok (.iaload, 1) := by decide +kernel
theorem dX5_linesOf_43 : decode cX5_linesOf 43 = .ok (.iload_n 1, 1) := by decide +kernel
theorem dX5_linesOf_44 : decode cX5_linesOf 44 = .ok (.if_icmp .ne 10, 3) := by decide +kernel
theorem dX5_linesOf_47 : decode cX5_linesOf 47 = .ok (.lconst 1, 1) := by decide +kernel
theorem dX5_linesOf_48 : decode cX5_linesOf 48 = .ok (.iload 4, 2) := by decide +kernel
theorem dX5_linesOf_50 : decode cX5_linesOf 50 = .ok (.lshl, 1) := by decide +kernel
theorem dX5_linesOf_51 : decode cX5_linesOf 51 = .ok (.goto 4, 3) := by decide +kernel
theorem dX5_linesOf_54 : decode cX5_linesOf 54 = .ok (.lconst 0, 1) := by decide +kernel
theorem dX5_linesOf_55 : decode cX5_linesOf 55 = .ok (.lor, 1) := by decide +kernel
theorem dX5_linesOf_56 : decode cX5_linesOf 56 = .ok (.lstore_n 2, 1) := by decide +kernel
theorem dX5_linesOf_57 : decode cX5_linesOf 57 = .ok (.iinc 4 1, 3) := by decide +kernel
theorem dX5_linesOf_60 : decode cX5_linesOf 60 = .ok (.goto (-34), 3) := by decide +kernel
theorem dX5_linesOf_63 : decode cX5_linesOf 63 = .ok (.lload_n 2, 1) := by decide +kernel
theorem dX5_linesOf_64 : decode cX5_linesOf 64 = .ok (.lreturn, 1) := by decide +kernel
theorem dX5_waiting_0 : decode cX5_waiting 0 = .ok (.aload_n 0, 1) := by decide +kernel
theorem dX5_waiting_1 : decode cX5_waiting 1 = .ok (.iconst 0, 1) := by decide +kernel
theorem dX5_waiting_2 : decode cX5_waiting 2 = .ok (.putfield 84, 3) := by decide +kernel
theorem dX5_waiting_5 : decode cX5_waiting 5 = .ok (.aload_n 0, 1) := by decide +kernel
theorem dX5_waiting_6 : decode cX5_waiting 6 = .ok (.getfield 81, 3) := by decide +kernel
theorem dX5_waiting_9 : decode cX5_waiting 9 = .ok (.ireturn, 1) := by decide +kernel
theorem dJ9_min_7cf53_0 : decode cJ9_min_7cf53 0 = .ok (.iload_n 0, 1) := by decide +kernel
theorem dJ9_min_7cf53_1 : decode cJ9_min_7cf53 1 = .ok (.iload_n 1, 1) := by decide +kernel
theorem dJ9_min_7cf53_2 : decode cJ9_min_7cf53 2 = .ok (.if_icmp .gt 7, 3) := by decide +kernel
theorem dJ9_min_7cf53_5 : decode cJ9_min_7cf53 5 = .ok (.iload_n 0, 1) := by decide +kernel
theorem dJ9_min_7cf53_6 : decode cJ9_min_7cf53 6 = .ok (.goto 4, 3) := by decide +kernel
theorem dJ9_min_7cf53_9 : decode cJ9_min_7cf53 9 = .ok (.iload_n 1, 1) := by decide +kernel
theorem dJ9_min_7cf53_10 : decode cJ9_min_7cf53 10 = .ok (.ireturn, 1) := by decide +kernel
