theorem dX1_init_0 : decode cX1_init 0 = .ok (.aload_n 0, 1) := by decide +kernel
theorem dX1_init_1 : decode cX1_init 1 = .ok (.invokespecial 1, 3) := by decide +kernel
theorem dX1_init_4 : decode cX1_init 4 = .ok (.aload_n 0, 1) := by decide +kernel
theorem dX1_init_5 : decode cX1_init 5 = .ok (.sipush 4096, 3) := by decide +kernel
theorem dX1_init_8 : decode cX1_init 8 = .ok (.newarray .long, 2) := by decide +kernel
theorem dX1_init_10 : decode cX1_init 10 = .ok (.putfield 7, 3) := by decide +kernel
theorem dX1_init_13 : decode cX1_init 13 = .ok (.return_, 1) := by decide +kernel
theorem dX1_thrown_0 : decode cX1_thrown 0 = .ok (.aload_n 0, 1) := by decide +kernel
theorem dX1_thrown_1 : decode cX1_thrown 1 = .ok (.getfield 13, 3) := by decide +kernel
theorem dX1_thrown_4 : decode cX1_thrown 4 = .ok (.ireturn, 1) := by decide +kernel
theorem dX1_bad_0 : decode cX1_bad 0 = .ok (.aload_n 0, 1) := by decide +kernel
theorem dX1_bad_1 : decode cX1_bad 1 = .ok (.iload_n 1, 1) := by decide +kernel
theorem dX1_bad_2 : decode cX1_bad 2 = .ok (.ifCond .eq 7, 3) := by decide +kernel
theorem dX1_bad_5 : decode cX1_bad 5 = .ok (.iconst 1, 1) := by decide +kernel
theorem dX1_bad_6 : decode cX1_bad 6 = .ok (.goto 4, 3) := by decide +kernel
theorem dX1_bad_9 : decode cX1_bad 9 = .ok (.iconst 0, 1) := by decide +kernel
theorem dX1_bad_10 : decode cX1_bad 10 = .ok (.putfield 13, 3) := by decide +kernel
theorem dX1_bad_13 : decode cX1_bad 13 = .ok (.iload_n 1, 1) := by decide +kernel
theorem dX1_bad_14 : decode cX1_bad 14 = .ok (.ireturn, 1) := by decide +kernel
theorem dX1_isPlace_0 : decode cX1_isPlace 0 = .ok (.lload_n 0, 1) := by decide +kernel
theorem dX1_isPlace_1 : decode cX1_isPlace 1 = .ok (.lconst 0, 1) := by decide +kernel
theorem dX1_isPlace_2 : decode cX1_isPlace 2 = .ok (.lcmp, 1) := by decide +kernel
theorem dX1_isPlace_3 : decode cX1_isPlace 3 = .ok (.ifCond .lt 15, 3) := by decide +kernel
theorem dX1_isPlace_6 : decode cX1_isPlace 6 = .ok (.lload_n 0, 1) := by decide +kernel
theorem dX1_isPlace_7 : decode cX1_isPlace 7 = .ok (.ldc2_w 17, 3) := by decide +kernel
theorem dX1_isPlace_10 : decode cX1_isPlace 10 = .ok (.lcmp, 1) := by decide +kernel
theorem dX1_isPlace_11 : decode cX1_isPlace 11 = .ok (.ifCond .ge 7, 3) := by decide +kernel
theorem dX1_isPlace_14 : decode cX1_isPlace 14 = .ok (.iconst 1, 1) := by decide +kernel
theorem dX1_isPlace_15 : decode cX1_isPlace 15 = .ok (.goto 4, 3) := by decide +kernel
theorem dX1_isPlace_18 : decode cX1_isPlace 18 = .ok (.iconst 0, 1) := by decide +kernel
theorem dX1_isPlace_19 : decode cX1_isPlace 19 = .ok (.ireturn, 1) := by decide +kernel
set_option maxRecDepth 20000 in
theorem ggX1_put_X1_isPlace : GoodIn wsX1_put wsX1_isPlace := goodIn_r _ [6, 7] (by decide +kernel) (by decide +kernel)
set_option maxRecDepth 20000 in
theorem gX1_put_X1_isPlace : GoodIn wsX1_put (va_wsS RX1 19 yX1_isPlace wsX1_isPlace) := goodIn_app (goodIn_of _ (by decide +kernel)) ggX1_put_X1_isPlace
set_option maxRecDepth 20000 in
theorem ggX1_put_X1_bad : GoodIn wsX1_put wsX1_bad := goodIn_r _ [11, 12, 13, 14, 15, 16, 17, 18] (by decide +kernel) (by decide +kernel)
set_option maxRecDepth 20000 in
theorem gX1_put_X1_bad : GoodIn wsX1_put (wsV RX1 23 RX1 yX1_bad wsX1_bad) := goodIn_app (goodIn_of _ (by decide +kernel)) ggX1_put_X1_bad
theorem dX1_put_0 : decode cX1_put 0 = .ok (.aload_n 0, 1) := by decide +kernel
theorem dX1_put_1 : decode cX1_put 1 = .ok (.iload_n 1, 1) := by decide +kernel
theorem dX1_put_2 : decode cX1_put 2 = .ok (.i2l, 1) := by decide +kernel
theorem dX1_put_3 : decode cX1_put 3 = .ok (.invokestatic 19, 3) := by decide +kernel
theorem dX1_put_6 : decode cX1_put 6 = .ok (.ifCond .ne 7, 3) := by decide +kernel
theorem dX1_put_9 : decode cX1_put 9 = .ok (.iconst 1, 1) := by decide +kernel
theorem dX1_put_10 : decode cX1_put 10 = .ok (.goto 4, 3) := by decide +kernel
theorem dX1_put_13 : decode cX1_put 13 = .ok (.iconst 0, 1) := by decide +kernel
theorem dX1_put_14 : decode cX1_put 14 = .ok (.invokevirtual 23, 3) := by decide +kernel
theorem dX1_put_17 : decode cX1_put 17 = .ok (.ifCond .ne 14, 3) := by decide +kernel
theorem dX1_put_20 : decode cX1_put 20 = .ok (.aload_n 0, 1) := by decide +kernel
theorem dX1_put_21 : decode cX1_put 21 = .ok (.getfield 7, 3) := by decide +kernel
theorem dX1_put_24 : decode cX1_put 24 = .ok (.iload_n 1, 1) := by decide +kernel
theorem dX1_put_25 : decode cX1_put 25 = .ok (.lload_n 2, 1) := by decide +kernel
theorem dX1_put_26 : decode cX1_put 26 = .ok (.ldc2_w 27, 3) := by decide +kernel
theorem dX1_put_29 : decode cX1_put 29 = .ok (.land, 1) := by decide +kernel
theorem dX1_put_30 : decode cX1_put 30 = .ok (.lastore, 1) := by decide +kernel
theorem dX1_put_31 : decode cX1_put 31 = .ok (.return_, 1) := by decide +kernel
set_option maxRecDepth 20000 in
theorem ggX1_word_X1_isPlace : GoodIn wsX1_word wsX1_isPlace := goodIn_r _ [5, 6] (by decide +kernel) (by decide +kernel)
set_option maxRecDepth 20000 in
theorem gX1_word_X1_isPlace : GoodIn wsX1_word (va_wsS RX1 19 yX1_isPlace wsX1_isPlace) := goodIn_app (goodIn_of _ (by decide +kernel)) ggX1_word_X1_isPlace
set_option maxRecDepth 20000 in
theorem ggX1_word_X1_bad : GoodIn wsX1_word wsX1_bad := goodIn_r _ [10, 11, 12, 13, 14, 15, 16, 17] (by decide +kernel) (by decide +kernel)
set_option maxRecDepth 20000 in
theorem gX1_word_X1_bad : GoodIn wsX1_word (wsV RX1 23 RX1 yX1_bad wsX1_bad) := goodIn_app (goodIn_of _ (by decide +kernel)) ggX1_word_X1_bad
theorem dX1_word_0 : decode cX1_word 0 = .ok (.aload_n 0, 1) := by decide +kernel
theorem dX1_word_1 : decode cX1_word 1 = .ok (.iload_n 1, 1) := by decide +kernel
theorem dX1_word_2 : decode cX1_word 2 = .ok (.i2l, 1) := by decide +kernel
theorem dX1_word_3 : decode cX1_word 3 = .ok (.invokestatic 19, 3) := by decide +kernel
theorem dX1_word_6 : decode cX1_word 6 = .ok (.ifCond .ne 7, 3) := by decide +kernel
theorem dX1_word_9 : decode cX1_word 9 = .ok (.iconst 1, 1) := by decide +kernel
theorem dX1_word_10 : decode cX1_word 10 = .ok (.goto 4, 3) := by decide +kernel
theorem dX1_word_13 : decode cX1_word 13 = .ok (.iconst 0, 1) := by decide +kernel
theorem dX1_word_14 : decode cX1_word 14 = .ok (.invokevirtual 23, 3) := by decide +kernel
theorem dX1_word_17 : decode cX1_word 17 = .ok (.ifCond .eq 7, 3) := by decide +kernel
theorem dX1_word_20 : decode cX1_word 20 = .ok (.lconst 0, 1) := by decide +kernel
theorem dX1_word_21 : decode cX1_word 21 = .ok (.goto 9, 3) := by decide +kernel
theorem dX1_word_24 : decode cX1_word 24 = .ok (.aload_n 0, 1) := by decide +kernel
theorem dX1_word_25 : decode cX1_word 25 = .ok (.getfield 7, 3) := by decide +kernel
theorem dX1_word_28 : decode cX1_word 28 = .ok (.iload_n 1, 1) := by decide +kernel
theorem dX1_word_29 : decode cX1_word 29 = .ok (.laload, 1) := by decide +kernel
theorem dX1_word_30 : decode cX1_word 30 = .ok (.lreturn, 1) := by decide +kernel
set_option maxRecDepth 20000 in
theorem ggX1_code_X1_isPlace : GoodIn wsX1_code wsX1_isPlace := goodIn_r _ [7, 8] (by decide +kernel) (by decide +kernel)
set_option maxRecDepth 20000 in
theorem gX1_code_X1_isPlace : GoodIn wsX1_code (va_wsS RX1 19 yX1_isPlace wsX1_isPlace) := goodIn_app (goodIn_of _ (by decide +kernel)) ggX1_code_X1_isPlace
set_option maxRecDepth 20000 in
theorem ggX1_code_X1_bad : GoodIn wsX1_code wsX1_bad := goodIn_r _ [12, 13, 14, 15, 16, 17, 18, 19] (by decide +kernel) (by decide +kernel)
set_option maxRecDepth 20000 in
theorem gX1_code_X1_bad : GoodIn wsX1_code (wsV RX1 23 RX1 yX1_bad wsX1_bad) := goodIn_app (goodIn_of _ (by decide +kernel)) ggX1_code_X1_bad
theorem dX1_code_0 : decode cX1_code 0 = .ok (.aload_n 0, 1) := by decide +kernel
theorem dX1_code_1 : decode cX1_code 1 = .ok (.iload_n 1, 1) := by decide +kernel
theorem dX1_code_2 : decode cX1_code 2 = .ok (.i2l, 1) := by decide +kernel
theorem dX1_code_3 : decode cX1_code 3 = .ok (.invokestatic 19, 3) := by decide +kernel
theorem dX1_code_6 : decode cX1_code 6 = .ok (.ifCond .eq 36, 3) := by decide +kernel
theorem dX1_code_9 : decode cX1_code 9 = .ok (.iload_n 2, 1) := by decide +kernel
theorem dX1_code_10 : decode cX1_code 10 = .ok (.ifCond .lt 32, 3) := by decide +kernel
theorem dX1_code_13 : decode cX1_code 13 = .ok (.iload_n 2, 1) := by decide +kernel
theorem dX1_code_14 : decode cX1_code 14 = .ok (.sipush 511, 3) := by decide +kernel
theorem dX1_code_17 : decode cX1_code 17 = .ok (.if_icmp .gt 25, 3) := by decide +kernel
theorem dX1_code_20 : decode cX1_code 20 = .ok (.iload_n 3, 1) := by decide +kernel
theorem dX1_code_21 : decode cX1_code 21 = .ok (.ifCond .lt 21, 3) := by decide +kernel
theorem dX1_code_24 : decode cX1_code 24 = .ok (.iload_n 3, 1) := by decide +kernel
theorem dX1_code_25 : decode cX1_code 25 = .ok (.bipush 15, 2) := by decide +kernel
theorem dX1_code_27 : decode cX1_code 27 = .ok (.if_icmp .gt 15, 3) := by decide +kernel
theorem dX1_code_30 : decode cX1_code 30 = .ok (.iload 5, 2) := by decide +kernel
theorem dX1_code_32 : decode cX1_code 32 = .ok (.ifCond .lt 10, 3) := by decide +kernel
theorem dX1_code_35 : decode cX1_code 35 = .ok (.iload 5, 2) := by decide +kernel
theorem dX1_code_37 : decode cX1_code 37 = .ok (.bipush 15, 2) := by decide +kernel
theorem dX1_code_39 : decode cX1_code 39 = .ok (.if_icmp .le 7, 3) := by decide +kernel
theorem dX1_code_42 : decode cX1_code 42 = .ok (.iconst 1, 1) := by decide +kernel
theorem dX1_code_43 : decode cX1_code 43 = .ok (.goto 4, 3) := by decide +kernel
theorem dX1_code_46 : decode cX1_code 46 = .ok (.iconst 0, 1) := by decide +kernel
theorem dX1_code_47 : decode cX1_code 47 = .ok (.invokevirtual 23, 3) := by decide +kernel
theorem dX1_code_50 : decode cX1_code 50 = .ok (.ifCond .eq 5, 3) := by decide +kernel
theorem dX1_code_53 : decode cX1_code 53 = .ok (.lconst 0, 1) := by decide +kernel
theorem dX1_code_54 : decode cX1_code 54 = .ok (.lreturn, 1) := by decide +kernel
theorem dX1_code_55 : decode cX1_code 55 = .ok (.iload_n 2, 1) := by decide +kernel
theorem dX1_code_56 : decode cX1_code 56 = .ok (.i2l, 1) := by decide +kernel
theorem dX1_code_57 : decode cX1_code 57 = .ok (.bipush 27, 2) := by decide +kernel
theorem dX1_code_59 : decode cX1_code 59 = .ok (.lshl, 1) := by decide +kernel
theorem dX1_code_60 : decode cX1_code 60 = .ok (.iload_n 3, 1) := by decide +kernel
theorem dX1_code_61 : decode cX1_code 61 = .ok (.i2l, 1) := by decide +kernel
theorem dX1_code_62 : decode cX1_code 62 = .ok (.bipush 23, 2) := by decide +kernel
theorem dX1_code_64 : decode cX1_code 64 = .ok (.lshl, 1) := by decide +kernel
theorem dX1_code_65 : decode cX1_code 65 = .ok (.lor, 1) := by decide +kernel
theorem dX1_code_66 : decode cX1_code 66 = .ok (.iload 4, 2) := by decide +kernel
theorem dX1_code_68 : decode cX1_code 68 = .ok (.ifCond .eq 9, 3) := by decide +kernel
theorem dX1_code_71 : decode cX1_code 71 = .ok (.ldc2_w 29, 3) := by decide +kernel
theorem dX1_code_74 : decode cX1_code 74 = .ok (.goto 4, 3) := by decide +kernel
theorem dX1_code_77 : decode cX1_code 77 = .ok (.lconst 0, 1) := by decide +kernel
theorem dX1_code_78 : decode cX1_code 78 = .ok (.lor, 1) := by decide +kernel
theorem dX1_code_79 : decode cX1_code 79 = .ok (.iload 5, 2) := by decide +kernel
theorem dX1_code_81 : decode cX1_code 81 = .ok (.i2l, 1) := by decide +kernel
theorem dX1_code_82 : decode cX1_code 82 = .ok (.bipush 18, 2) := by decide +kernel
theorem dX1_code_84 : decode cX1_code 84 = .ok (.lshl, 1) := by decide +kernel
theorem dX1_code_85 : decode cX1_code 85 = .ok (.lor, 1) := by decide +kernel
theorem dX1_code_86 : decode cX1_code 86 = .ok (.iload 6, 2) := by decide +kernel
theorem dX1_code_88 : decode cX1_code 88 = .ok (.i2l, 1) := by decide +kernel
theorem dX1_code_89 : decode cX1_code 89 = .ok (.ldc2_w 31, 3) := by decide +kernel
theorem dX1_code_92 : decode cX1_code 92 = .ok (.land, 1) := by decide +kernel
theorem dX1_code_93 : decode cX1_code 93 = .ok (.lor, 1) := by decide +kernel
theorem dX1_code_94 : decode cX1_code 94 = .ok (.lstore 7, 2) := by decide +kernel
theorem dX1_code_96 : decode cX1_code 96 = .ok (.aload_n 0, 1) := by decide +kernel
theorem dX1_code_97 : decode cX1_code 97 = .ok (.getfield 7, 3) := by decide +kernel
theorem dX1_code_100 : decode cX1_code 100 = .ok (.iload_n 1, 1) := by decide +kernel
theorem dX1_code_101 : decode cX1_code 101 = .ok (.lload 7, 2) := by decide +kernel
theorem dX1_code_103 : decode cX1_code 103 = .ok (.lastore, 1) := by decide +kernel
theorem dX1_code_104 : decode cX1_code 104 = .ok (.lload 7, 2) := by decide +kernel
theorem dX1_code_106 : decode cX1_code 106 = .ok (.lreturn, 1) := by decide +kernel
set_option maxRecDepth 20000 in
theorem ggX1_go_X1_isPlace : GoodIn wsX1_go wsX1_isPlace := goodIn_r _ [5, 6] (by decide +kernel) (by decide +kernel)
set_option maxRecDepth 20000 in
theorem gX1_go_X1_isPlace : GoodIn wsX1_go (va_wsS RX1 19 yX1_isPlace wsX1_isPlace) := goodIn_app (goodIn_of _ (by decide +kernel)) ggX1_go_X1_isPlace
set_option maxRecDepth 20000 in
theorem ggX1_go_X1_bad : GoodIn wsX1_go wsX1_bad := goodIn_r _ [10, 11, 12, 13, 14, 15, 16, 17] (by decide +kernel) (by decide +kernel)
set_option maxRecDepth 20000 in
theorem gX1_go_X1_bad : GoodIn wsX1_go (wsV RX1 23 RX1 yX1_bad wsX1_bad) := goodIn_app (goodIn_of _ (by decide +kernel)) ggX1_go_X1_bad
theorem dX1_go_0 : decode cX1_go 0 = .ok (.aload_n 0, 1) := by decide +kernel
theorem dX1_go_1 : decode cX1_go 1 = .ok (.iload_n 1, 1) := by decide +kernel
theorem dX1_go_2 : decode cX1_go 2 = .ok (.i2l, 1) := by decide +kernel
theorem dX1_go_3 : decode cX1_go 3 = .ok (.invokestatic 19, 3) := by decide +kernel
theorem dX1_go_6 : decode cX1_go 6 = .ok (.ifCond .ne 7, 3) := by decide +kernel
theorem dX1_go_9 : decode cX1_go 9 = .ok (.iconst 1, 1) := by decide +kernel
theorem dX1_go_10 : decode cX1_go 10 = .ok (.goto 4, 3) := by decide +kernel
theorem dX1_go_13 : decode cX1_go 13 = .ok (.iconst 0, 1) := by decide +kernel
theorem dX1_go_14 : decode cX1_go 14 = .ok (.invokevirtual 23, 3) := by decide +kernel
theorem dX1_go_17 : decode cX1_go 17 = .ok (.ifCond .ne 8, 3) := by decide +kernel
theorem dX1_go_20 : decode cX1_go 20 = .ok (.aload_n 0, 1) := by decide +kernel
theorem dX1_go_21 : decode cX1_go 21 = .ok (.iload_n 1, 1) := by decide +kernel
theorem dX1_go_22 : decode cX1_go 22 = .ok (.putfield 33, 3) := by decide +kernel
theorem dX1_go_25 : decode cX1_go 25 = .ok (.return_, 1) := by decide +kernel
theorem dX1_number_0 : decode cX1_number 0 = .ok (.lload_n 0, 1) := by decide +kernel
theorem dX1_number_1 : decode cX1_number 1 = .ok (.bipush 28, 2) := by decide +kernel
theorem dX1_number_3 : decode cX1_number 3 = .ok (.lshl, 1) := by decide +kernel
theorem dX1_number_4 : decode cX1_number 4 = .ok (.bipush 28, 2) := by decide +kernel
theorem dX1_number_6 : decode cX1_number 6 = .ok (.lshr, 1) := by decide +kernel
theorem dX1_number_7 : decode cX1_number 7 = .ok (.lreturn, 1) := by decide +kernel
set_option maxRecDepth 20000 in
theorem ggX1_at_X1_isPlace : GoodIn wsX1_at wsX1_isPlace := goodIn_r _ [6, 7] (by decide +kernel) (by decide +kernel)
set_option maxRecDepth 20000 in
theorem gX1_at_X1_isPlace : GoodIn wsX1_at (va_wsS RX1 19 yX1_isPlace wsX1_isPlace) := goodIn_app (goodIn_of _ (by decide +kernel)) ggX1_at_X1_isPlace
theorem dX1_at_0 : decode cX1_at 0 = .ok (.lload_n 1, 1) := by decide +kernel
theorem dX1_at_1 : decode cX1_at 1 = .ok (.invokestatic 19, 3) := by decide +kernel
theorem dX1_at_4 : decode cX1_at 4 = .ok (.ifCond .eq 11, 3) := by decide +kernel
theorem dX1_at_7 : decode cX1_at 7 = .ok (.aload_n 0, 1) := by decide +kernel
theorem dX1_at_8 : decode cX1_at 8 = .ok (.getfield 7, 3) := by decide +kernel
theorem dX1_at_11 : decode cX1_at 11 = .ok (.lload_n 1, 1) := by decide +kernel
theorem dX1_at_12 : decode cX1_at 12 = .ok (.l2i, 1) := by decide +kernel
theorem dX1_at_13 : decode cX1_at 13 = .ok (.laload, 1) := by decide +kernel
theorem dX1_at_14 : decode cX1_at 14 = .ok (.lreturn, 1) := by decide +kernel
theorem dX1_at_15 : decode cX1_at 15 = .ok (.aload_n 0, 1) := by decide +kernel
theorem dX1_at_16 : decode cX1_at 16 = .ok (.iconst 2, 1) := by decide +kernel
theorem dX1_at_17 : decode cX1_at 17 = .ok (.putfield 36, 3) := by decide +kernel
theorem dX1_at_20 : decode cX1_at 20 = .ok (.lconst 0, 1) := by decide +kernel
theorem dX1_at_21 : decode cX1_at 21 = .ok (.lreturn, 1) := by decide +kernel
set_option maxRecDepth 20000 in
theorem ggX1_effective_X1_at : GoodIn wsX1_effective wsX1_at := goodIn_r _ [9, 3, 4, 10, 11, 8, 12, 13, 14, 15, 16, 17, 18, 19] rfl (by decide +kernel)
set_option maxRecDepth 20000 in
theorem gX1_effective_X1_at : GoodIn wsX1_effective (wsV RX1 41 RX1 yX1_at wsX1_at) := goodIn_app (goodIn_of _ (by decide +kernel)) ggX1_effective_X1_at
theorem dX1_effective_0 : decode cX1_effective 0 = .ok (.lload_n 1, 1) := by decide +kernel
theorem dX1_effective_1 : decode cX1_effective 1 = .ok (.lstore_n 3, 1) := by decide +kernel
theorem dX1_effective_2 : decode cX1_effective 2 = .ok (.iconst 0, 1) := by decide +kernel
theorem dX1_effective_3 : decode cX1_effective 3 = .ok (.istore 5, 2) := by decide +kernel
theorem dX1_effective_5 : decode cX1_effective 5 = .ok (.lload_n 3, 1) := by decide +kernel
theorem dX1_effective_6 : decode cX1_effective 6 = .ok (.bipush 18, 2) := by decide +kernel
theorem dX1_effective_8 : decode cX1_effective 8 = .ok (.lshr, 1) := by decide +kernel
theorem dX1_effective_9 : decode cX1_effective 9 = .ok (.ldc2_w 39, 3) := by decide +kernel
theorem dX1_effective_12 : decode cX1_effective 12 = .ok (.land, 1) := by decide +kernel
theorem dX1_effective_13 : decode cX1_effective 13 = .ok (.l2i, 1) := by decide +kernel
theorem dX1_effective_14 : decode cX1_effective 14 = .ok (.istore 6, 2) := by decide +kernel
theorem dX1_effective_16 : decode cX1_effective 16 = .ok (.lload_n 3, 1) := by decide +kernel
theorem dX1_effective_17 : decode cX1_effective 17 = .ok (.ldc2_w 31, 3) := by decide +kernel
theorem dX1_effective_20 : decode cX1_effective 20 = .ok (.land, 1) := by decide +kernel
theorem dX1_effective_21 : decode cX1_effective 21 = .ok (.iload 6, 2) := by decide +kernel
theorem dX1_effective_23 : decode cX1_effective 23 = .ok (.ifCond .ne 7, 3) := by decide +kernel
theorem dX1_effective_26 : decode cX1_effective 26 = .ok (.lconst 0, 1) := by decide +kernel
theorem dX1_effective_27 : decode cX1_effective 27 = .ok (.goto 10, 3) := by decide +kernel
theorem dX1_effective_30 : decode cX1_effective 30 = .ok (.aload_n 0, 1) := by decide +kernel
theorem dX1_effective_31 : decode cX1_effective 31 = .ok (.getfield 7, 3) := by decide +kernel
theorem dX1_effective_34 : decode cX1_effective 34 = .ok (.iload 6, 2) := by decide +kernel
theorem dX1_effective_36 : decode cX1_effective 36 = .ok (.laload, 1) := by decide +kernel
theorem dX1_effective_37 : decode cX1_effective 37 = .ok (.ladd, 1) := by decide +kernel
theorem dX1_effective_38 : decode cX1_effective 38 = .ok (.ldc2_w 31, 3) := by decide +kernel
theorem dX1_effective_41 : decode cX1_effective 41 = .ok (.land, 1) := by decide +kernel
theorem dX1_effective_42 : decode cX1_effective 42 = .ok (.lstore 7, 2) := by decide +kernel
theorem dX1_effective_44 : decode cX1_effective 44 = .ok (.lload_n 3, 1) := by decide +kernel
theorem dX1_effective_45 : decode cX1_effective 45 = .ok (.bipush 22, 2) := by decide +kernel
theorem dX1_effective_47 : decode cX1_effective 47 = .ok (.lshr, 1) := by decide +kernel
theorem dX1_effective_48 : decode cX1_effective 48 = .ok (.lconst 1, 1) := by decide +kernel
theorem dX1_effective_49 : decode cX1_effective 49 = .ok (.land, 1) := by decide +kernel
theorem dX1_effective_50 : decode cX1_effective 50 = .ok (.lconst 0, 1) := by decide +kernel
theorem dX1_effective_51 : decode cX1_effective 51 = .ok (.lcmp, 1) := by decide +kernel
theorem dX1_effective_52 : decode cX1_effective 52 = .ok (.ifCond .eq 10, 3) := by decide +kernel
theorem dX1_effective_55 : decode cX1_effective 55 = .ok (.iload 5, 2) := by decide +kernel
theorem dX1_effective_57 : decode cX1_effective 57 = .ok (.bipush 20, 2) := by decide +kernel
theorem dX1_effective_59 : decode cX1_effective 59 = .ok (.if_icmp .ne 6, 3) := by decide +kernel
theorem dX1_effective_62 : decode cX1_effective 62 = .ok (.lload 7, 2) := by decide +kernel
theorem dX1_effective_64 : decode cX1_effective 64 = .ok (.lreturn, 1) := by decide +kernel
theorem dX1_effective_65 : decode cX1_effective 65 = .ok (.aload_n 0, 1) := by decide +kernel
theorem dX1_effective_66 : decode cX1_effective 66 = .ok (.lload 7, 2) := by decide +kernel
theorem dX1_effective_68 : decode cX1_effective 68 = .ok (.invokevirtual 41, 3) := by decide +kernel
theorem dX1_effective_71 : decode cX1_effective 71 = .ok (.lstore_n 3, 1) := by decide +kernel
theorem dX1_effective_72 : decode cX1_effective 72 = .ok (.aload_n 0, 1) := by decide +kernel
theorem dX1_effective_73 : decode cX1_effective 73 = .ok (.getfield 36, 3) := by decide +kernel
theorem dX1_effective_76 : decode cX1_effective 76 = .ok (.ifCond .eq 5, 3) := by decide +kernel
theorem dX1_effective_79 : decode cX1_effective 79 = .ok (.lconst 0, 1) := by decide +kernel
theorem dX1_effective_80 : decode cX1_effective 80 = .ok (.lreturn, 1) := by decide +kernel
theorem dX1_effective_81 : decode cX1_effective 81 = .ok (.iinc 5 1, 3) := by decide +kernel
theorem dX1_effective_84 : decode cX1_effective 84 = .ok (.goto (-79), 3) := by decide +kernel
theorem dX1_is_0 : decode cX1_is 0 = .ok (.iload_n 0, 1) := by decide +kernel
theorem dX1_is_1 : decode cX1_is 1 = .ok (.bipush 7, 2) := by decide +kernel
theorem dX1_is_3 : decode cX1_is 3 = .ok (.iand, 1) := by decide +kernel
theorem dX1_is_4 : decode cX1_is 4 = .ok (.tableswitch 108 0 6 #[44, 46, 58, 70, 82, 84, 96], 44) := by decide +kernel
theorem dX1_is_48 : decode cX1_is 48 = .ok (.iconst 0, 1) := by decide +kernel
theorem dX1_is_49 : decode cX1_is 49 = .ok (.ireturn, 1) := by decide +kernel
theorem dX1_is_50 : decode cX1_is 50 = .ok (.lload_n 1, 1) := by decide +kernel
theorem dX1_is_51 : decode cX1_is 51 = .ok (.lload_n 3, 1) := by decide +kernel
theorem dX1_is_52 : decode cX1_is 52 = .ok (.lcmp, 1) := by decide +kernel
theorem dX1_is_53 : decode cX1_is 53 = .ok (.ifCond .ge 7, 3) := by decide +kernel
theorem dX1_is_56 : decode cX1_is 56 = .ok (.iconst 1, 1) := by decide +kernel
theorem dX1_is_57 : decode cX1_is 57 = .ok (.goto 4, 3) := by decide +kernel
theorem dX1_is_60 : decode cX1_is 60 = .ok (.iconst 0, 1) := by decide +kernel
theorem dX1_is_61 : decode cX1_is 61 = .ok (.ireturn, 1) := by decide +kernel
theorem dX1_is_62 : decode cX1_is 62 = .ok (.lload_n 1, 1) := by decide +kernel
theorem dX1_is_63 : decode cX1_is 63 = .ok (.lload_n 3, 1) := by decide +kernel
theorem dX1_is_64 : decode cX1_is 64 = .ok (.lcmp, 1) := by decide +kernel
theorem dX1_is_65 : decode cX1_is 65 = .ok (.ifCond .ne 7, 3) := by decide +kernel
theorem dX1_is_68 : decode cX1_is 68 = .ok (.iconst 1, 1) := by decide +kernel
theorem dX1_is_69 : decode cX1_is 69 = .ok (.goto 4, 3) := by decide +kernel
theorem dX1_is_72 : decode cX1_is 72 = .ok (.iconst 0, 1) := by decide +kernel
theorem dX1_is_73 : decode cX1_is 73 = .ok (.ireturn, 1) := by decide +kernel
theorem dX1_is_74 : decode cX1_is 74 = .ok (.lload_n 1, 1) := by decide +kernel
theorem dX1_is_75 : decode cX1_is 75 = .ok (.lload_n 3, 1) := by decide +kernel
theorem dX1_is_76 : decode cX1_is 76 = .ok (.lcmp, 1) := by decide +kernel
theorem dX1_is_77 : decode cX1_is 77 = .ok (.ifCond .gt 7, 3) := by decide +kernel
theorem dX1_is_80 : decode cX1_is 80 = .ok (.iconst 1, 1) := by decide +kernel
theorem dX1_is_81 : decode cX1_is 81 = .ok (.goto 4, 3) := by decide +kernel
theorem dX1_is_84 : decode cX1_is 84 = .ok (.iconst 0, 1) := by decide +kernel
theorem dX1_is_85 : decode cX1_is 85 = .ok (.ireturn, 1) := by decide +kernel
theorem dX1_is_86 : decode cX1_is 86 = .ok (.iconst 1, 1) := by decide +kernel
theorem dX1_is_87 : decode cX1_is 87 = .ok (.ireturn, 1) := by decide +kernel
theorem dX1_is_88 : decode cX1_is 88 = .ok (.lload_n 1, 1) := by decide +kernel
theorem dX1_is_89 : decode cX1_is 89 = .ok (.lload_n 3, 1) := by decide +kernel
theorem dX1_is_90 : decode cX1_is 90 = .ok (.lcmp, 1) := by decide +kernel
theorem dX1_is_91 : decode cX1_is 91 = .ok (.ifCond .lt 7, 3) := by decide +kernel
theorem dX1_is_94 : decode cX1_is 94 = .ok (.iconst 1, 1) := by decide +kernel
theorem dX1_is_95 : decode cX1_is 95 = .ok (.goto 4, 3) := by decide +kernel
theorem dX1_is_98 : decode cX1_is 98 = .ok (.iconst 0, 1) := by decide +kernel
theorem dX1_is_99 : decode cX1_is 99 = .ok (.ireturn, 1) := by decide +kernel
theorem dX1_is_100 : decode cX1_is 100 = .ok (.lload_n 1, 1) := by decide +kernel
theorem dX1_is_101 : decode cX1_is 101 = .ok (.lload_n 3, 1) := by decide +kernel
theorem dX1_is_102 : decode cX1_is 102 = .ok (.lcmp, 1) := by decide +kernel
theorem dX1_is_103 : decode cX1_is 103 = .ok (.ifCond .eq 7, 3) := by decide +kernel
theorem dX1_is_106 : decode cX1_is 106 = .ok (.iconst 1, 1) := by decide +kernel
theorem dX1_is_107 : decode cX1_is 107 = .ok (.goto 4, 3) := by decide +kernel
theorem dX1_is_110 : decode cX1_is 110 = .ok (.iconst 0, 1) := by decide +kernel
theorem dX1_is_111 : decode cX1_is 111 = .ok (.ireturn, 1) := by decide +kernel
theorem dX1_is_112 : decode cX1_is 112 = .ok (.lload_n 1, 1) := by decide +kernel
theorem dX1_is_113 : decode cX1_is 113 = .ok (.lload_n 3, 1) := by decide +kernel
theorem dX1_is_114 : decode cX1_is 114 = .ok (.lcmp, 1) := by decide +kernel
theorem dX1_is_115 : decode cX1_is 115 = .ok (.ifCond .le 7, 3) := by decide +kernel
theorem dX1_is_118 : decode cX1_is 118 = .ok (.iconst 1, 1) := by decide +kernel
theorem dX1_is_119 : decode cX1_is 119 = .ok (.goto 4, 3) := by decide +kernel
theorem dX1_is_122 : decode cX1_is 122 = .ok (.iconst 0, 1) := by decide +kernel
theorem dX1_is_123 : decode cX1_is 123 = .ok (.ireturn, 1) := by decide +kernel
theorem dX1_isKnown_0 : decode cX1_isKnown 0 = .ok (.iload_n 0, 1) := by decide +kernel
theorem dX1_isKnown_1 : decode cX1_isKnown 1 = .ok (.lookupswitch 317 #[(0, 315), (128, 315), (129, 315), (130, 315), (132, 315), (136, 315), (140, 315), (144, 315), (145, 315), (152, 315), (153, 315), (162, 315), (168, 315), (172, 315), (176, 315), (177, 315), (178, 315), (179, 315), (180, 315), (184, 315), (185, 315), (188, 315), (189, 315), (256, 315), (258, 315), (260, 315), (261, 315), (280, 315), (281, 315), (284, 315), (285, 315), (296, 315), (320, 315), (324, 315), (352, 315), (356, 315), (360, 315), (364, 315)], 315) := by decide +kernel
theorem dX1_isKnown_316 : decode cX1_isKnown 316 = .ok (.iconst 1, 1) := by decide +kernel
theorem dX1_isKnown_317 : decode cX1_isKnown 317 = .ok (.ireturn, 1) := by decide +kernel
theorem dX1_isKnown_318 : decode cX1_isKnown 318 = .ok (.iload_n 0, 1) := by decide +kernel
theorem dX1_isKnown_319 : decode cX1_isKnown 319 = .ok (.sipush 192, 3) := by decide +kernel
theorem dX1_isKnown_322 : decode cX1_isKnown 322 = .ok (.if_icmp .lt 14, 3) := by decide +kernel
theorem dX1_isKnown_325 : decode cX1_isKnown 325 = .ok (.iload_n 0, 1) := by decide +kernel
theorem dX1_isKnown_326 : decode cX1_isKnown 326 = .ok (.sipush 255, 3) := by decide +kernel
theorem dX1_isKnown_329 : decode cX1_isKnown 329 = .ok (.if_icmp .gt 7, 3) := by decide +kernel
theorem dX1_isKnown_332 : decode cX1_isKnown 332 = .ok (.iconst 1, 1) := by decide +kernel
theorem dX1_isKnown_333 : decode cX1_isKnown 333 = .ok (.goto 4, 3) := by decide +kernel
theorem dX1_isKnown_336 : decode cX1_isKnown 336 = .ok (.iconst 0, 1) := by decide +kernel
theorem dX1_isKnown_337 : decode cX1_isKnown 337 = .ok (.ireturn, 1) := by decide +kernel
set_option maxRecDepth 20000 in
theorem ggX1_run_X1_bad : GoodIn wsX1_run wsX1_bad := goodIn_r _ [11, 12, 72, 73, 74, 75, 76, 77] (by decide +kernel) (by decide +kernel)
set_option maxRecDepth 20000 in
theorem gX1_run_X1_bad : GoodIn wsX1_run (wsV RX1 23 RX1 yX1_bad wsX1_bad) := goodIn_app (goodIn_of _ (by decide +kernel)) ggX1_run_X1_bad
set_option maxRecDepth 20000 in
theorem ggX1_run_X1_isKnown : GoodIn wsX1_run wsX1_isKnown := goodIn_r _ [15] (by decide +kernel) (by decide +kernel)
set_option maxRecDepth 20000 in
theorem gX1_run_X1_isKnown : GoodIn wsX1_run (va_wsS RX1 48 yX1_isKnown wsX1_isKnown) := goodIn_app (goodIn_of _ (by decide +kernel)) ggX1_run_X1_isKnown
set_option maxRecDepth 20000 in
theorem ggX1_run_X1_effective : GoodIn wsX1_run wsX1_effective := goodIn_r _ [19, 6, 20, 2, 4, 21, 22, 23, 10, 24, 25, 26, 27, 28, 72, 73, 74, 75, 76, 77] rfl (by decide +kernel)
set_option maxRecDepth 20000 in
theorem gX1_run_X1_effective : GoodIn wsX1_run (wsV RX1 56 RX1 yX1_effective wsX1_effective) := goodIn_app (goodIn_of _ (by decide +kernel)) ggX1_run_X1_effective
set_option maxRecDepth 20000 in
theorem ggX1_run_X1_one : GoodIn wsX1_run wsX1_one := goodIn_r _ [32, 4, 3, 33, 34, 10, 35, 21, 22, 23, 24, 2, 25, 26, 27, 28, 36, 37, 38, 39, 40, 41, 42, 43, 44, 45, 46, 47, 48, 49, 50, 51, 20, 52, 53, 54, 55, 56, 57, 58, 59, 60, 61, 62, 63, 64, 65, 66, 67, 68, 69, 70, 71, 72, 73, 74, 75, 76, 77] rfl (by decide +kernel)
set_option maxRecDepth 20000 in
theorem gX1_run_X1_one : GoodIn wsX1_run (wsV RX1 59 RX1 yX1_one wsX1_one) := goodIn_app (goodIn_of _ (by decide +kernel)) ggX1_run_X1_one
theorem dX1_run_0 : decode cX1_run 0 = .ok (.aload_n 0, 1) := by decide +kernel
theorem dX1_run_1 : decode cX1_run 1 = .ok (.iload_n 1, 1) := by decide +kernel
theorem dX1_run_2 : decode cX1_run 2 = .ok (.ifCond .lt 10, 3) := by decide +kernel
theorem dX1_run_5 : decode cX1_run 5 = .ok (.iload_n 1, 1) := by decide +kernel
theorem dX1_run_6 : decode cX1_run 6 = .ok (.sipush 20000, 3) := by decide +kernel
theorem dX1_run_9 : decode cX1_run 9 = .ok (.if_icmp .le 7, 3) := by decide +kernel
theorem dX1_run_12 : decode cX1_run 12 = .ok (.iconst 1, 1) := by decide +kernel
theorem dX1_run_13 : decode cX1_run 13 = .ok (.goto 4, 3) := by decide +kernel
theorem dX1_run_16 : decode cX1_run 16 = .ok (.iconst 0, 1) := by decide +kernel
theorem dX1_run_17 : decode cX1_run 17 = .ok (.invokevirtual 23, 3) := by decide +kernel
theorem dX1_run_20 : decode cX1_run 20 = .ok (.ifCond .eq 5, 3) := by decide +kernel
theorem dX1_run_23 : decode cX1_run 23 = .ok (.iconst 0, 1) := by decide +kernel
theorem dX1_run_24 : decode cX1_run 24 = .ok (.ireturn, 1) := by decide +kernel
theorem dX1_run_25 : decode cX1_run 25 = .ok (.aload_n 0, 1) := by decide +kernel
theorem dX1_run_26 : decode cX1_run 26 = .ok (.iconst 0, 1) := by decide +kernel
theorem dX1_run_27 : decode cX1_run 27 = .ok (.putfield 45, 3) := by decide +kernel
theorem dX1_run_30 : decode cX1_run 30 = .ok (.aload_n 0, 1) := by decide +kernel
theorem dX1_run_31 : decode cX1_run 31 = .ok (.getfield 45, 3) := by decide +kernel
theorem dX1_run_34 : decode cX1_run 34 = .ok (.iload_n 1, 1) := by decide +kernel
theorem dX1_run_35 : decode cX1_run 35 = .ok (.if_icmp .ge 140, 3) := by decide +kernel
theorem dX1_run_38 : decode cX1_run 38 = .ok (.aload_n 0, 1) := by decide +kernel
theorem dX1_run_39 : decode cX1_run 39 = .ok (.getfield 7, 3) := by decide +kernel
theorem dX1_run_42 : decode cX1_run 42 = .ok (.aload_n 0, 1) := by decide +kernel
theorem dX1_run_43 : decode cX1_run 43 = .ok (.getfield 33, 3) := by decide +kernel
theorem dX1_run_46 : decode cX1_run 46 = .ok (.laload, 1) := by decide +kernel
theorem dX1_run_47 : decode cX1_run 47 = .ok (.lstore_n 2, 1) := by decide +kernel
theorem dX1_run_48 : decode cX1_run 48 = .ok (.lload_n 2, 1) := by decide +kernel
theorem dX1_run_49 : decode cX1_run 49 = .ok (.bipush 27, 2) := by decide +kernel
theorem dX1_run_51 : decode cX1_run 51 = .ok (.lshr, 1) := by decide +kernel
theorem dX1_run_52 : decode cX1_run 52 = .ok (.l2i, 1) := by decide +kernel
theorem dX1_run_53 : decode cX1_run 53 = .ok (.istore 4, 2) := by decide +kernel
theorem dX1_run_55 : decode cX1_run 55 = .ok (.aload_n 0, 1) := by decide +kernel
theorem dX1_run_56 : decode cX1_run 56 = .ok (.iload 4, 2) := by decide +kernel
theorem dX1_run_58 : decode cX1_run 58 = .ok (.invokestatic 48, 3) := by decide +kernel
theorem dX1_run_61 : decode cX1_run 61 = .ok (.ifCond .eq 7, 3) := by decide +kernel
theorem dX1_run_64 : decode cX1_run 64 = .ok (.iconst 0, 1) := by decide +kernel
theorem dX1_run_65 : decode cX1_run 65 = .ok (.goto 4, 3) := by decide +kernel
theorem dX1_run_68 : decode cX1_run 68 = .ok (.iconst 1, 1) := by decide +kernel
theorem dX1_run_69 : decode cX1_run 69 = .ok (.putfield 36, 3) := by decide +kernel
theorem dX1_run_72 : decode cX1_run 72 = .ok (.iload 4, 2) := by decide +kernel
theorem dX1_run_74 : decode cX1_run 74 = .ok (.ifCond .ne 39, 3) := by decide +kernel
theorem dX1_run_77 : decode cX1_run 77 = .ok (.aload_n 0, 1) := by decide +kernel
theorem dX1_run_78 : decode cX1_run 78 = .ok (.aload_n 0, 1) := by decide +kernel
theorem dX1_run_79 : decode cX1_run 79 = .ok (.getfield 33, 3) := by decide +kernel
theorem dX1_run_82 : decode cX1_run 82 = .ok (.iconst 1, 1) := by decide +kernel
theorem dX1_run_83 : decode cX1_run 83 = .ok (.iadd, 1) := by decide +kernel
theorem dX1_run_84 : decode cX1_run 84 = .ok (.sipush 4095, 3) := by decide +kernel
theorem dX1_run_87 : decode cX1_run 87 = .ok (.iand, 1) := by decide +kernel
theorem dX1_run_88 : decode cX1_run 88 = .ok (.putfield 33, 3) := by decide +kernel
theorem dX1_run_91 : decode cX1_run 91 = .ok (.aload_n 0, 1) := by decide +kernel
theorem dX1_run_92 : decode cX1_run 92 = .ok (.dup, 1) := by decide +kernel
theorem dX1_run_93 : decode cX1_run 93 = .ok (.getfield 45, 3) := by decide +kernel
theorem dX1_run_96 : decode cX1_run 96 = .ok (.iconst 1, 1) := by decide +kernel
theorem dX1_run_97 : decode cX1_run 97 = .ok (.iadd, 1) := by decide +kernel
theorem dX1_run_98 : decode cX1_run 98 = .ok (.putfield 45, 3) := by decide +kernel
theorem dX1_run_101 : decode cX1_run 101 = .ok (.aload_n 0, 1) := by decide +kernel
theorem dX1_run_102 : decode cX1_run 102 = .ok (.dup, 1) := by decide +kernel
theorem dX1_run_103 : decode cX1_run 103 = .ok (.getfield 52, 3) := by decide +kernel
theorem dX1_run_106 : decode cX1_run 106 = .ok (.lconst 1, 1) := by decide +kernel
theorem dX1_run_107 : decode cX1_run 107 = .ok (.ladd, 1) := by decide +kernel
theorem dX1_run_108 : decode cX1_run 108 = .ok (.putfield 52, 3) := by decide +kernel
theorem dX1_run_111 : decode cX1_run 111 = .ok (.iconst (-1), 1) := by decide +kernel
theorem dX1_run_112 : decode cX1_run 112 = .ok (.ireturn, 1) := by decide +kernel
theorem dX1_run_113 : decode cX1_run 113 = .ok (.aload_n 0, 1) := by decide +kernel
theorem dX1_run_114 : decode cX1_run 114 = .ok (.getfield 36, 3) := by decide +kernel
theorem dX1_run_117 : decode cX1_run 117 = .ok (.ifCond .ne 23, 3) := by decide +kernel
theorem dX1_run_120 : decode cX1_run 120 = .ok (.aload_n 0, 1) := by decide +kernel
theorem dX1_run_121 : decode cX1_run 121 = .ok (.iload 4, 2) := by decide +kernel
theorem dX1_run_123 : decode cX1_run 123 = .ok (.lload_n 2, 1) := by decide +kernel
theorem dX1_run_124 : decode cX1_run 124 = .ok (.bipush 23, 2) := by decide +kernel
theorem dX1_run_126 : decode cX1_run 126 = .ok (.lshr, 1) := by decide +kernel
theorem dX1_run_127 : decode cX1_run 127 = .ok (.ldc2_w 39, 3) := by decide +kernel
theorem dX1_run_130 : decode cX1_run 130 = .ok (.land, 1) := by decide +kernel
theorem dX1_run_131 : decode cX1_run 131 = .ok (.l2i, 1) := by decide +kernel
theorem dX1_run_132 : decode cX1_run 132 = .ok (.aload_n 0, 1) := by decide +kernel
theorem dX1_run_133 : decode cX1_run 133 = .ok (.lload_n 2, 1) := by decide +kernel
theorem dX1_run_134 : decode cX1_run 134 = .ok (.invokevirtual 56, 3) := by decide +kernel
theorem dX1_run_137 : decode cX1_run 137 = .ok (.invokevirtual 59, 3) := by decide +kernel
theorem dX1_run_140 : decode cX1_run 140 = .ok (.aload_n 0, 1) := by decide +kernel
theorem dX1_run_141 : decode cX1_run 141 = .ok (.getfield 36, 3) := by decide +kernel
theorem dX1_run_144 : decode cX1_run 144 = .ok (.ifCond .eq 8, 3) := by decide +kernel
theorem dX1_run_147 : decode cX1_run 147 = .ok (.aload_n 0, 1) := by decide +kernel
theorem dX1_run_148 : decode cX1_run 148 = .ok (.getfield 36, 3) := by decide +kernel
theorem dX1_run_151 : decode cX1_run 151 = .ok (.ireturn, 1) := by decide +kernel
theorem dX1_run_152 : decode cX1_run 152 = .ok (.aload_n 0, 1) := by decide +kernel
theorem dX1_run_153 : decode cX1_run 153 = .ok (.dup, 1) := by decide +kernel
theorem dX1_run_154 : decode cX1_run 154 = .ok (.getfield 45, 3) := by decide +kernel
theorem dX1_run_157 : decode cX1_run 157 = .ok (.iconst 1, 1) := by decide +kernel
theorem dX1_run_158 : decode cX1_run 158 = .ok (.iadd, 1) := by decide +kernel
theorem dX1_run_159 : decode cX1_run 159 = .ok (.putfield 45, 3) := by decide +kernel
theorem dX1_run_162 : decode cX1_run 162 = .ok (.aload_n 0, 1) := by decide +kernel
theorem dX1_run_163 : decode cX1_run 163 = .ok (.dup, 1) := by decide +kernel
theorem dX1_run_164 : decode cX1_run 164 = .ok (.getfield 52, 3) := by decide +kernel
theorem dX1_run_167 : decode cX1_run 167 = .ok (.lconst 1, 1) := by decide +kernel
theorem dX1_run_168 : decode cX1_run 168 = .ok (.ladd, 1) := by decide +kernel
theorem dX1_run_169 : decode cX1_run 169 = .ok (.putfield 52, 3) := by decide +kernel
theorem dX1_run_172 : decode cX1_run 172 = .ok (.goto (-142), 3) := by decide +kernel
theorem dX1_run_175 : decode cX1_run 175 = .ok (.iconst 0, 1) := by decide +kernel
theorem dX1_run_176 : decode cX1_run 176 = .ok (.ireturn, 1) := by decide +kernel
set_option maxRecDepth 20000 in
theorem ggX1_one_X1_needsWord : GoodIn wsX1_one wsX1_needsWord := goodIn_r _ [6] (by decide +kernel) (by decide +kernel)
set_option maxRecDepth 20000 in
theorem gX1_one_X1_needsWord : GoodIn wsX1_one (va_wsS RX1 63 yX1_needsWord wsX1_needsWord) := goodIn_app (goodIn_of _ (by decide +kernel)) ggX1_one_X1_needsWord
set_option maxRecDepth 20000 in
theorem ggX1_one_X1_at : GoodIn wsX1_one wsX1_at := goodIn_r _ [10, 11, 1, 12, 13, 5, 14, 15, 53, 54, 55, 56, 57, 58] rfl (by decide +kernel)
set_option maxRecDepth 20000 in
theorem gX1_one_X1_at : GoodIn wsX1_one (wsV RX1 41 RX1 yX1_at wsX1_at) := goodIn_app (goodIn_of _ (by decide +kernel)) ggX1_one_X1_at
set_option maxRecDepth 20000 in
theorem ggX1_one_X1_tested : GoodIn wsX1_one wsX1_tested := goodIn_r _ [19, 11, 20, 21, 22, 23, 5, 24, 25, 26, 27, 53, 54, 55, 56, 57, 58] rfl (by decide +kernel)
set_option maxRecDepth 20000 in
theorem gX1_one_X1_tested : GoodIn wsX1_one (wsV RX1 66 RX1 yX1_tested wsX1_tested) := goodIn_app (goodIn_of _ (by decide +kernel)) ggX1_one_X1_tested
set_option maxRecDepth 20000 in
theorem ggX1_one_X1_piled : GoodIn wsX1_one wsX1_piled := goodIn_r _ [31, 11, 20, 32, 1, 7, 8, 9, 5, 10, 12, 13, 14, 15, 33, 34, 35, 36, 53, 54, 55, 56, 57, 58] rfl (by decide +kernel)
set_option maxRecDepth 20000 in
theorem gX1_one_X1_piled : GoodIn wsX1_one (wsV RX1 70 RX1 yX1_piled wsX1_piled) := goodIn_app (goodIn_of _ (by decide +kernel)) ggX1_one_X1_piled
set_option maxRecDepth 20000 in
theorem ggX1_one_X1_moved : GoodIn wsX1_one wsX1_moved := goodIn_r _ [40, 11, 32, 21, 41, 42, 22, 23, 5, 24, 43, 44, 45, 46, 47, 48, 1, 49, 50, 51, 52, 33, 34, 35, 36, 53, 54, 55, 56, 57, 58] rfl (by decide +kernel)
set_option maxRecDepth 20000 in
theorem gX1_one_X1_moved : GoodIn wsX1_one (wsV RX1 73 RX1 yX1_moved wsX1_moved) := goodIn_app (goodIn_of _ (by decide +kernel)) ggX1_one_X1_moved
theorem dX1_one_0 : decode cX1_one 0 = .ok (.aload_n 0, 1) := by decide +kernel
theorem dX1_one_1 : decode cX1_one 1 = .ok (.getfield 36, 3) := by decide +kernel
theorem dX1_one_4 : decode cX1_one 4 = .ok (.ifCond .eq 4, 3) := by decide +kernel
theorem dX1_one_7 : decode cX1_one 7 = .ok (.return_, 1) := by decide +kernel
theorem dX1_one_8 : decode cX1_one 8 = .ok (.iload_n 1, 1) := by decide +kernel
theorem dX1_one_9 : decode cX1_one 9 = .ok (.invokestatic 63, 3) := by decide +kernel
theorem dX1_one_12 : decode cX1_one 12 = .ok (.istore 5, 2) := by decide +kernel
theorem dX1_one_14 : decode cX1_one 14 = .ok (.iload 5, 2) := by decide +kernel
theorem dX1_one_16 : decode cX1_one 16 = .ok (.ifCond .eq 11, 3) := by decide +kernel
theorem dX1_one_19 : decode cX1_one 19 = .ok (.aload_n 0, 1) := by decide +kernel
theorem dX1_one_20 : decode cX1_one 20 = .ok (.lload_n 3, 1) := by decide +kernel
theorem dX1_one_21 : decode cX1_one 21 = .ok (.invokevirtual 41, 3) := by decide +kernel
theorem dX1_one_24 : decode cX1_one 24 = .ok (.goto 4, 3) := by decide +kernel
theorem dX1_one_27 : decode cX1_one 27 = .ok (.lconst 0, 1) := by decide +kernel
theorem dX1_one_28 : decode cX1_one 28 = .ok (.lstore 6, 2) := by decide +kernel
theorem dX1_one_30 : decode cX1_one 30 = .ok (.aload_n 0, 1) := by decide +kernel
theorem dX1_one_31 : decode cX1_one 31 = .ok (.getfield 36, 3) := by decide +kernel
theorem dX1_one_34 : decode cX1_one 34 = .ok (.ifCond .eq 4, 3) := by decide +kernel
theorem dX1_one_37 : decode cX1_one 37 = .ok (.return_, 1) := by decide +kernel
theorem dX1_one_38 : decode cX1_one 38 = .ok (.aload_n 0, 1) := by decide +kernel
theorem dX1_one_39 : decode cX1_one 39 = .ok (.getfield 33, 3) := by decide +kernel
theorem dX1_one_42 : decode cX1_one 42 = .ok (.iconst 1, 1) := by decide +kernel
theorem dX1_one_43 : decode cX1_one 43 = .ok (.iadd, 1) := by decide +kernel
theorem dX1_one_44 : decode cX1_one 44 = .ok (.sipush 4095, 3) := by decide +kernel
theorem dX1_one_47 : decode cX1_one 47 = .ok (.iand, 1) := by decide +kernel
theorem dX1_one_48 : decode cX1_one 48 = .ok (.istore 8, 2) := by decide +kernel
theorem dX1_one_50 : decode cX1_one 50 = .ok (.iload_n 1, 1) := by decide +kernel
theorem dX1_one_51 : decode cX1_one 51 = .ok (.sipush 192, 3) := by decide +kernel
theorem dX1_one_54 : decode cX1_one 54 = .ok (.if_icmp .lt 26, 3) := by decide +kernel
theorem dX1_one_57 : decode cX1_one 57 = .ok (.iload_n 1, 1) := by decide +kernel
theorem dX1_one_58 : decode cX1_one 58 = .ok (.sipush 255, 3) := by decide +kernel
theorem dX1_one_61 : decode cX1_one 61 = .ok (.if_icmp .gt 19, 3) := by decide +kernel
theorem dX1_one_64 : decode cX1_one 64 = .ok (.aload_n 0, 1) := by decide +kernel
theorem dX1_one_65 : decode cX1_one 65 = .ok (.iload_n 1, 1) := by decide +kernel
theorem dX1_one_66 : decode cX1_one 66 = .ok (.iload_n 2, 1) := by decide +kernel
theorem dX1_one_67 : decode cX1_one 67 = .ok (.lload_n 3, 1) := by decide +kernel
theorem dX1_one_68 : decode cX1_one 68 = .ok (.lload 6, 2) := by decide +kernel
theorem dX1_one_70 : decode cX1_one 70 = .ok (.iload 8, 2) := by decide +kernel
theorem dX1_one_72 : decode cX1_one 72 = .ok (.invokevirtual 66, 3) := by decide +kernel
theorem dX1_one_75 : decode cX1_one 75 = .ok (.istore 8, 2) := by decide +kernel
theorem dX1_one_77 : decode cX1_one 77 = .ok (.goto 42, 3) := by decide +kernel
theorem dX1_one_80 : decode cX1_one 80 = .ok (.iload_n 1, 1) := by decide +kernel
theorem dX1_one_81 : decode cX1_one 81 = .ok (.sipush 172, 3) := by decide +kernel
theorem dX1_one_84 : decode cX1_one 84 = .ok (.if_icmp .lt 26, 3) := by decide +kernel
theorem dX1_one_87 : decode cX1_one 87 = .ok (.iload_n 1, 1) := by decide +kernel
theorem dX1_one_88 : decode cX1_one 88 = .ok (.sipush 180, 3) := by decide +kernel
theorem dX1_one_91 : decode cX1_one 91 = .ok (.if_icmp .gt 19, 3) := by decide +kernel
theorem dX1_one_94 : decode cX1_one 94 = .ok (.aload_n 0, 1) := by decide +kernel
theorem dX1_one_95 : decode cX1_one 95 = .ok (.iload_n 1, 1) := by decide +kernel
theorem dX1_one_96 : decode cX1_one 96 = .ok (.iload_n 2, 1) := by decide +kernel
theorem dX1_one_97 : decode cX1_one 97 = .ok (.lload_n 3, 1) := by decide +kernel
theorem dX1_one_98 : decode cX1_one 98 = .ok (.lload 6, 2) := by decide +kernel
theorem dX1_one_100 : decode cX1_one 100 = .ok (.iload 8, 2) := by decide +kernel
theorem dX1_one_102 : decode cX1_one 102 = .ok (.invokevirtual 70, 3) := by decide +kernel
theorem dX1_one_105 : decode cX1_one 105 = .ok (.istore 8, 2) := by decide +kernel
theorem dX1_one_107 : decode cX1_one 107 = .ok (.goto 12, 3) := by decide +kernel
theorem dX1_one_110 : decode cX1_one 110 = .ok (.aload_n 0, 1) := by decide +kernel
theorem dX1_one_111 : decode cX1_one 111 = .ok (.iload_n 1, 1) := by decide +kernel
theorem dX1_one_112 : decode cX1_one 112 = .ok (.iload_n 2, 1) := by decide +kernel
theorem dX1_one_113 : decode cX1_one 113 = .ok (.lload_n 3, 1) := by decide +kernel
theorem dX1_one_114 : decode cX1_one 114 = .ok (.lload 6, 2) := by decide +kernel
theorem dX1_one_116 : decode cX1_one 116 = .ok (.invokevirtual 73, 3) := by decide +kernel
theorem dX1_one_119 : decode cX1_one 119 = .ok (.aload_n 0, 1) := by decide +kernel
theorem dX1_one_120 : decode cX1_one 120 = .ok (.getfield 36, 3) := by decide +kernel
theorem dX1_one_123 : decode cX1_one 123 = .ok (.ifCond .ne 9, 3) := by decide +kernel
theorem dX1_one_126 : decode cX1_one 126 = .ok (.aload_n 0, 1) := by decide +kernel
theorem dX1_one_127 : decode cX1_one 127 = .ok (.iload 8, 2) := by decide +kernel
theorem dX1_one_129 : decode cX1_one 129 = .ok (.putfield 33, 3) := by decide +kernel
theorem dX1_one_132 : decode cX1_one 132 = .ok (.return_, 1) := by decide +kernel
theorem dX1_needsWord_0 : decode cX1_needsWord 0 = .ok (.iload_n 0, 1) := by decide +kernel
theorem dX1_needsWord_1 : decode cX1_needsWord 1 = .ok (.sipush 192, 3) := by decide +kernel
theorem dX1_needsWord_4 : decode cX1_needsWord 4 = .ok (.if_icmp .lt 52, 3) := by decide +kernel
theorem dX1_needsWord_7 : decode cX1_needsWord 7 = .ok (.iload_n 0, 1) := by decide +kernel
theorem dX1_needsWord_8 : decode cX1_needsWord 8 = .ok (.sipush 255, 3) := by decide +kernel
theorem dX1_needsWord_11 : decode cX1_needsWord 11 = .ok (.if_icmp .gt 45, 3) := by decide +kernel
theorem dX1_needsWord_14 : decode cX1_needsWord 14 = .ok (.iload_n 0, 1) := by decide +kernel
theorem dX1_needsWord_15 : decode cX1_needsWord 15 = .ok (.bipush 56, 2) := by decide +kernel
theorem dX1_needsWord_17 : decode cX1_needsWord 17 = .ok (.iand, 1) := by decide +kernel
theorem dX1_needsWord_18 : decode cX1_needsWord 18 = .ok (.bipush 8, 2) := by decide +kernel
theorem dX1_needsWord_20 : decode cX1_needsWord 20 = .ok (.if_icmp .eq 30, 3) := by decide +kernel
theorem dX1_needsWord_23 : decode cX1_needsWord 23 = .ok (.iload_n 0, 1) := by decide +kernel
theorem dX1_needsWord_24 : decode cX1_needsWord 24 = .ok (.bipush 56, 2) := by decide +kernel
theorem dX1_needsWord_26 : decode cX1_needsWord 26 = .ok (.iand, 1) := by decide +kernel
theorem dX1_needsWord_27 : decode cX1_needsWord 27 = .ok (.bipush 24, 2) := by decide +kernel
theorem dX1_needsWord_29 : decode cX1_needsWord 29 = .ok (.if_icmp .eq 21, 3) := by decide +kernel
theorem dX1_needsWord_32 : decode cX1_needsWord 32 = .ok (.iload_n 0, 1) := by decide +kernel
theorem dX1_needsWord_33 : decode cX1_needsWord 33 = .ok (.bipush 56, 2) := by decide +kernel
theorem dX1_needsWord_35 : decode cX1_needsWord 35 = .ok (.iand, 1) := by decide +kernel
theorem dX1_needsWord_36 : decode cX1_needsWord 36 = .ok (.bipush 40, 2) := by decide +kernel
theorem dX1_needsWord_38 : decode cX1_needsWord 38 = .ok (.if_icmp .eq 12, 3) := by decide +kernel
theorem dX1_needsWord_41 : decode cX1_needsWord 41 = .ok (.iload_n 0, 1) := by decide +kernel
theorem dX1_needsWord_42 : decode cX1_needsWord 42 = .ok (.bipush 56, 2) := by decide +kernel
theorem dX1_needsWord_44 : decode cX1_needsWord 44 = .ok (.iand, 1) := by decide +kernel
theorem dX1_needsWord_45 : decode cX1_needsWord 45 = .ok (.bipush 56, 2) := by decide +kernel
theorem dX1_needsWord_47 : decode cX1_needsWord 47 = .ok (.if_icmp .ne 7, 3) := by decide +kernel
theorem dX1_needsWord_50 : decode cX1_needsWord 50 = .ok (.iconst 1, 1) := by decide +kernel
theorem dX1_needsWord_51 : decode cX1_needsWord 51 = .ok (.goto 4, 3) := by decide +kernel
theorem dX1_needsWord_54 : decode cX1_needsWord 54 = .ok (.iconst 0, 1) := by decide +kernel
theorem dX1_needsWord_55 : decode cX1_needsWord 55 = .ok (.ireturn, 1) := by decide +kernel
theorem dX1_needsWord_56 : decode cX1_needsWord 56 = .ok (.iload_n 0, 1) := by decide +kernel
theorem dX1_needsWord_57 : decode cX1_needsWord 57 = .ok (.lookupswitch 125 #[(129, 123), (145, 123), (153, 123), (162, 123), (172, 123), (176, 123), (179, 123), (185, 123), (189, 123), (256, 123), (261, 123), (281, 123), (285, 123), (296, 123)], 123) := by decide +kernel
theorem dX1_needsWord_180 : decode cX1_needsWord 180 = .ok (.iconst 0, 1) := by decide +kernel
theorem dX1_needsWord_181 : decode cX1_needsWord 181 = .ok (.ireturn, 1) := by decide +kernel
theorem dX1_needsWord_182 : decode cX1_needsWord 182 = .ok (.iconst 1, 1) := by decide +kernel
theorem dX1_needsWord_183 : decode cX1_needsWord 183 = .ok (.ireturn, 1) := by decide +kernel
set_option maxRecDepth 20000 in
theorem ggX1_tested_X1_number : GoodIn wsX1_tested wsX1_number := goodIn_r _ [7] (by decide +kernel) (by decide +kernel)
set_option maxRecDepth 20000 in
theorem gX1_tested_X1_number : GoodIn wsX1_tested (va_wsS RX1 79 yX1_number wsX1_number) := goodIn_app (goodIn_of _ (by decide +kernel)) ggX1_tested_X1_number
set_option maxRecDepth 20000 in
theorem ggX1_tested_X1_is : GoodIn wsX1_tested wsX1_is := goodIn_r _ [10] (by decide +kernel) (by decide +kernel)
set_option maxRecDepth 20000 in
theorem gX1_tested_X1_is : GoodIn wsX1_tested (va_wsS RX1 82 yX1_is wsX1_is) := goodIn_app (goodIn_of _ (by decide +kernel)) ggX1_tested_X1_is
theorem dX1_tested_0 : decode cX1_tested 0 = .ok (.aload_n 0, 1) := by decide +kernel
theorem dX1_tested_1 : decode cX1_tested 1 = .ok (.getfield 7, 3) := by decide +kernel
theorem dX1_tested_4 : decode cX1_tested 4 = .ok (.iload_n 2, 1) := by decide +kernel
theorem dX1_tested_5 : decode cX1_tested 5 = .ok (.laload, 1) := by decide +kernel
theorem dX1_tested_6 : decode cX1_tested 6 = .ok (.lstore 8, 2) := by decide +kernel
theorem dX1_tested_8 : decode cX1_tested 8 = .ok (.iload 7, 2) := by decide +kernel
theorem dX1_tested_10 : decode cX1_tested 10 = .ok (.iconst 1, 1) := by decide +kernel
theorem dX1_tested_11 : decode cX1_tested 11 = .ok (.iadd, 1) := by decide +kernel
theorem dX1_tested_12 : decode cX1_tested 12 = .ok (.sipush 4095, 3) := by decide +kernel
theorem dX1_tested_15 : decode cX1_tested 15 = .ok (.iand, 1) := by decide +kernel
theorem dX1_tested_16 : decode cX1_tested 16 = .ok (.istore 10, 2) := by decide +kernel
theorem dX1_tested_18 : decode cX1_tested 18 = .ok (.lload_n 3, 1) := by decide +kernel
theorem dX1_tested_19 : decode cX1_tested 19 = .ok (.ldc2_w 77, 3) := by decide +kernel
theorem dX1_tested_22 : decode cX1_tested 22 = .ok (.land, 1) := by decide +kernel
theorem dX1_tested_23 : decode cX1_tested 23 = .ok (.l2i, 1) := by decide +kernel
theorem dX1_tested_24 : decode cX1_tested 24 = .ok (.istore 11, 2) := by decide +kernel
theorem dX1_tested_26 : decode cX1_tested 26 = .ok (.iload_n 1, 1) := by decide +kernel
theorem dX1_tested_27 : decode cX1_tested 27 = .ok (.iconst 3, 1) := by decide +kernel
theorem dX1_tested_28 : decode cX1_tested 28 = .ok (.ishr, 1) := by decide +kernel
theorem dX1_tested_29 : decode cX1_tested 29 = .ok (.bipush 7, 2) := by decide +kernel
theorem dX1_tested_31 : decode cX1_tested 31 = .ok (.iand, 1) := by decide +kernel
theorem dX1_tested_32 : decode cX1_tested 32 = .ok (.tableswitch 192 0 7 #[48, 69, 94, 115, 192, 115, 192, 115], 48) := by decide +kernel
theorem dX1_tested_80 : decode cX1_tested 80 = .ok (.iload_n 1, 1) := by decide +kernel
theorem dX1_tested_81 : decode cX1_tested 81 = .ok (.lload 8, 2) := by decide +kernel
theorem dX1_tested_83 : decode cX1_tested 83 = .ok (.invokestatic 79, 3) := by decide +kernel
theorem dX1_tested_86 : decode cX1_tested 86 = .ok (.lload_n 3, 1) := by decide +kernel
theorem dX1_tested_87 : decode cX1_tested 87 = .ok (.invokestatic 82, 3) := by decide +kernel
theorem dX1_tested_90 : decode cX1_tested 90 = .ok (.ifCond .eq 8, 3) := by decide +kernel
theorem dX1_tested_93 : decode cX1_tested 93 = .ok (.iload 10, 2) := by decide +kernel
theorem dX1_tested_95 : decode cX1_tested 95 = .ok (.goto 5, 3) := by decide +kernel
theorem dX1_tested_98 : decode cX1_tested 98 = .ok (.iload 7, 2) := by decide +kernel
theorem dX1_tested_100 : decode cX1_tested 100 = .ok (.ireturn, 1) := by decide +kernel
theorem dX1_tested_101 : decode cX1_tested 101 = .ok (.iload_n 1, 1) := by decide +kernel
theorem dX1_tested_102 : decode cX1_tested 102 = .ok (.lload 8, 2) := by decide +kernel
theorem dX1_tested_104 : decode cX1_tested 104 = .ok (.invokestatic 79, 3) := by decide +kernel
theorem dX1_tested_107 : decode cX1_tested 107 = .ok (.lload 5, 2) := by decide +kernel
theorem dX1_tested_109 : decode cX1_tested 109 = .ok (.invokestatic 79, 3) := by decide +kernel
theorem dX1_tested_112 : decode cX1_tested 112 = .ok (.invokestatic 82, 3) := by decide +kernel
theorem dX1_tested_115 : decode cX1_tested 115 = .ok (.ifCond .eq 8, 3) := by decide +kernel
theorem dX1_tested_118 : decode cX1_tested 118 = .ok (.iload 10, 2) := by decide +kernel
theorem dX1_tested_120 : decode cX1_tested 120 = .ok (.goto 5, 3) := by decide +kernel
theorem dX1_tested_123 : decode cX1_tested 123 = .ok (.iload 7, 2) := by decide +kernel
theorem dX1_tested_125 : decode cX1_tested 125 = .ok (.ireturn, 1) := by decide +kernel
theorem dX1_tested_126 : decode cX1_tested 126 = .ok (.iload_n 1, 1) := by decide +kernel
theorem dX1_tested_127 : decode cX1_tested 127 = .ok (.lload 8, 2) := by decide +kernel
theorem dX1_tested_129 : decode cX1_tested 129 = .ok (.invokestatic 79, 3) := by decide +kernel
theorem dX1_tested_132 : decode cX1_tested 132 = .ok (.lconst 0, 1) := by decide +kernel
theorem dX1_tested_133 : decode cX1_tested 133 = .ok (.invokestatic 82, 3) := by decide +kernel
theorem dX1_tested_136 : decode cX1_tested 136 = .ok (.ifCond .eq 8, 3) := by decide +kernel
theorem dX1_tested_139 : decode cX1_tested 139 = .ok (.iload 11, 2) := by decide +kernel
theorem dX1_tested_141 : decode cX1_tested 141 = .ok (.goto 5, 3) := by decide +kernel
theorem dX1_tested_144 : decode cX1_tested 144 = .ok (.iload 7, 2) := by decide +kernel
theorem dX1_tested_146 : decode cX1_tested 146 = .ok (.ireturn, 1) := by decide +kernel
theorem dX1_tested_147 : decode cX1_tested 147 = .ok (.lload 5, 2) := by decide +kernel
theorem dX1_tested_149 : decode cX1_tested 149 = .ok (.iload_n 1, 1) := by decide +kernel
theorem dX1_tested_150 : decode cX1_tested 150 = .ok (.iconst 3, 1) := by decide +kernel
theorem dX1_tested_151 : decode cX1_tested 151 = .ok (.ishr, 1) := by decide +kernel
theorem dX1_tested_152 : decode cX1_tested 152 = .ok (.bipush 29, 2) := by decide +kernel
theorem dX1_tested_154 : decode cX1_tested 154 = .ok (.if_icmp .ne 7, 3) := by decide +kernel
theorem dX1_tested_157 : decode cX1_tested 157 = .ok (.iconst 1, 1) := by decide +kernel
theorem dX1_tested_158 : decode cX1_tested 158 = .ok (.goto 16, 3) := by decide +kernel
theorem dX1_tested_161 : decode cX1_tested 161 = .ok (.iload_n 1, 1) := by decide +kernel
theorem dX1_tested_162 : decode cX1_tested 162 = .ok (.iconst 3, 1) := by decide +kernel
theorem dX1_tested_163 : decode cX1_tested 163 = .ok (.ishr, 1) := by decide +kernel
theorem dX1_tested_164 : decode cX1_tested 164 = .ok (.bipush 31, 2) := by decide +kernel
theorem dX1_tested_166 : decode cX1_tested 166 = .ok (.if_icmp .ne 7, 3) := by decide +kernel
theorem dX1_tested_169 : decode cX1_tested 169 = .ok (.iconst (-1), 1) := by decide +kernel
theorem dX1_tested_170 : decode cX1_tested 170 = .ok (.goto 4, 3) := by decide +kernel
theorem dX1_tested_173 : decode cX1_tested 173 = .ok (.iconst 0, 1) := by decide +kernel
theorem dX1_tested_174 : decode cX1_tested 174 = .ok (.i2l, 1) := by decide +kernel
theorem dX1_tested_175 : decode cX1_tested 175 = .ok (.ladd, 1) := by decide +kernel
theorem dX1_tested_176 : decode cX1_tested 176 = .ok (.ldc2_w 27, 3) := by decide +kernel
theorem dX1_tested_179 : decode cX1_tested 179 = .ok (.land, 1) := by decide +kernel
theorem dX1_tested_180 : decode cX1_tested 180 = .ok (.lstore 12, 2) := by decide +kernel
theorem dX1_tested_182 : decode cX1_tested 182 = .ok (.aload_n 0, 1) := by decide +kernel
theorem dX1_tested_183 : decode cX1_tested 183 = .ok (.getfield 7, 3) := by decide +kernel
theorem dX1_tested_186 : decode cX1_tested 186 = .ok (.lload_n 3, 1) := by decide +kernel
theorem dX1_tested_187 : decode cX1_tested 187 = .ok (.l2i, 1) := by decide +kernel
theorem dX1_tested_188 : decode cX1_tested 188 = .ok (.lload 12, 2) := by decide +kernel
theorem dX1_tested_190 : decode cX1_tested 190 = .ok (.lastore, 1) := by decide +kernel
theorem dX1_tested_191 : decode cX1_tested 191 = .ok (.iload_n 2, 1) := by decide +kernel
theorem dX1_tested_192 : decode cX1_tested 192 = .ok (.ifCond .eq 11, 3) := by decide +kernel
theorem dX1_tested_195 : decode cX1_tested 195 = .ok (.aload_n 0, 1) := by decide +kernel
theorem dX1_tested_196 : decode cX1_tested 196 = .ok (.getfield 7, 3) := by decide +kernel
theorem dX1_tested_199 : decode cX1_tested 199 = .ok (.iload_n 2, 1) := by decide +kernel
theorem dX1_tested_200 : decode cX1_tested 200 = .ok (.lload 12, 2) := by decide +kernel
theorem dX1_tested_202 : decode cX1_tested 202 = .ok (.lastore, 1) := by decide +kernel
theorem dX1_tested_203 : decode cX1_tested 203 = .ok (.iload_n 1, 1) := by decide +kernel
theorem dX1_tested_204 : decode cX1_tested 204 = .ok (.lload 12, 2) := by decide +kernel
theorem dX1_tested_206 : decode cX1_tested 206 = .ok (.invokestatic 79, 3) := by decide +kernel
theorem dX1_tested_209 : decode cX1_tested 209 = .ok (.lconst 0, 1) := by decide +kernel
theorem dX1_tested_210 : decode cX1_tested 210 = .ok (.invokestatic 82, 3) := by decide +kernel
theorem dX1_tested_213 : decode cX1_tested 213 = .ok (.ifCond .eq 8, 3) := by decide +kernel
theorem dX1_tested_216 : decode cX1_tested 216 = .ok (.iload 10, 2) := by decide +kernel
theorem dX1_tested_218 : decode cX1_tested 218 = .ok (.goto 5, 3) := by decide +kernel
theorem dX1_tested_221 : decode cX1_tested 221 = .ok (.iload 7, 2) := by decide +kernel
theorem dX1_tested_223 : decode cX1_tested 223 = .ok (.ireturn, 1) := by decide +kernel
theorem dX1_tested_224 : decode cX1_tested 224 = .ok (.lload 8, 2) := by decide +kernel
theorem dX1_tested_226 : decode cX1_tested 226 = .ok (.iload_n 1, 1) := by decide +kernel
theorem dX1_tested_227 : decode cX1_tested 227 = .ok (.iconst 3, 1) := by decide +kernel
theorem dX1_tested_228 : decode cX1_tested 228 = .ok (.ishr, 1) := by decide +kernel
theorem dX1_tested_229 : decode cX1_tested 229 = .ok (.bipush 28, 2) := by decide +kernel
theorem dX1_tested_231 : decode cX1_tested 231 = .ok (.if_icmp .ne 7, 3) := by decide +kernel
theorem dX1_tested_234 : decode cX1_tested 234 = .ok (.iconst 1, 1) := by decide +kernel
theorem dX1_tested_235 : decode cX1_tested 235 = .ok (.goto 4, 3) := by decide +kernel
theorem dX1_tested_238 : decode cX1_tested 238 = .ok (.iconst (-1), 1) := by decide +kernel
theorem dX1_tested_239 : decode cX1_tested 239 = .ok (.i2l, 1) := by decide +kernel
theorem dX1_tested_240 : decode cX1_tested 240 = .ok (.ladd, 1) := by decide +kernel
theorem dX1_tested_241 : decode cX1_tested 241 = .ok (.ldc2_w 27, 3) := by decide +kernel
theorem dX1_tested_244 : decode cX1_tested 244 = .ok (.land, 1) := by decide +kernel
theorem dX1_tested_245 : decode cX1_tested 245 = .ok (.lstore 12, 2) := by decide +kernel
theorem dX1_tested_247 : decode cX1_tested 247 = .ok (.aload_n 0, 1) := by decide +kernel
theorem dX1_tested_248 : decode cX1_tested 248 = .ok (.getfield 7, 3) := by decide +kernel
theorem dX1_tested_251 : decode cX1_tested 251 = .ok (.iload_n 2, 1) := by decide +kernel
theorem dX1_tested_252 : decode cX1_tested 252 = .ok (.lload 12, 2) := by decide +kernel
theorem dX1_tested_254 : decode cX1_tested 254 = .ok (.lastore, 1) := by decide +kernel
theorem dX1_tested_255 : decode cX1_tested 255 = .ok (.iload_n 1, 1) := by decide +kernel
theorem dX1_tested_256 : decode cX1_tested 256 = .ok (.lload 12, 2) := by decide +kernel
theorem dX1_tested_258 : decode cX1_tested 258 = .ok (.invokestatic 79, 3) := by decide +kernel
theorem dX1_tested_261 : decode cX1_tested 261 = .ok (.lconst 0, 1) := by decide +kernel
theorem dX1_tested_262 : decode cX1_tested 262 = .ok (.invokestatic 82, 3) := by decide +kernel
theorem dX1_tested_265 : decode cX1_tested 265 = .ok (.ifCond .eq 8, 3) := by decide +kernel
theorem dX1_tested_268 : decode cX1_tested 268 = .ok (.iload 11, 2) := by decide +kernel
theorem dX1_tested_270 : decode cX1_tested 270 = .ok (.goto 5, 3) := by decide +kernel
theorem dX1_tested_273 : decode cX1_tested 273 = .ok (.iload 7, 2) := by decide +kernel
theorem dX1_tested_275 : decode cX1_tested 275 = .ok (.ireturn, 1) := by decide +kernel
theorem dX1_half_0 : decode cX1_half 0 = .ok (.lload_n 0, 1) := by decide +kernel
theorem dX1_half_1 : decode cX1_half 1 = .ok (.ldc2_w 86, 3) := by decide +kernel
theorem dX1_half_4 : decode cX1_half 4 = .ok (.land, 1) := by decide +kernel
theorem dX1_half_5 : decode cX1_half 5 = .ok (.lload_n 2, 1) := by decide +kernel
theorem dX1_half_6 : decode cX1_half 6 = .ok (.ldc2_w 31, 3) := by decide +kernel
theorem dX1_half_9 : decode cX1_half 9 = .ok (.land, 1) := by decide +kernel
theorem dX1_half_10 : decode cX1_half 10 = .ok (.lor, 1) := by decide +kernel
theorem dX1_half_11 : decode cX1_half 11 = .ok (.lreturn, 1) := by decide +kernel
set_option maxRecDepth 20000 in
theorem ggX1_piled_X1_at : GoodIn wsX1_piled wsX1_at := goodIn_r _ [9, 1, 4, 10, 11, 8, 12, 13, 18, 19, 20, 21, 22, 23] rfl (by decide +kernel)
set_option maxRecDepth 20000 in
theorem gX1_piled_X1_at : GoodIn wsX1_piled (wsV RX1 41 RX1 yX1_at wsX1_at) := goodIn_app (goodIn_of _ (by decide +kernel)) ggX1_piled_X1_at
set_option maxRecDepth 20000 in
theorem ggX1_piled_X1_half : GoodIn wsX1_piled wsX1_half := goodIn_r _ [16, 17, 3] (by decide +kernel) (by decide +kernel)
set_option maxRecDepth 20000 in
theorem gX1_piled_X1_half : GoodIn wsX1_piled (va_wsS RX1 88 yX1_half wsX1_half) := goodIn_app (goodIn_of _ (by decide +kernel)) ggX1_piled_X1_half
theorem dX1_piled_0 : decode cX1_piled 0 = .ok (.aload_n 0, 1) := by decide +kernel
theorem dX1_piled_1 : decode cX1_piled 1 = .ok (.getfield 7, 3) := by decide +kernel
theorem dX1_piled_4 : decode cX1_piled 4 = .ok (.iload_n 2, 1) := by decide +kernel
theorem dX1_piled_5 : decode cX1_piled 5 = .ok (.laload, 1) := by decide +kernel
theorem dX1_piled_6 : decode cX1_piled 6 = .ok (.lstore 8, 2) := by decide +kernel
theorem dX1_piled_8 : decode cX1_piled 8 = .ok (.iload_n 1, 1) := by decide +kernel
theorem dX1_piled_9 : decode cX1_piled 9 = .ok (.tableswitch 236 172 179 #[47, 236, 236, 236, 54, 54, 136, 192], 47) := by decide +kernel
theorem dX1_piled_56 : decode cX1_piled 56 = .ok (.lload_n 3, 1) := by decide +kernel
theorem dX1_piled_57 : decode cX1_piled 57 = .ok (.ldc2_w 77, 3) := by decide +kernel
theorem dX1_piled_60 : decode cX1_piled 60 = .ok (.land, 1) := by decide +kernel
theorem dX1_piled_61 : decode cX1_piled 61 = .ok (.l2i, 1) := by decide +kernel
theorem dX1_piled_62 : decode cX1_piled 62 = .ok (.ireturn, 1) := by decide +kernel
theorem dX1_piled_63 : decode cX1_piled 63 = .ok (.lload 8, 2) := by decide +kernel
theorem dX1_piled_65 : decode cX1_piled 65 = .ok (.lconst 1, 1) := by decide +kernel
theorem dX1_piled_66 : decode cX1_piled 66 = .ok (.ladd, 1) := by decide +kernel
theorem dX1_piled_67 : decode cX1_piled 67 = .ok (.ldc2_w 31, 3) := by decide +kernel
theorem dX1_piled_70 : decode cX1_piled 70 = .ok (.land, 1) := by decide +kernel
theorem dX1_piled_71 : decode cX1_piled 71 = .ok (.lstore 10, 2) := by decide +kernel
theorem dX1_piled_73 : decode cX1_piled 73 = .ok (.aload_n 0, 1) := by decide +kernel
theorem dX1_piled_74 : decode cX1_piled 74 = .ok (.lload 10, 2) := by decide +kernel
theorem dX1_piled_76 : decode cX1_piled 76 = .ok (.invokevirtual 41, 3) := by decide +kernel
theorem dX1_piled_79 : decode cX1_piled 79 = .ok (.lstore 12, 2) := by decide +kernel
theorem dX1_piled_81 : decode cX1_piled 81 = .ok (.aload_n 0, 1) := by decide +kernel
theorem dX1_piled_82 : decode cX1_piled 82 = .ok (.getfield 36, 3) := by decide +kernel
theorem dX1_piled_85 : decode cX1_piled 85 = .ok (.ifCond .eq 5, 3) := by decide +kernel
theorem dX1_piled_88 : decode cX1_piled 88 = .ok (.iconst 0, 1) := by decide +kernel
theorem dX1_piled_89 : decode cX1_piled 89 = .ok (.ireturn, 1) := by decide +kernel
theorem dX1_piled_90 : decode cX1_piled 90 = .ok (.aload_n 0, 1) := by decide +kernel
theorem dX1_piled_91 : decode cX1_piled 91 = .ok (.getfield 7, 3) := by decide +kernel
theorem dX1_piled_94 : decode cX1_piled 94 = .ok (.iload_n 2, 1) := by decide +kernel
theorem dX1_piled_95 : decode cX1_piled 95 = .ok (.lload 8, 2) := by decide +kernel
theorem dX1_piled_97 : decode cX1_piled 97 = .ok (.lload 10, 2) := by decide +kernel
theorem dX1_piled_99 : decode cX1_piled 99 = .ok (.invokestatic 88, 3) := by decide +kernel
theorem dX1_piled_102 : decode cX1_piled 102 = .ok (.lastore, 1) := by decide +kernel
theorem dX1_piled_103 : decode cX1_piled 103 = .ok (.aload_n 0, 1) := by decide +kernel
theorem dX1_piled_104 : decode cX1_piled 104 = .ok (.getfield 7, 3) := by decide +kernel
theorem dX1_piled_107 : decode cX1_piled 107 = .ok (.lload 10, 2) := by decide +kernel
theorem dX1_piled_109 : decode cX1_piled 109 = .ok (.l2i, 1) := by decide +kernel
theorem dX1_piled_110 : decode cX1_piled 110 = .ok (.iload_n 1, 1) := by decide +kernel
theorem dX1_piled_111 : decode cX1_piled 111 = .ok (.sipush 176, 3) := by decide +kernel
theorem dX1_piled_114 : decode cX1_piled 114 = .ok (.if_icmp .ne 9, 3) := by decide +kernel
theorem dX1_piled_117 : decode cX1_piled 117 = .ok (.iload 7, 2) := by decide +kernel
theorem dX1_piled_119 : decode cX1_piled 119 = .ok (.i2l, 1) := by decide +kernel
theorem dX1_piled_120 : decode cX1_piled 120 = .ok (.goto 5, 3) := by decide +kernel
theorem dX1_piled_123 : decode cX1_piled 123 = .ok (.lload 5, 2) := by decide +kernel
theorem dX1_piled_125 : decode cX1_piled 125 = .ok (.lastore, 1) := by decide +kernel
theorem dX1_piled_126 : decode cX1_piled 126 = .ok (.iload_n 1, 1) := by decide +kernel
theorem dX1_piled_127 : decode cX1_piled 127 = .ok (.sipush 176, 3) := by decide +kernel
theorem dX1_piled_130 : decode cX1_piled 130 = .ok (.if_icmp .ne 12, 3) := by decide +kernel
theorem dX1_piled_133 : decode cX1_piled 133 = .ok (.lload_n 3, 1) := by decide +kernel
theorem dX1_piled_134 : decode cX1_piled 134 = .ok (.ldc2_w 77, 3) := by decide +kernel
theorem dX1_piled_137 : decode cX1_piled 137 = .ok (.land, 1) := by decide +kernel
theorem dX1_piled_138 : decode cX1_piled 138 = .ok (.l2i, 1) := by decide +kernel
theorem dX1_piled_139 : decode cX1_piled 139 = .ok (.goto 5, 3) := by decide +kernel
theorem dX1_piled_142 : decode cX1_piled 142 = .ok (.iload 7, 2) := by decide +kernel
theorem dX1_piled_144 : decode cX1_piled 144 = .ok (.ireturn, 1) := by decide +kernel
theorem dX1_piled_145 : decode cX1_piled 145 = .ok (.aload_n 0, 1) := by decide +kernel
theorem dX1_piled_146 : decode cX1_piled 146 = .ok (.lload 8, 2) := by decide +kernel
theorem dX1_piled_148 : decode cX1_piled 148 = .ok (.ldc2_w 31, 3) := by decide +kernel
theorem dX1_piled_151 : decode cX1_piled 151 = .ok (.land, 1) := by decide +kernel
theorem dX1_piled_152 : decode cX1_piled 152 = .ok (.invokevirtual 41, 3) := by decide +kernel
theorem dX1_piled_155 : decode cX1_piled 155 = .ok (.lstore 10, 2) := by decide +kernel
theorem dX1_piled_157 : decode cX1_piled 157 = .ok (.aload_n 0, 1) := by decide +kernel
theorem dX1_piled_158 : decode cX1_piled 158 = .ok (.getfield 36, 3) := by decide +kernel
theorem dX1_piled_161 : decode cX1_piled 161 = .ok (.ifCond .eq 5, 3) := by decide +kernel
theorem dX1_piled_164 : decode cX1_piled 164 = .ok (.iconst 0, 1) := by decide +kernel
theorem dX1_piled_165 : decode cX1_piled 165 = .ok (.ireturn, 1) := by decide +kernel
theorem dX1_piled_166 : decode cX1_piled 166 = .ok (.aload_n 0, 1) := by decide +kernel
theorem dX1_piled_167 : decode cX1_piled 167 = .ok (.getfield 7, 3) := by decide +kernel
theorem dX1_piled_170 : decode cX1_piled 170 = .ok (.lload_n 3, 1) := by decide +kernel
theorem dX1_piled_171 : decode cX1_piled 171 = .ok (.l2i, 1) := by decide +kernel
theorem dX1_piled_172 : decode cX1_piled 172 = .ok (.lload 10, 2) := by decide +kernel
theorem dX1_piled_174 : decode cX1_piled 174 = .ok (.lastore, 1) := by decide +kernel
theorem dX1_piled_175 : decode cX1_piled 175 = .ok (.aload_n 0, 1) := by decide +kernel
theorem dX1_piled_176 : decode cX1_piled 176 = .ok (.getfield 7, 3) := by decide +kernel
theorem dX1_piled_179 : decode cX1_piled 179 = .ok (.iload_n 2, 1) := by decide +kernel
theorem dX1_piled_180 : decode cX1_piled 180 = .ok (.aload_n 0, 1) := by decide +kernel
theorem dX1_piled_181 : decode cX1_piled 181 = .ok (.getfield 7, 3) := by decide +kernel
theorem dX1_piled_184 : decode cX1_piled 184 = .ok (.iload_n 2, 1) := by decide +kernel
theorem dX1_piled_185 : decode cX1_piled 185 = .ok (.laload, 1) := by decide +kernel
theorem dX1_piled_186 : decode cX1_piled 186 = .ok (.aload_n 0, 1) := by decide +kernel
theorem dX1_piled_187 : decode cX1_piled 187 = .ok (.getfield 7, 3) := by decide +kernel
theorem dX1_piled_190 : decode cX1_piled 190 = .ok (.iload_n 2, 1) := by decide +kernel
theorem dX1_piled_191 : decode cX1_piled 191 = .ok (.laload, 1) := by decide +kernel
theorem dX1_piled_192 : decode cX1_piled 192 = .ok (.lconst 1, 1) := by decide +kernel
theorem dX1_piled_193 : decode cX1_piled 193 = .ok (.lsub, 1) := by decide +kernel
theorem dX1_piled_194 : decode cX1_piled 194 = .ok (.invokestatic 88, 3) := by decide +kernel
theorem dX1_piled_197 : decode cX1_piled 197 = .ok (.lastore, 1) := by decide +kernel
theorem dX1_piled_198 : decode cX1_piled 198 = .ok (.iload 7, 2) := by decide +kernel
theorem dX1_piled_200 : decode cX1_piled 200 = .ok (.ireturn, 1) := by decide +kernel
theorem dX1_piled_201 : decode cX1_piled 201 = .ok (.aload_n 0, 1) := by decide +kernel
theorem dX1_piled_202 : decode cX1_piled 202 = .ok (.lload 8, 2) := by decide +kernel
theorem dX1_piled_204 : decode cX1_piled 204 = .ok (.ldc2_w 31, 3) := by decide +kernel
theorem dX1_piled_207 : decode cX1_piled 207 = .ok (.land, 1) := by decide +kernel
theorem dX1_piled_208 : decode cX1_piled 208 = .ok (.invokevirtual 41, 3) := by decide +kernel
theorem dX1_piled_211 : decode cX1_piled 211 = .ok (.lstore 10, 2) := by decide +kernel
theorem dX1_piled_213 : decode cX1_piled 213 = .ok (.aload_n 0, 1) := by decide +kernel
theorem dX1_piled_214 : decode cX1_piled 214 = .ok (.getfield 36, 3) := by decide +kernel
theorem dX1_piled_217 : decode cX1_piled 217 = .ok (.ifCond .eq 5, 3) := by decide +kernel
theorem dX1_piled_220 : decode cX1_piled 220 = .ok (.iconst 0, 1) := by decide +kernel
theorem dX1_piled_221 : decode cX1_piled 221 = .ok (.ireturn, 1) := by decide +kernel
theorem dX1_piled_222 : decode cX1_piled 222 = .ok (.aload_n 0, 1) := by decide +kernel
theorem dX1_piled_223 : decode cX1_piled 223 = .ok (.getfield 7, 3) := by decide +kernel
theorem dX1_piled_226 : decode cX1_piled 226 = .ok (.iload_n 2, 1) := by decide +kernel
theorem dX1_piled_227 : decode cX1_piled 227 = .ok (.lload 8, 2) := by decide +kernel
theorem dX1_piled_229 : decode cX1_piled 229 = .ok (.lload 8, 2) := by decide +kernel
theorem dX1_piled_231 : decode cX1_piled 231 = .ok (.lconst 1, 1) := by decide +kernel
theorem dX1_piled_232 : decode cX1_piled 232 = .ok (.lsub, 1) := by decide +kernel
theorem dX1_piled_233 : decode cX1_piled 233 = .ok (.invokestatic 88, 3) := by decide +kernel
theorem dX1_piled_236 : decode cX1_piled 236 = .ok (.lastore, 1) := by decide +kernel
theorem dX1_piled_237 : decode cX1_piled 237 = .ok (.lload 10, 2) := by decide +kernel
theorem dX1_piled_239 : decode cX1_piled 239 = .ok (.ldc2_w 77, 3) := by decide +kernel
theorem dX1_piled_242 : decode cX1_piled 242 = .ok (.land, 1) := by decide +kernel
theorem dX1_piled_243 : decode cX1_piled 243 = .ok (.l2i, 1) := by decide +kernel
theorem dX1_piled_244 : decode cX1_piled 244 = .ok (.ireturn, 1) := by decide +kernel
theorem dX1_piled_245 : decode cX1_piled 245 = .ok (.aload_n 0, 1) := by decide +kernel
theorem dX1_piled_246 : decode cX1_piled 246 = .ok (.getfield 7, 3) := by decide +kernel
theorem dX1_piled_249 : decode cX1_piled 249 = .ok (.lload_n 3, 1) := by decide +kernel
theorem dX1_piled_250 : decode cX1_piled 250 = .ok (.l2i, 1) := by decide +kernel
theorem dX1_piled_251 : decode cX1_piled 251 = .ok (.iload 7, 2) := by decide +kernel
theorem dX1_piled_253 : decode cX1_piled 253 = .ok (.i2l, 1) := by decide +kernel
theorem dX1_piled_254 : decode cX1_piled 254 = .ok (.lastore, 1) := by decide +kernel
theorem dX1_piled_255 : decode cX1_piled 255 = .ok (.lload_n 3, 1) := by decide +kernel
theorem dX1_piled_256 : decode cX1_piled 256 = .ok (.lconst 1, 1) := by decide +kernel
theorem dX1_piled_257 : decode cX1_piled 257 = .ok (.ladd, 1) := by decide +kernel
theorem dX1_piled_258 : decode cX1_piled 258 = .ok (.ldc2_w 77, 3) := by decide +kernel
theorem dX1_piled_261 : decode cX1_piled 261 = .ok (.land, 1) := by decide +kernel
theorem dX1_piled_262 : decode cX1_piled 262 = .ok (.l2i, 1) := by decide +kernel
theorem dX1_piled_263 : decode cX1_piled 263 = .ok (.ireturn, 1) := by decide +kernel
set_option maxRecDepth 20000 in
theorem ggX1_moved_X1_number : GoodIn wsX1_moved wsX1_number := goodIn_r _ [9] (by decide +kernel) (by decide +kernel)
set_option maxRecDepth 20000 in
theorem gX1_moved_X1_number : GoodIn wsX1_moved (va_wsS RX1 79 yX1_number wsX1_number) := goodIn_app (goodIn_of _ (by decide +kernel)) ggX1_moved_X1_number
set_option maxRecDepth 20000 in
theorem ggX1_moved_X1_divided : GoodIn wsX1_moved wsX1_divided := goodIn_r _ [13, 14, 15, 16, 1, 3, 25, 26, 27, 28, 29, 30] (by decide +kernel) (by decide +kernel)
set_option maxRecDepth 20000 in
theorem gX1_moved_X1_divided : GoodIn wsX1_moved (wsV RX1 92 RX1 yX1_divided wsX1_divided) := goodIn_app (goodIn_of _ (by decide +kernel)) ggX1_moved_X1_divided
set_option maxRecDepth 20000 in
theorem ggX1_moved_X1_bits : GoodIn wsX1_moved wsX1_bits := goodIn_r _ [20, 1, 15, 3, 2, 21, 22, 8, 23, 24, 25, 26, 27, 28, 29, 30] rfl (by decide +kernel)
set_option maxRecDepth 20000 in
theorem gX1_moved_X1_bits : GoodIn wsX1_moved (wsV RX1 100 RX1 yX1_bits wsX1_bits) := goodIn_app (goodIn_of _ (by decide +kernel)) ggX1_moved_X1_bits
theorem dX1_moved_0 : decode cX1_moved 0 = .ok (.aload_n 0, 1) := by decide +kernel
theorem dX1_moved_1 : decode cX1_moved 1 = .ok (.getfield 7, 3) := by decide +kernel
theorem dX1_moved_4 : decode cX1_moved 4 = .ok (.iload_n 2, 1) := by decide +kernel
theorem dX1_moved_5 : decode cX1_moved 5 = .ok (.laload, 1) := by decide +kernel
theorem dX1_moved_6 : decode cX1_moved 6 = .ok (.lstore 7, 2) := by decide +kernel
theorem dX1_moved_8 : decode cX1_moved 8 = .ok (.iload_n 1, 1) := by decide +kernel
theorem dX1_moved_9 : decode cX1_moved 9 = .ok (.lookupswitch 489 #[(128, 155), (129, 166), (130, 176), (132, 188), (136, 212), (140, 228), (144, 279), (145, 279), (152, 314), (153, 314), (162, 343), (168, 259), (184, 410), (185, 410), (188, 439), (189, 439), (256, 468), (258, 478)], 155) := by decide +kernel
theorem dX1_moved_164 : decode cX1_moved 164 = .ok (.aload_n 0, 1) := by decide +kernel
theorem dX1_moved_165 : decode cX1_moved 165 = .ok (.getfield 7, 3) := by decide +kernel
theorem dX1_moved_168 : decode cX1_moved 168 = .ok (.iload_n 2, 1) := by decide +kernel
theorem dX1_moved_169 : decode cX1_moved 169 = .ok (.lload 5, 2) := by decide +kernel
theorem dX1_moved_171 : decode cX1_moved 171 = .ok (.lastore, 1) := by decide +kernel
theorem dX1_moved_172 : decode cX1_moved 172 = .ok (.goto 361, 3) := by decide +kernel
theorem dX1_moved_175 : decode cX1_moved 175 = .ok (.aload_n 0, 1) := by decide +kernel
theorem dX1_moved_176 : decode cX1_moved 176 = .ok (.getfield 7, 3) := by decide +kernel
theorem dX1_moved_179 : decode cX1_moved 179 = .ok (.iload_n 2, 1) := by decide +kernel
theorem dX1_moved_180 : decode cX1_moved 180 = .ok (.lload_n 3, 1) := by decide +kernel
theorem dX1_moved_181 : decode cX1_moved 181 = .ok (.lastore, 1) := by decide +kernel
theorem dX1_moved_182 : decode cX1_moved 182 = .ok (.goto 351, 3) := by decide +kernel
theorem dX1_moved_185 : decode cX1_moved 185 = .ok (.aload_n 0, 1) := by decide +kernel
theorem dX1_moved_186 : decode cX1_moved 186 = .ok (.getfield 7, 3) := by decide +kernel
theorem dX1_moved_189 : decode cX1_moved 189 = .ok (.lload_n 3, 1) := by decide +kernel
theorem dX1_moved_190 : decode cX1_moved 190 = .ok (.l2i, 1) := by decide +kernel
theorem dX1_moved_191 : decode cX1_moved 191 = .ok (.lload 7, 2) := by decide +kernel
theorem dX1_moved_193 : decode cX1_moved 193 = .ok (.lastore, 1) := by decide +kernel
theorem dX1_moved_194 : decode cX1_moved 194 = .ok (.goto 339, 3) := by decide +kernel
theorem dX1_moved_197 : decode cX1_moved 197 = .ok (.aload_n 0, 1) := by decide +kernel
theorem dX1_moved_198 : decode cX1_moved 198 = .ok (.getfield 7, 3) := by decide +kernel
theorem dX1_moved_201 : decode cX1_moved 201 = .ok (.iload_n 2, 1) := by decide +kernel
theorem dX1_moved_202 : decode cX1_moved 202 = .ok (.lload 5, 2) := by decide +kernel
theorem dX1_moved_204 : decode cX1_moved 204 = .ok (.ldc2_w 31, 3) := by decide +kernel
theorem dX1_moved_207 : decode cX1_moved 207 = .ok (.land, 1) := by decide +kernel
theorem dX1_moved_208 : decode cX1_moved 208 = .ok (.bipush 18, 2) := by decide +kernel
theorem dX1_moved_210 : decode cX1_moved 210 = .ok (.lshl, 1) := by decide +kernel
theorem dX1_moved_211 : decode cX1_moved 211 = .ok (.lload 5, 2) := by decide +kernel
theorem dX1_moved_213 : decode cX1_moved 213 = .ok (.bipush 18, 2) := by decide +kernel
theorem dX1_moved_215 : decode cX1_moved 215 = .ok (.lshr, 1) := by decide +kernel
theorem dX1_moved_216 : decode cX1_moved 216 = .ok (.lor, 1) := by decide +kernel
theorem dX1_moved_217 : decode cX1_moved 217 = .ok (.lastore, 1) := by decide +kernel
theorem dX1_moved_218 : decode cX1_moved 218 = .ok (.goto 315, 3) := by decide +kernel
theorem dX1_moved_221 : decode cX1_moved 221 = .ok (.aload_n 0, 1) := by decide +kernel
theorem dX1_moved_222 : decode cX1_moved 222 = .ok (.getfield 7, 3) := by decide +kernel
theorem dX1_moved_225 : decode cX1_moved 225 = .ok (.iload_n 2, 1) := by decide +kernel
theorem dX1_moved_226 : decode cX1_moved 226 = .ok (.lload 5, 2) := by decide +kernel
theorem dX1_moved_228 : decode cX1_moved 228 = .ok (.lneg, 1) := by decide +kernel
theorem dX1_moved_229 : decode cX1_moved 229 = .ok (.ldc2_w 27, 3) := by decide +kernel
theorem dX1_moved_232 : decode cX1_moved 232 = .ok (.land, 1) := by decide +kernel
theorem dX1_moved_233 : decode cX1_moved 233 = .ok (.lastore, 1) := by decide +kernel
theorem dX1_moved_234 : decode cX1_moved 234 = .ok (.goto 299, 3) := by decide +kernel
theorem dX1_moved_237 : decode cX1_moved 237 = .ok (.aload_n 0, 1) := by decide +kernel
theorem dX1_moved_238 : decode cX1_moved 238 = .ok (.getfield 7, 3) := by decide +kernel
theorem dX1_moved_241 : decode cX1_moved 241 = .ok (.iload_n 2, 1) := by decide +kernel
theorem dX1_moved_242 : decode cX1_moved 242 = .ok (.lload 5, 2) := by decide +kernel
theorem dX1_moved_244 : decode cX1_moved 244 = .ok (.invokestatic 79, 3) := by decide +kernel
theorem dX1_moved_247 : decode cX1_moved 247 = .ok (.lconst 0, 1) := by decide +kernel
theorem dX1_moved_248 : decode cX1_moved 248 = .ok (.lcmp, 1) := by decide +kernel
theorem dX1_moved_249 : decode cX1_moved 249 = .ok (.ifCond .ge 13, 3) := by decide +kernel
theorem dX1_moved_252 : decode cX1_moved 252 = .ok (.lload 5, 2) := by decide +kernel
theorem dX1_moved_254 : decode cX1_moved 254 = .ok (.lneg, 1) := by decide +kernel
theorem dX1_moved_255 : decode cX1_moved 255 = .ok (.ldc2_w 27, 3) := by decide +kernel
theorem dX1_moved_258 : decode cX1_moved 258 = .ok (.land, 1) := by decide +kernel
theorem dX1_moved_259 : decode cX1_moved 259 = .ok (.goto 5, 3) := by decide +kernel
theorem dX1_moved_262 : decode cX1_moved 262 = .ok (.lload 5, 2) := by decide +kernel
theorem dX1_moved_264 : decode cX1_moved 264 = .ok (.lastore, 1) := by decide +kernel
theorem dX1_moved_265 : decode cX1_moved 265 = .ok (.goto 268, 3) := by decide +kernel
theorem dX1_moved_268 : decode cX1_moved 268 = .ok (.aload_n 0, 1) := by decide +kernel
theorem dX1_moved_269 : decode cX1_moved 269 = .ok (.getfield 7, 3) := by decide +kernel
theorem dX1_moved_272 : decode cX1_moved 272 = .ok (.iload_n 2, 1) := by decide +kernel
theorem dX1_moved_273 : decode cX1_moved 273 = .ok (.lload 5, 2) := by decide +kernel
theorem dX1_moved_275 : decode cX1_moved 275 = .ok (.lastore, 1) := by decide +kernel
theorem dX1_moved_276 : decode cX1_moved 276 = .ok (.aload_n 0, 1) := by decide +kernel
theorem dX1_moved_277 : decode cX1_moved 277 = .ok (.getfield 7, 3) := by decide +kernel
theorem dX1_moved_280 : decode cX1_moved 280 = .ok (.lload_n 3, 1) := by decide +kernel
theorem dX1_moved_281 : decode cX1_moved 281 = .ok (.l2i, 1) := by decide +kernel
theorem dX1_moved_282 : decode cX1_moved 282 = .ok (.lload 7, 2) := by decide +kernel
theorem dX1_moved_284 : decode cX1_moved 284 = .ok (.lastore, 1) := by decide +kernel
theorem dX1_moved_285 : decode cX1_moved 285 = .ok (.goto 248, 3) := by decide +kernel
theorem dX1_moved_288 : decode cX1_moved 288 = .ok (.aload_n 0, 1) := by decide +kernel
theorem dX1_moved_289 : decode cX1_moved 289 = .ok (.getfield 7, 3) := by decide +kernel
theorem dX1_moved_292 : decode cX1_moved 292 = .ok (.iload_n 2, 1) := by decide +kernel
theorem dX1_moved_293 : decode cX1_moved 293 = .ok (.lload 7, 2) := by decide +kernel
theorem dX1_moved_295 : decode cX1_moved 295 = .ok (.invokestatic 79, 3) := by decide +kernel
theorem dX1_moved_298 : decode cX1_moved 298 = .ok (.iload_n 1, 1) := by decide +kernel
theorem dX1_moved_299 : decode cX1_moved 299 = .ok (.sipush 144, 3) := by decide +kernel
theorem dX1_moved_302 : decode cX1_moved 302 = .ok (.if_icmp .ne 11, 3) := by decide +kernel
theorem dX1_moved_305 : decode cX1_moved 305 = .ok (.lload 5, 2) := by decide +kernel
theorem dX1_moved_307 : decode cX1_moved 307 = .ok (.invokestatic 79, 3) := by decide +kernel
theorem dX1_moved_310 : decode cX1_moved 310 = .ok (.goto 4, 3) := by decide +kernel
theorem dX1_moved_313 : decode cX1_moved 313 = .ok (.lload_n 3, 1) := by decide +kernel
theorem dX1_moved_314 : decode cX1_moved 314 = .ok (.lmul, 1) := by decide +kernel
theorem dX1_moved_315 : decode cX1_moved 315 = .ok (.ldc2_w 27, 3) := by decide +kernel
theorem dX1_moved_318 : decode cX1_moved 318 = .ok (.land, 1) := by decide +kernel
theorem dX1_moved_319 : decode cX1_moved 319 = .ok (.lastore, 1) := by decide +kernel
theorem dX1_moved_320 : decode cX1_moved 320 = .ok (.goto 213, 3) := by decide +kernel
theorem dX1_moved_323 : decode cX1_moved 323 = .ok (.aload_n 0, 1) := by decide +kernel
theorem dX1_moved_324 : decode cX1_moved 324 = .ok (.iload_n 2, 1) := by decide +kernel
theorem dX1_moved_325 : decode cX1_moved 325 = .ok (.lload 7, 2) := by decide +kernel
theorem dX1_moved_327 : decode cX1_moved 327 = .ok (.invokestatic 79, 3) := by decide +kernel
theorem dX1_moved_330 : decode cX1_moved 330 = .ok (.iload_n 1, 1) := by decide +kernel
theorem dX1_moved_331 : decode cX1_moved 331 = .ok (.sipush 152, 3) := by decide +kernel
theorem dX1_moved_334 : decode cX1_moved 334 = .ok (.if_icmp .ne 11, 3) := by decide +kernel
theorem dX1_moved_337 : decode cX1_moved 337 = .ok (.lload 5, 2) := by decide +kernel
theorem dX1_moved_339 : decode cX1_moved 339 = .ok (.invokestatic 79, 3) := by decide +kernel
theorem dX1_moved_342 : decode cX1_moved 342 = .ok (.goto 4, 3) := by decide +kernel
theorem dX1_moved_345 : decode cX1_moved 345 = .ok (.lload_n 3, 1) := by decide +kernel
theorem dX1_moved_346 : decode cX1_moved 346 = .ok (.invokevirtual 92, 3) := by decide +kernel
theorem dX1_moved_349 : decode cX1_moved 349 = .ok (.goto 184, 3) := by decide +kernel
theorem dX1_moved_352 : decode cX1_moved 352 = .ok (.lload_n 3, 1) := by decide +kernel
theorem dX1_moved_353 : decode cX1_moved 353 = .ok (.bipush 46, 2) := by decide +kernel
theorem dX1_moved_355 : decode cX1_moved 355 = .ok (.lshl, 1) := by decide +kernel
theorem dX1_moved_356 : decode cX1_moved 356 = .ok (.bipush 46, 2) := by decide +kernel
theorem dX1_moved_358 : decode cX1_moved 358 = .ok (.lshr, 1) := by decide +kernel
theorem dX1_moved_359 : decode cX1_moved 359 = .ok (.lstore 9, 2) := by decide +kernel
theorem dX1_moved_361 : decode cX1_moved 361 = .ok (.aload_n 0, 1) := by decide +kernel
theorem dX1_moved_362 : decode cX1_moved 362 = .ok (.getfield 7, 3) := by decide +kernel
theorem dX1_moved_365 : decode cX1_moved 365 = .ok (.iload_n 2, 1) := by decide +kernel
theorem dX1_moved_366 : decode cX1_moved 366 = .ok (.lload 9, 2) := by decide +kernel
theorem dX1_moved_368 : decode cX1_moved 368 = .ok (.ldc2_w 96, 3) := by decide +kernel
theorem dX1_moved_371 : decode cX1_moved 371 = .ok (.lcmp, 1) := by decide +kernel
theorem dX1_moved_372 : decode cX1_moved 372 = .ok (.ifCond .ge 12, 3) := by decide +kernel
theorem dX1_moved_375 : decode cX1_moved 375 = .ok (.lload 9, 2) := by decide +kernel
theorem dX1_moved_377 : decode cX1_moved 377 = .ok (.ldc2_w 98, 3) := by decide +kernel
theorem dX1_moved_380 : decode cX1_moved 380 = .ok (.lcmp, 1) := by decide +kernel
theorem dX1_moved_381 : decode cX1_moved 381 = .ok (.ifCond .gt 7, 3) := by decide +kernel
theorem dX1_moved_384 : decode cX1_moved 384 = .ok (.lconst 0, 1) := by decide +kernel
theorem dX1_moved_385 : decode cX1_moved 385 = .ok (.goto 30, 3) := by decide +kernel
theorem dX1_moved_388 : decode cX1_moved 388 = .ok (.lload 9, 2) := by decide +kernel
theorem dX1_moved_390 : decode cX1_moved 390 = .ok (.lconst 0, 1) := by decide +kernel
theorem dX1_moved_391 : decode cX1_moved 391 = .ok (.lcmp, 1) := by decide +kernel
theorem dX1_moved_392 : decode cX1_moved 392 = .ok (.ifCond .lt 16, 3) := by decide +kernel
theorem dX1_moved_395 : decode cX1_moved 395 = .ok (.lload 7, 2) := by decide +kernel
theorem dX1_moved_397 : decode cX1_moved 397 = .ok (.lload 9, 2) := by decide +kernel
theorem dX1_moved_399 : decode cX1_moved 399 = .ok (.l2i, 1) := by decide +kernel
theorem dX1_moved_400 : decode cX1_moved 400 = .ok (.lshl, 1) := by decide +kernel
theorem dX1_moved_401 : decode cX1_moved 401 = .ok (.ldc2_w 27, 3) := by decide +kernel
theorem dX1_moved_404 : decode cX1_moved 404 = .ok (.land, 1) := by decide +kernel
theorem dX1_moved_405 : decode cX1_moved 405 = .ok (.goto 10, 3) := by decide +kernel
theorem dX1_moved_408 : decode cX1_moved 408 = .ok (.lload 7, 2) := by decide +kernel
theorem dX1_moved_410 : decode cX1_moved 410 = .ok (.lload 9, 2) := by decide +kernel
theorem dX1_moved_412 : decode cX1_moved 412 = .ok (.lneg, 1) := by decide +kernel
theorem dX1_moved_413 : decode cX1_moved 413 = .ok (.l2i, 1) := by decide +kernel
theorem dX1_moved_414 : decode cX1_moved 414 = .ok (.lshr, 1) := by decide +kernel
theorem dX1_moved_415 : decode cX1_moved 415 = .ok (.lastore, 1) := by decide +kernel
theorem dX1_moved_416 : decode cX1_moved 416 = .ok (.goto 117, 3) := by decide +kernel
theorem dX1_moved_419 : decode cX1_moved 419 = .ok (.aload_n 0, 1) := by decide +kernel
theorem dX1_moved_420 : decode cX1_moved 420 = .ok (.getfield 7, 3) := by decide +kernel
theorem dX1_moved_423 : decode cX1_moved 423 = .ok (.iload_n 2, 1) := by decide +kernel
theorem dX1_moved_424 : decode cX1_moved 424 = .ok (.lload 7, 2) := by decide +kernel
theorem dX1_moved_426 : decode cX1_moved 426 = .ok (.iload_n 1, 1) := by decide +kernel
theorem dX1_moved_427 : decode cX1_moved 427 = .ok (.sipush 184, 3) := by decide +kernel
theorem dX1_moved_430 : decode cX1_moved 430 = .ok (.if_icmp .ne 8, 3) := by decide +kernel
theorem dX1_moved_433 : decode cX1_moved 433 = .ok (.lload 5, 2) := by decide +kernel
theorem dX1_moved_435 : decode cX1_moved 435 = .ok (.goto 4, 3) := by decide +kernel
theorem dX1_moved_438 : decode cX1_moved 438 = .ok (.lload_n 3, 1) := by decide +kernel
theorem dX1_moved_439 : decode cX1_moved 439 = .ok (.ladd, 1) := by decide +kernel
theorem dX1_moved_440 : decode cX1_moved 440 = .ok (.ldc2_w 27, 3) := by decide +kernel
theorem dX1_moved_443 : decode cX1_moved 443 = .ok (.land, 1) := by decide +kernel
theorem dX1_moved_444 : decode cX1_moved 444 = .ok (.lastore, 1) := by decide +kernel
theorem dX1_moved_445 : decode cX1_moved 445 = .ok (.goto 88, 3) := by decide +kernel
theorem dX1_moved_448 : decode cX1_moved 448 = .ok (.aload_n 0, 1) := by decide +kernel
theorem dX1_moved_449 : decode cX1_moved 449 = .ok (.getfield 7, 3) := by decide +kernel
theorem dX1_moved_452 : decode cX1_moved 452 = .ok (.iload_n 2, 1) := by decide +kernel
theorem dX1_moved_453 : decode cX1_moved 453 = .ok (.lload 7, 2) := by decide +kernel
theorem dX1_moved_455 : decode cX1_moved 455 = .ok (.iload_n 1, 1) := by decide +kernel
theorem dX1_moved_456 : decode cX1_moved 456 = .ok (.sipush 188, 3) := by decide +kernel
theorem dX1_moved_459 : decode cX1_moved 459 = .ok (.if_icmp .ne 8, 3) := by decide +kernel
theorem dX1_moved_462 : decode cX1_moved 462 = .ok (.lload 5, 2) := by decide +kernel
theorem dX1_moved_464 : decode cX1_moved 464 = .ok (.goto 4, 3) := by decide +kernel
theorem dX1_moved_467 : decode cX1_moved 467 = .ok (.lload_n 3, 1) := by decide +kernel
theorem dX1_moved_468 : decode cX1_moved 468 = .ok (.lsub, 1) := by decide +kernel
theorem dX1_moved_469 : decode cX1_moved 469 = .ok (.ldc2_w 27, 3) := by decide +kernel
theorem dX1_moved_472 : decode cX1_moved 472 = .ok (.land, 1) := by decide +kernel
theorem dX1_moved_473 : decode cX1_moved 473 = .ok (.lastore, 1) := by decide +kernel
theorem dX1_moved_474 : decode cX1_moved 474 = .ok (.goto 59, 3) := by decide +kernel
theorem dX1_moved_477 : decode cX1_moved 477 = .ok (.aload_n 0, 1) := by decide +kernel
theorem dX1_moved_478 : decode cX1_moved 478 = .ok (.getfield 7, 3) := by decide +kernel
theorem dX1_moved_481 : decode cX1_moved 481 = .ok (.iload_n 2, 1) := by decide +kernel
theorem dX1_moved_482 : decode cX1_moved 482 = .ok (.lconst 0, 1) := by decide +kernel
theorem dX1_moved_483 : decode cX1_moved 483 = .ok (.lastore, 1) := by decide +kernel
theorem dX1_moved_484 : decode cX1_moved 484 = .ok (.goto 49, 3) := by decide +kernel
theorem dX1_moved_487 : decode cX1_moved 487 = .ok (.aload_n 0, 1) := by decide +kernel
theorem dX1_moved_488 : decode cX1_moved 488 = .ok (.getfield 7, 3) := by decide +kernel
theorem dX1_moved_491 : decode cX1_moved 491 = .ok (.lload_n 3, 1) := by decide +kernel
theorem dX1_moved_492 : decode cX1_moved 492 = .ok (.l2i, 1) := by decide +kernel
theorem dX1_moved_493 : decode cX1_moved 493 = .ok (.lconst 0, 1) := by decide +kernel
theorem dX1_moved_494 : decode cX1_moved 494 = .ok (.lastore, 1) := by decide +kernel
theorem dX1_moved_495 : decode cX1_moved 495 = .ok (.goto 38, 3) := by decide +kernel
theorem dX1_moved_498 : decode cX1_moved 498 = .ok (.aload_n 0, 1) := by decide +kernel
theorem dX1_moved_499 : decode cX1_moved 499 = .ok (.iload_n 1, 1) := by decide +kernel
theorem dX1_moved_500 : decode cX1_moved 500 = .ok (.iload_n 2, 1) := by decide +kernel
theorem dX1_moved_501 : decode cX1_moved 501 = .ok (.lload 7, 2) := by decide +kernel
theorem dX1_moved_503 : decode cX1_moved 503 = .ok (.iload_n 1, 1) := by decide +kernel
theorem dX1_moved_504 : decode cX1_moved 504 = .ok (.sipush 261, 3) := by decide +kernel
theorem dX1_moved_507 : decode cX1_moved 507 = .ok (.if_icmp .eq 17, 3) := by decide +kernel
theorem dX1_moved_510 : decode cX1_moved 510 = .ok (.iload_n 1, 1) := by decide +kernel
theorem dX1_moved_511 : decode cX1_moved 511 = .ok (.sipush 281, 3) := by decide +kernel
theorem dX1_moved_514 : decode cX1_moved 514 = .ok (.if_icmp .eq 10, 3) := by decide +kernel
theorem dX1_moved_517 : decode cX1_moved 517 = .ok (.iload_n 1, 1) := by decide +kernel
theorem dX1_moved_518 : decode cX1_moved 518 = .ok (.sipush 285, 3) := by decide +kernel
theorem dX1_moved_521 : decode cX1_moved 521 = .ok (.if_icmp .ne 7, 3) := by decide +kernel
theorem dX1_moved_524 : decode cX1_moved 524 = .ok (.lload_n 3, 1) := by decide +kernel
theorem dX1_moved_525 : decode cX1_moved 525 = .ok (.goto 5, 3) := by decide +kernel
theorem dX1_moved_528 : decode cX1_moved 528 = .ok (.lload 5, 2) := by decide +kernel
theorem dX1_moved_530 : decode cX1_moved 530 = .ok (.invokevirtual 100, 3) := by decide +kernel
theorem dX1_moved_533 : decode cX1_moved 533 = .ok (.return_, 1) := by decide +kernel
theorem dX1_divided_0 : decode cX1_divided 0 = .ok (.lload 4, 2) := by decide +kernel
theorem dX1_divided_2 : decode cX1_divided 2 = .ok (.lconst 0, 1) := by decide +kernel
theorem dX1_divided_3 : decode cX1_divided 3 = .ok (.lcmp, 1) := by decide +kernel
theorem dX1_divided_4 : decode cX1_divided 4 = .ok (.ifCond .eq 20, 3) := by decide +kernel
theorem dX1_divided_7 : decode cX1_divided 7 = .ok (.lload_n 2, 1) := by decide +kernel
theorem dX1_divided_8 : decode cX1_divided 8 = .ok (.ldc2_w 103, 3) := by decide +kernel
theorem dX1_divided_11 : decode cX1_divided 11 = .ok (.lcmp, 1) := by decide +kernel
theorem dX1_divided_12 : decode cX1_divided 12 = .ok (.ifCond .ne 18, 3) := by decide +kernel
theorem dX1_divided_15 : decode cX1_divided 15 = .ok (.lload 4, 2) := by decide +kernel
theorem dX1_divided_17 : decode cX1_divided 17 = .ok (.ldc2_w 105, 3) := by decide +kernel
theorem dX1_divided_20 : decode cX1_divided 20 = .ok (.lcmp, 1) := by decide +kernel
theorem dX1_divided_21 : decode cX1_divided 21 = .ok (.ifCond .ne 9, 3) := by decide +kernel
theorem dX1_divided_24 : decode cX1_divided 24 = .ok (.aload_n 0, 1) := by decide +kernel
theorem dX1_divided_25 : decode cX1_divided 25 = .ok (.iconst 3, 1) := by decide +kernel
theorem dX1_divided_26 : decode cX1_divided 26 = .ok (.putfield 36, 3) := by decide +kernel
theorem dX1_divided_29 : decode cX1_divided 29 = .ok (.return_, 1) := by decide +kernel
theorem dX1_divided_30 : decode cX1_divided 30 = .ok (.aload_n 0, 1) := by decide +kernel
theorem dX1_divided_31 : decode cX1_divided 31 = .ok (.getfield 7, 3) := by decide +kernel
theorem dX1_divided_34 : decode cX1_divided 34 = .ok (.iload_n 1, 1) := by decide +kernel
theorem dX1_divided_35 : decode cX1_divided 35 = .ok (.lload_n 2, 1) := by decide +kernel
theorem dX1_divided_36 : decode cX1_divided 36 = .ok (.lload 4, 2) := by decide +kernel
theorem dX1_divided_38 : decode cX1_divided 38 = .ok (.ldiv, 1) := by decide +kernel
theorem dX1_divided_39 : decode cX1_divided 39 = .ok (.ldc2_w 27, 3) := by decide +kernel
theorem dX1_divided_42 : decode cX1_divided 42 = .ok (.land, 1) := by decide +kernel
theorem dX1_divided_43 : decode cX1_divided 43 = .ok (.lastore, 1) := by decide +kernel
theorem dX1_divided_44 : decode cX1_divided 44 = .ok (.aload_n 0, 1) := by decide +kernel
theorem dX1_divided_45 : decode cX1_divided 45 = .ok (.getfield 7, 3) := by decide +kernel
theorem dX1_divided_48 : decode cX1_divided 48 = .ok (.iload_n 1, 1) := by decide +kernel
theorem dX1_divided_49 : decode cX1_divided 49 = .ok (.iconst 1, 1) := by decide +kernel
theorem dX1_divided_50 : decode cX1_divided 50 = .ok (.iadd, 1) := by decide +kernel
theorem dX1_divided_51 : decode cX1_divided 51 = .ok (.bipush 15, 2) := by decide +kernel
theorem dX1_divided_53 : decode cX1_divided 53 = .ok (.iand, 1) := by decide +kernel
theorem dX1_divided_54 : decode cX1_divided 54 = .ok (.lload_n 2, 1) := by decide +kernel
theorem dX1_divided_55 : decode cX1_divided 55 = .ok (.lload 4, 2) := by decide +kernel
theorem dX1_divided_57 : decode cX1_divided 57 = .ok (.lrem, 1) := by decide +kernel
theorem dX1_divided_58 : decode cX1_divided 58 = .ok (.ldc2_w 27, 3) := by decide +kernel
theorem dX1_divided_61 : decode cX1_divided 61 = .ok (.land, 1) := by decide +kernel
theorem dX1_divided_62 : decode cX1_divided 62 = .ok (.lastore, 1) := by decide +kernel
theorem dX1_divided_63 : decode cX1_divided 63 = .ok (.return_, 1) := by decide +kernel
set_option maxRecDepth 20000 in
theorem ggX1_bits_X1_half : GoodIn wsX1_bits wsX1_half := goodIn_r _ [8, 9, 4] (by decide +kernel) (by decide +kernel)
set_option maxRecDepth 20000 in
theorem gX1_bits_X1_half : GoodIn wsX1_bits (va_wsS RX1 88 yX1_half wsX1_half) := goodIn_app (goodIn_of _ (by decide +kernel)) ggX1_bits_X1_half
theorem dX1_bits_0 : decode cX1_bits 0 = .ok (.iload_n 1, 1) := by decide +kernel
theorem dX1_bits_1 : decode cX1_bits 1 = .ok (.lookupswitch 251 #[(260, 107), (261, 107), (280, 120), (281, 120), (284, 133), (285, 133), (296, 146), (320, 164), (324, 179), (352, 203), (356, 218), (360, 236)], 107) := by decide +kernel
theorem dX1_bits_108 : decode cX1_bits 108 = .ok (.aload_n 0, 1) := by decide +kernel
theorem dX1_bits_109 : decode cX1_bits 109 = .ok (.getfield 7, 3) := by decide +kernel
theorem dX1_bits_112 : decode cX1_bits 112 = .ok (.iload_n 2, 1) := by decide +kernel
theorem dX1_bits_113 : decode cX1_bits 113 = .ok (.lload_n 3, 1) := by decide +kernel
theorem dX1_bits_114 : decode cX1_bits 114 = .ok (.lload 5, 2) := by decide +kernel
theorem dX1_bits_116 : decode cX1_bits 116 = .ok (.land, 1) := by decide +kernel
theorem dX1_bits_117 : decode cX1_bits 117 = .ok (.lastore, 1) := by decide +kernel
theorem dX1_bits_118 : decode cX1_bits 118 = .ok (.goto 145, 3) := by decide +kernel
theorem dX1_bits_121 : decode cX1_bits 121 = .ok (.aload_n 0, 1) := by decide +kernel
theorem dX1_bits_122 : decode cX1_bits 122 = .ok (.getfield 7, 3) := by decide +kernel
theorem dX1_bits_125 : decode cX1_bits 125 = .ok (.iload_n 2, 1) := by decide +kernel
theorem dX1_bits_126 : decode cX1_bits 126 = .ok (.lload_n 3, 1) := by decide +kernel
theorem dX1_bits_127 : decode cX1_bits 127 = .ok (.lload 5, 2) := by decide +kernel
theorem dX1_bits_129 : decode cX1_bits 129 = .ok (.lxor, 1) := by decide +kernel
theorem dX1_bits_130 : decode cX1_bits 130 = .ok (.lastore, 1) := by decide +kernel
theorem dX1_bits_131 : decode cX1_bits 131 = .ok (.goto 132, 3) := by decide +kernel
theorem dX1_bits_134 : decode cX1_bits 134 = .ok (.aload_n 0, 1) := by decide +kernel
theorem dX1_bits_135 : decode cX1_bits 135 = .ok (.getfield 7, 3) := by decide +kernel
theorem dX1_bits_138 : decode cX1_bits 138 = .ok (.iload_n 2, 1) := by decide +kernel
theorem dX1_bits_139 : decode cX1_bits 139 = .ok (.lload_n 3, 1) := by decide +kernel
theorem dX1_bits_140 : decode cX1_bits 140 = .ok (.lload 5, 2) := by decide +kernel
theorem dX1_bits_142 : decode cX1_bits 142 = .ok (.lor, 1) := by decide +kernel
theorem dX1_bits_143 : decode cX1_bits 143 = .ok (.lastore, 1) := by decide +kernel
theorem dX1_bits_144 : decode cX1_bits 144 = .ok (.goto 119, 3) := by decide +kernel
theorem dX1_bits_147 : decode cX1_bits 147 = .ok (.aload_n 0, 1) := by decide +kernel
theorem dX1_bits_148 : decode cX1_bits 148 = .ok (.getfield 7, 3) := by decide +kernel
theorem dX1_bits_151 : decode cX1_bits 151 = .ok (.iload_n 2, 1) := by decide +kernel
theorem dX1_bits_152 : decode cX1_bits 152 = .ok (.lload_n 3, 1) := by decide +kernel
theorem dX1_bits_153 : decode cX1_bits 153 = .ok (.ldc2_w 105, 3) := by decide +kernel
theorem dX1_bits_156 : decode cX1_bits 156 = .ok (.lxor, 1) := by decide +kernel
theorem dX1_bits_157 : decode cX1_bits 157 = .ok (.ldc2_w 27, 3) := by decide +kernel
theorem dX1_bits_160 : decode cX1_bits 160 = .ok (.land, 1) := by decide +kernel
theorem dX1_bits_161 : decode cX1_bits 161 = .ok (.lastore, 1) := by decide +kernel
theorem dX1_bits_162 : decode cX1_bits 162 = .ok (.goto 101, 3) := by decide +kernel
theorem dX1_bits_165 : decode cX1_bits 165 = .ok (.aload_n 0, 1) := by decide +kernel
theorem dX1_bits_166 : decode cX1_bits 166 = .ok (.getfield 7, 3) := by decide +kernel
theorem dX1_bits_169 : decode cX1_bits 169 = .ok (.iload_n 2, 1) := by decide +kernel
theorem dX1_bits_170 : decode cX1_bits 170 = .ok (.lload 5, 2) := by decide +kernel
theorem dX1_bits_172 : decode cX1_bits 172 = .ok (.lload_n 3, 1) := by decide +kernel
theorem dX1_bits_173 : decode cX1_bits 173 = .ok (.invokestatic 88, 3) := by decide +kernel
theorem dX1_bits_176 : decode cX1_bits 176 = .ok (.lastore, 1) := by decide +kernel
theorem dX1_bits_177 : decode cX1_bits 177 = .ok (.goto 86, 3) := by decide +kernel
theorem dX1_bits_180 : decode cX1_bits 180 = .ok (.aload_n 0, 1) := by decide +kernel
theorem dX1_bits_181 : decode cX1_bits 181 = .ok (.getfield 7, 3) := by decide +kernel
theorem dX1_bits_184 : decode cX1_bits 184 = .ok (.iload_n 2, 1) := by decide +kernel
theorem dX1_bits_185 : decode cX1_bits 185 = .ok (.lload 5, 2) := by decide +kernel
theorem dX1_bits_187 : decode cX1_bits 187 = .ok (.ldc2_w 31, 3) := by decide +kernel
theorem dX1_bits_190 : decode cX1_bits 190 = .ok (.land, 1) := by decide +kernel
theorem dX1_bits_191 : decode cX1_bits 191 = .ok (.bipush 18, 2) := by decide +kernel
theorem dX1_bits_193 : decode cX1_bits 193 = .ok (.lshl, 1) := by decide +kernel
theorem dX1_bits_194 : decode cX1_bits 194 = .ok (.lload_n 3, 1) := by decide +kernel
theorem dX1_bits_195 : decode cX1_bits 195 = .ok (.ldc2_w 31, 3) := by decide +kernel
theorem dX1_bits_198 : decode cX1_bits 198 = .ok (.land, 1) := by decide +kernel
theorem dX1_bits_199 : decode cX1_bits 199 = .ok (.lor, 1) := by decide +kernel
theorem dX1_bits_200 : decode cX1_bits 200 = .ok (.lastore, 1) := by decide +kernel
theorem dX1_bits_201 : decode cX1_bits 201 = .ok (.goto 62, 3) := by decide +kernel
theorem dX1_bits_204 : decode cX1_bits 204 = .ok (.aload_n 0, 1) := by decide +kernel
theorem dX1_bits_205 : decode cX1_bits 205 = .ok (.getfield 7, 3) := by decide +kernel
theorem dX1_bits_208 : decode cX1_bits 208 = .ok (.iload_n 2, 1) := by decide +kernel
theorem dX1_bits_209 : decode cX1_bits 209 = .ok (.lload_n 3, 1) := by decide +kernel
theorem dX1_bits_210 : decode cX1_bits 210 = .ok (.lload 5, 2) := by decide +kernel
theorem dX1_bits_212 : decode cX1_bits 212 = .ok (.invokestatic 88, 3) := by decide +kernel
theorem dX1_bits_215 : decode cX1_bits 215 = .ok (.lastore, 1) := by decide +kernel
theorem dX1_bits_216 : decode cX1_bits 216 = .ok (.goto 47, 3) := by decide +kernel
theorem dX1_bits_219 : decode cX1_bits 219 = .ok (.aload_n 0, 1) := by decide +kernel
theorem dX1_bits_220 : decode cX1_bits 220 = .ok (.getfield 7, 3) := by decide +kernel
theorem dX1_bits_223 : decode cX1_bits 223 = .ok (.iload_n 2, 1) := by decide +kernel
theorem dX1_bits_224 : decode cX1_bits 224 = .ok (.lload_n 3, 1) := by decide +kernel
theorem dX1_bits_225 : decode cX1_bits 225 = .ok (.lload 5, 2) := by decide +kernel
theorem dX1_bits_227 : decode cX1_bits 227 = .ok (.bipush 18, 2) := by decide +kernel
theorem dX1_bits_229 : decode cX1_bits 229 = .ok (.lshr, 1) := by decide +kernel
theorem dX1_bits_230 : decode cX1_bits 230 = .ok (.invokestatic 88, 3) := by decide +kernel
theorem dX1_bits_233 : decode cX1_bits 233 = .ok (.lastore, 1) := by decide +kernel
theorem dX1_bits_234 : decode cX1_bits 234 = .ok (.goto 29, 3) := by decide +kernel
theorem dX1_bits_237 : decode cX1_bits 237 = .ok (.aload_n 0, 1) := by decide +kernel
theorem dX1_bits_238 : decode cX1_bits 238 = .ok (.getfield 7, 3) := by decide +kernel
theorem dX1_bits_241 : decode cX1_bits 241 = .ok (.iload_n 2, 1) := by decide +kernel
theorem dX1_bits_242 : decode cX1_bits 242 = .ok (.lload 5, 2) := by decide +kernel
theorem dX1_bits_244 : decode cX1_bits 244 = .ok (.ldc2_w 31, 3) := by decide +kernel
theorem dX1_bits_247 : decode cX1_bits 247 = .ok (.land, 1) := by decide +kernel
theorem dX1_bits_248 : decode cX1_bits 248 = .ok (.lastore, 1) := by decide +kernel
theorem dX1_bits_249 : decode cX1_bits 249 = .ok (.goto 14, 3) := by decide +kernel
theorem dX1_bits_252 : decode cX1_bits 252 = .ok (.aload_n 0, 1) := by decide +kernel
theorem dX1_bits_253 : decode cX1_bits 253 = .ok (.getfield 7, 3) := by decide +kernel
theorem dX1_bits_256 : decode cX1_bits 256 = .ok (.iload_n 2, 1) := by decide +kernel
theorem dX1_bits_257 : decode cX1_bits 257 = .ok (.lload 5, 2) := by decide +kernel
theorem dX1_bits_259 : decode cX1_bits 259 = .ok (.bipush 18, 2) := by decide +kernel
theorem dX1_bits_261 : decode cX1_bits 261 = .ok (.lshr, 1) := by decide +kernel
theorem dX1_bits_262 : decode cX1_bits 262 = .ok (.lastore, 1) := by decide +kernel
theorem dX1_bits_263 : decode cX1_bits 263 = .ok (.return_, 1) := by decide +kernel
theorem dX1_count_0 : decode cX1_count 0 = .ok (.aload_n 0, 1) := by decide +kernel
theorem dX1_count_1 : decode cX1_count 1 = .ok (.iconst 0, 1) := by decide +kernel
theorem dX1_count_2 : decode cX1_count 2 = .ok (.putfield 13, 3) := by decide +kernel
theorem dX1_count_5 : decode cX1_count 5 = .ok (.iload_n 1, 1) := by decide +kernel
theorem dX1_count_6 : decode cX1_count 6 = .ok (.ifCond .ne 10, 3) := by decide +kernel
theorem dX1_count_9 : decode cX1_count 9 = .ok (.aload_n 0, 1) := by decide +kernel
theorem dX1_count_10 : decode cX1_count 10 = .ok (.getfield 33, 3) := by decide +kernel
theorem dX1_count_13 : decode cX1_count 13 = .ok (.goto 33, 3) := by decide +kernel
theorem dX1_count_16 : decode cX1_count 16 = .ok (.iload_n 1, 1) := by decide +kernel
theorem dX1_count_17 : decode cX1_count 17 = .ok (.iconst 1, 1) := by decide +kernel
theorem dX1_count_18 : decode cX1_count 18 = .ok (.if_icmp .ne 15, 3) := by decide +kernel
theorem dX1_count_21 : decode cX1_count 21 = .ok (.aload_n 0, 1) := by decide +kernel
theorem dX1_count_22 : decode cX1_count 22 = .ok (.getfield 52, 3) := by decide +kernel
theorem dX1_count_25 : decode cX1_count 25 = .ok (.ldc2_w 107, 3) := by decide +kernel
theorem dX1_count_28 : decode cX1_count 28 = .ok (.land, 1) := by decide +kernel
theorem dX1_count_29 : decode cX1_count 29 = .ok (.l2i, 1) := by decide +kernel
theorem dX1_count_30 : decode cX1_count 30 = .ok (.goto 16, 3) := by decide +kernel
theorem dX1_count_33 : decode cX1_count 33 = .ok (.iload_n 1, 1) := by decide +kernel
theorem dX1_count_34 : decode cX1_count 34 = .ok (.iconst 2, 1) := by decide +kernel
theorem dX1_count_35 : decode cX1_count 35 = .ok (.if_icmp .ne 10, 3) := by decide +kernel
theorem dX1_count_38 : decode cX1_count 38 = .ok (.aload_n 0, 1) := by decide +kernel
theorem dX1_count_39 : decode cX1_count 39 = .ok (.getfield 45, 3) := by decide +kernel
theorem dX1_count_42 : decode cX1_count 42 = .ok (.goto 4, 3) := by decide +kernel
theorem dX1_count_45 : decode cX1_count 45 = .ok (.iconst (-1), 1) := by decide +kernel
theorem dX1_count_46 : decode cX1_count 46 = .ok (.ireturn, 1) := by decide +kernel
