theorem dX0_init_0 : decode cX0_init 0 = .ok (.aload_n 0, 1) := by decide +kernel
theorem dX0_init_1 : decode cX0_init 1 = .ok (.invokespecial 1, 3) := by decide +kernel
theorem dX0_init_4 : decode cX0_init 4 = .ok (.aload_n 0, 1) := by decide +kernel
theorem dX0_init_5 : decode cX0_init 5 = .ok (.sipush 4096, 3) := by decide +kernel
theorem dX0_init_8 : decode cX0_init 8 = .ok (.newarray .long, 2) := by decide +kernel
theorem dX0_init_10 : decode cX0_init 10 = .ok (.putfield 9, 3) := by decide +kernel
theorem dX0_init_13 : decode cX0_init 13 = .ok (.aload_n 0, 1) := by decide +kernel
theorem dX0_init_14 : decode cX0_init 14 = .ok (.iconst 0, 1) := by decide +kernel
theorem dX0_init_15 : decode cX0_init 15 = .ok (.putfield 13, 3) := by decide +kernel
theorem dX0_init_18 : decode cX0_init 18 = .ok (.aload_n 0, 1) := by decide +kernel
theorem dX0_init_19 : decode cX0_init 19 = .ok (.iconst 0, 1) := by decide +kernel
theorem dX0_init_20 : decode cX0_init 20 = .ok (.putfield 17, 3) := by decide +kernel
theorem dX0_init_23 : decode cX0_init 23 = .ok (.aload_n 0, 1) := by decide +kernel
theorem dX0_init_24 : decode cX0_init 24 = .ok (.iconst 0, 1) := by decide +kernel
theorem dX0_init_25 : decode cX0_init 25 = .ok (.putfield 20, 3) := by decide +kernel
theorem dX0_init_28 : decode cX0_init 28 = .ok (.aload_n 0, 1) := by decide +kernel
theorem dX0_init_29 : decode cX0_init 29 = .ok (.iconst 0, 1) := by decide +kernel
theorem dX0_init_30 : decode cX0_init 30 = .ok (.putfield 23, 3) := by decide +kernel
theorem dX0_init_33 : decode cX0_init 33 = .ok (.return_, 1) := by decide +kernel
set_option maxRecDepth 20000 in
theorem ggX0_put_X0_refuseOutside : GoodIn wsX0_put wsX0_refuseOutside := goodIn_ca (goodIn_r _ [4, 5, 6] (by decide +kernel) (by decide +kernel)) (goodIn_sub (fun _ h => List.mem_cons_of_mem _ (List.mem_append_right _ h)) (by decide +kernel))
set_option maxRecDepth 20000 in
theorem gX0_put_X0_refuseOutside : GoodIn wsX0_put (va_wsS RX0 26 yX0_refuseOutside wsX0_refuseOutside) := goodIn_app (goodIn_of _ (by decide +kernel)) ggX0_put_X0_refuseOutside
set_option maxRecDepth 20000 in
theorem ggX0_put_X0_store : GoodIn wsX0_put wsX0_store := goodIn_r _ [10, 11, 12, 13, 14, 15, 16, 17] (by decide +kernel) (by decide +kernel)
set_option maxRecDepth 20000 in
theorem gX0_put_X0_store : GoodIn wsX0_put (wsV RX0 30 RX0 yX0_store wsX0_store) := goodIn_app (goodIn_of _ (by decide +kernel)) ggX0_put_X0_store
theorem dX0_put_0 : decode cX0_put 0 = .ok (.iload_n 1, 1) := by decide +kernel
theorem dX0_put_1 : decode cX0_put 1 = .ok (.sipush 4095, 3) := by decide +kernel
theorem dX0_put_4 : decode cX0_put 4 = .ok (.invokestatic 26, 3) := by decide +kernel
theorem dX0_put_7 : decode cX0_put 7 = .ok (.aload_n 0, 1) := by decide +kernel
theorem dX0_put_8 : decode cX0_put 8 = .ok (.iload_n 1, 1) := by decide +kernel
theorem dX0_put_9 : decode cX0_put 9 = .ok (.lload_n 2, 1) := by decide +kernel
theorem dX0_put_10 : decode cX0_put 10 = .ok (.invokevirtual 30, 3) := by decide +kernel
theorem dX0_put_13 : decode cX0_put 13 = .ok (.return_, 1) := by decide +kernel
set_option maxRecDepth 20000 in
theorem ggX0_word_X0_refuseOutside : GoodIn wsX0_word wsX0_refuseOutside := goodIn_ca (goodIn_r _ [5, 6, 7] (by decide +kernel) (by decide +kernel)) (goodIn_sub (fun _ h => List.mem_cons_of_mem _ (List.mem_append_right _ h)) (by decide +kernel))
set_option maxRecDepth 20000 in
theorem gX0_word_X0_refuseOutside : GoodIn wsX0_word (va_wsS RX0 26 yX0_refuseOutside wsX0_refuseOutside) := goodIn_app (goodIn_of _ (by decide +kernel)) ggX0_word_X0_refuseOutside
theorem dX0_word_0 : decode cX0_word 0 = .ok (.iload_n 1, 1) := by decide +kernel
theorem dX0_word_1 : decode cX0_word 1 = .ok (.sipush 4095, 3) := by decide +kernel
theorem dX0_word_4 : decode cX0_word 4 = .ok (.invokestatic 26, 3) := by decide +kernel
theorem dX0_word_7 : decode cX0_word 7 = .ok (.aload_n 0, 1) := by decide +kernel
theorem dX0_word_8 : decode cX0_word 8 = .ok (.getfield 9, 3) := by decide +kernel
theorem dX0_word_11 : decode cX0_word 11 = .ok (.iload_n 1, 1) := by decide +kernel
theorem dX0_word_12 : decode cX0_word 12 = .ok (.laload, 1) := by decide +kernel
theorem dX0_word_13 : decode cX0_word 13 = .ok (.lreturn, 1) := by decide +kernel
set_option maxRecDepth 20000 in
theorem ggX0_code_X0_refuseOutside : GoodIn wsX0_code wsX0_refuseOutside := goodIn_ca (goodIn_r _ [5, 6, 7] (by decide +kernel) (by decide +kernel)) (goodIn_sub (fun _ h => List.mem_cons_of_mem _ (List.mem_append_right _ h)) (by decide +kernel))
set_option maxRecDepth 20000 in
theorem gX0_code_X0_refuseOutside : GoodIn wsX0_code (va_wsS RX0 26 yX0_refuseOutside wsX0_refuseOutside) := goodIn_app (goodIn_of _ (by decide +kernel)) ggX0_code_X0_refuseOutside
set_option maxRecDepth 20000 in
theorem ggX0_code_X0_store : GoodIn wsX0_code wsX0_store := goodIn_r _ [11, 12, 13, 14, 15, 16, 17, 18] (by decide +kernel) (by decide +kernel)
set_option maxRecDepth 20000 in
theorem gX0_code_X0_store : GoodIn wsX0_code (wsV RX0 30 RX0 yX0_store wsX0_store) := goodIn_app (goodIn_of _ (by decide +kernel)) ggX0_code_X0_store
theorem dX0_code_0 : decode cX0_code 0 = .ok (.iload_n 1, 1) := by decide +kernel
theorem dX0_code_1 : decode cX0_code 1 = .ok (.sipush 4095, 3) := by decide +kernel
theorem dX0_code_4 : decode cX0_code 4 = .ok (.invokestatic 26, 3) := by decide +kernel
theorem dX0_code_7 : decode cX0_code 7 = .ok (.iload_n 2, 1) := by decide +kernel
theorem dX0_code_8 : decode cX0_code 8 = .ok (.sipush 511, 3) := by decide +kernel
theorem dX0_code_11 : decode cX0_code 11 = .ok (.invokestatic 26, 3) := by decide +kernel
theorem dX0_code_14 : decode cX0_code 14 = .ok (.iload_n 3, 1) := by decide +kernel
theorem dX0_code_15 : decode cX0_code 15 = .ok (.bipush 15, 2) := by decide +kernel
theorem dX0_code_17 : decode cX0_code 17 = .ok (.invokestatic 26, 3) := by decide +kernel
theorem dX0_code_20 : decode cX0_code 20 = .ok (.iload 5, 2) := by decide +kernel
theorem dX0_code_22 : decode cX0_code 22 = .ok (.bipush 15, 2) := by decide +kernel
theorem dX0_code_24 : decode cX0_code 24 = .ok (.invokestatic 26, 3) := by decide +kernel
theorem dX0_code_27 : decode cX0_code 27 = .ok (.iload_n 2, 1) := by decide +kernel
theorem dX0_code_28 : decode cX0_code 28 = .ok (.i2l, 1) := by decide +kernel
theorem dX0_code_29 : decode cX0_code 29 = .ok (.bipush 27, 2) := by decide +kernel
theorem dX0_code_31 : decode cX0_code 31 = .ok (.lshl, 1) := by decide +kernel
theorem dX0_code_32 : decode cX0_code 32 = .ok (.iload_n 3, 1) := by decide +kernel
theorem dX0_code_33 : decode cX0_code 33 = .ok (.i2l, 1) := by decide +kernel
theorem dX0_code_34 : decode cX0_code 34 = .ok (.bipush 23, 2) := by decide +kernel
theorem dX0_code_36 : decode cX0_code 36 = .ok (.lshl, 1) := by decide +kernel
theorem dX0_code_37 : decode cX0_code 37 = .ok (.lor, 1) := by decide +kernel
theorem dX0_code_38 : decode cX0_code 38 = .ok (.iload 4, 2) := by decide +kernel
theorem dX0_code_40 : decode cX0_code 40 = .ok (.ifCond .eq 7, 3) := by decide +kernel
theorem dX0_code_43 : decode cX0_code 43 = .ok (.lconst 1, 1) := by decide +kernel
theorem dX0_code_44 : decode cX0_code 44 = .ok (.goto 4, 3) := by decide +kernel
theorem dX0_code_47 : decode cX0_code 47 = .ok (.lconst 0, 1) := by decide +kernel
theorem dX0_code_48 : decode cX0_code 48 = .ok (.bipush 22, 2) := by decide +kernel
theorem dX0_code_50 : decode cX0_code 50 = .ok (.lshl, 1) := by decide +kernel
theorem dX0_code_51 : decode cX0_code 51 = .ok (.lor, 1) := by decide +kernel
theorem dX0_code_52 : decode cX0_code 52 = .ok (.iload 5, 2) := by decide +kernel
theorem dX0_code_54 : decode cX0_code 54 = .ok (.i2l, 1) := by decide +kernel
theorem dX0_code_55 : decode cX0_code 55 = .ok (.bipush 18, 2) := by decide +kernel
theorem dX0_code_57 : decode cX0_code 57 = .ok (.lshl, 1) := by decide +kernel
theorem dX0_code_58 : decode cX0_code 58 = .ok (.lor, 1) := by decide +kernel
theorem dX0_code_59 : decode cX0_code 59 = .ok (.iload 6, 2) := by decide +kernel
theorem dX0_code_61 : decode cX0_code 61 = .ok (.ldc 34, 2) := by decide +kernel
theorem dX0_code_63 : decode cX0_code 63 = .ok (.iand, 1) := by decide +kernel
theorem dX0_code_64 : decode cX0_code 64 = .ok (.i2l, 1) := by decide +kernel
theorem dX0_code_65 : decode cX0_code 65 = .ok (.lor, 1) := by decide +kernel
theorem dX0_code_66 : decode cX0_code 66 = .ok (.lstore 7, 2) := by decide +kernel
theorem dX0_code_68 : decode cX0_code 68 = .ok (.aload_n 0, 1) := by decide +kernel
theorem dX0_code_69 : decode cX0_code 69 = .ok (.iload_n 1, 1) := by decide +kernel
theorem dX0_code_70 : decode cX0_code 70 = .ok (.lload 7, 2) := by decide +kernel
theorem dX0_code_72 : decode cX0_code 72 = .ok (.invokevirtual 30, 3) := by decide +kernel
theorem dX0_code_75 : decode cX0_code 75 = .ok (.lload 7, 2) := by decide +kernel
theorem dX0_code_77 : decode cX0_code 77 = .ok (.lreturn, 1) := by decide +kernel
set_option maxRecDepth 20000 in
theorem ggX0_go_X0_refuseOutside : GoodIn wsX0_go wsX0_refuseOutside := goodIn_ca (goodIn_r _ [5, 6, 7] (by decide +kernel) (by decide +kernel)) (goodIn_sub (fun _ h => List.mem_cons_of_mem _ (List.mem_append_right _ h)) (by decide +kernel))
set_option maxRecDepth 20000 in
theorem gX0_go_X0_refuseOutside : GoodIn wsX0_go (va_wsS RX0 26 yX0_refuseOutside wsX0_refuseOutside) := goodIn_app (goodIn_of _ (by decide +kernel)) ggX0_go_X0_refuseOutside
theorem dX0_go_0 : decode cX0_go 0 = .ok (.iload_n 1, 1) := by decide +kernel
theorem dX0_go_1 : decode cX0_go 1 = .ok (.sipush 4095, 3) := by decide +kernel
theorem dX0_go_4 : decode cX0_go 4 = .ok (.invokestatic 26, 3) := by decide +kernel
theorem dX0_go_7 : decode cX0_go 7 = .ok (.aload_n 0, 1) := by decide +kernel
theorem dX0_go_8 : decode cX0_go 8 = .ok (.iload_n 1, 1) := by decide +kernel
theorem dX0_go_9 : decode cX0_go 9 = .ok (.putfield 13, 3) := by decide +kernel
theorem dX0_go_12 : decode cX0_go 12 = .ok (.return_, 1) := by decide +kernel
set_option maxRecDepth 20000 in
theorem ggX0_run_X0_refuseOutside : GoodIn wsX0_run wsX0_refuseOutside := goodIn_ca (goodIn_r _ [9, 10, 11] (by decide +kernel) (by decide +kernel)) (goodIn_sub (fun _ h => List.mem_cons_of_mem _ (List.mem_append_right _ h)) (by decide +kernel))
set_option maxRecDepth 20000 in
theorem gX0_run_X0_refuseOutside : GoodIn wsX0_run (va_wsS RX0 26 yX0_refuseOutside wsX0_refuseOutside) := goodIn_app (goodIn_of _ (by decide +kernel)) ggX0_run_X0_refuseOutside
set_option maxRecDepth 20000 in
theorem ggX0_run_X0_step : GoodIn wsX0_run wsX0_step := goodIn_r _ [15, 16, 3, 2, 17, 18, 19, 8, 20, 21, 22, 23, 24, 25, 26, 27, 28, 29, 30, 31, 32, 33, 34, 35, 36, 37, 38, 39, 40, 41, 42, 43, 44, 45, 46, 47, 48, 49, 50, 51, 52, 53, 54, 55, 56, 57, 58, 59, 60, 61, 62, 63, 64, 65, 66, 67, 68, 69, 70, 71, 72, 73, 74, 75, 76, 77, 78, 79, 80, 81, 82, 83, 84, 85, 86, 87, 88, 89, 90, 91, 92, 93, 94, 95, 96, 97, 98, 99, 100, 101, 102, 103, 104, 105, 106, 107, 108, 109, 110, 111, 112, 113, 114, 115, 116, 117, 118, 119, 120, 121, 122, 123, 124, 125, 126, 127, 128, 129, 130, 131, 132, 133, 134, 135, 136] rfl (by decide +kernel)
set_option maxRecDepth 20000 in
theorem gX0_run_X0_step : GoodIn wsX0_run (wsV RX0 35 RX0 yX0_step wsX0_step) := goodIn_app (goodIn_of _ (by decide +kernel)) ggX0_run_X0_step
theorem dX0_run_0 : decode cX0_run 0 = .ok (.iload_n 1, 1) := by decide +kernel
theorem dX0_run_1 : decode cX0_run 1 = .ok (.sipush 20000, 3) := by decide +kernel
theorem dX0_run_4 : decode cX0_run 4 = .ok (.invokestatic 26, 3) := by decide +kernel
theorem dX0_run_7 : decode cX0_run 7 = .ok (.aload_n 0, 1) := by decide +kernel
theorem dX0_run_8 : decode cX0_run 8 = .ok (.iconst 0, 1) := by decide +kernel
theorem dX0_run_9 : decode cX0_run 9 = .ok (.putfield 23, 3) := by decide +kernel
theorem dX0_run_12 : decode cX0_run 12 = .ok (.iconst 0, 1) := by decide +kernel
theorem dX0_run_13 : decode cX0_run 13 = .ok (.istore_n 2, 1) := by decide +kernel
theorem dX0_run_14 : decode cX0_run 14 = .ok (.iload_n 2, 1) := by decide +kernel
theorem dX0_run_15 : decode cX0_run 15 = .ok (.iload_n 1, 1) := by decide +kernel
theorem dX0_run_16 : decode cX0_run 16 = .ok (.if_icmp .ge 58, 3) := by decide +kernel
theorem dX0_run_19 : decode cX0_run 19 = .ok (.aload_n 0, 1) := by decide +kernel
theorem dX0_run_20 : decode cX0_run 20 = .ok (.invokevirtual 35, 3) := by decide +kernel
theorem dX0_run_23 : decode cX0_run 23 = .ok (.istore_n 3, 1) := by decide +kernel
theorem dX0_run_24 : decode cX0_run 24 = .ok (.iload_n 3, 1) := by decide +kernel
theorem dX0_run_25 : decode cX0_run 25 = .ok (.ifCond .le 5, 3) := by decide +kernel
theorem dX0_run_28 : decode cX0_run 28 = .ok (.iload_n 3, 1) := by decide +kernel
theorem dX0_run_29 : decode cX0_run 29 = .ok (.ireturn, 1) := by decide +kernel
theorem dX0_run_30 : decode cX0_run 30 = .ok (.aload_n 0, 1) := by decide +kernel
theorem dX0_run_31 : decode cX0_run 31 = .ok (.aload_n 0, 1) := by decide +kernel
theorem dX0_run_32 : decode cX0_run 32 = .ok (.getfield 17, 3) := by decide +kernel
theorem dX0_run_35 : decode cX0_run 35 = .ok (.putfield 13, 3) := by decide +kernel
theorem dX0_run_38 : decode cX0_run 38 = .ok (.aload_n 0, 1) := by decide +kernel
theorem dX0_run_39 : decode cX0_run 39 = .ok (.dup, 1) := by decide +kernel
theorem dX0_run_40 : decode cX0_run 40 = .ok (.getfield 23, 3) := by decide +kernel
theorem dX0_run_43 : decode cX0_run 43 = .ok (.iconst 1, 1) := by decide +kernel
theorem dX0_run_44 : decode cX0_run 44 = .ok (.iadd, 1) := by decide +kernel
theorem dX0_run_45 : decode cX0_run 45 = .ok (.putfield 23, 3) := by decide +kernel
theorem dX0_run_48 : decode cX0_run 48 = .ok (.aload_n 0, 1) := by decide +kernel
theorem dX0_run_49 : decode cX0_run 49 = .ok (.aload_n 0, 1) := by decide +kernel
theorem dX0_run_50 : decode cX0_run 50 = .ok (.getfield 20, 3) := by decide +kernel
theorem dX0_run_53 : decode cX0_run 53 = .ok (.iconst 1, 1) := by decide +kernel
theorem dX0_run_54 : decode cX0_run 54 = .ok (.iadd, 1) := by decide +kernel
theorem dX0_run_55 : decode cX0_run 55 = .ok (.ldc 39, 2) := by decide +kernel
theorem dX0_run_57 : decode cX0_run 57 = .ok (.iand, 1) := by decide +kernel
theorem dX0_run_58 : decode cX0_run 58 = .ok (.putfield 20, 3) := by decide +kernel
theorem dX0_run_61 : decode cX0_run 61 = .ok (.iload_n 3, 1) := by decide +kernel
theorem dX0_run_62 : decode cX0_run 62 = .ok (.iconst (-1), 1) := by decide +kernel
theorem dX0_run_63 : decode cX0_run 63 = .ok (.if_icmp .ne 5, 3) := by decide +kernel
theorem dX0_run_66 : decode cX0_run 66 = .ok (.iconst (-1), 1) := by decide +kernel
theorem dX0_run_67 : decode cX0_run 67 = .ok (.ireturn, 1) := by decide +kernel
theorem dX0_run_68 : decode cX0_run 68 = .ok (.iinc 2 1, 3) := by decide +kernel
theorem dX0_run_71 : decode cX0_run 71 = .ok (.goto (-57), 3) := by decide +kernel
theorem dX0_run_74 : decode cX0_run 74 = .ok (.iconst 0, 1) := by decide +kernel
theorem dX0_run_75 : decode cX0_run 75 = .ok (.ireturn, 1) := by decide +kernel
theorem dX0_count_0 : decode cX0_count 0 = .ok (.iload_n 1, 1) := by decide +kernel
theorem dX0_count_1 : decode cX0_count 1 = .ok (.tableswitch 42 0 2 #[27, 32, 37], 27) := by decide +kernel
theorem dX0_count_28 : decode cX0_count 28 = .ok (.aload_n 0, 1) := by decide +kernel
theorem dX0_count_29 : decode cX0_count 29 = .ok (.getfield 13, 3) := by decide +kernel
theorem dX0_count_32 : decode cX0_count 32 = .ok (.ireturn, 1) := by decide +kernel
theorem dX0_count_33 : decode cX0_count 33 = .ok (.aload_n 0, 1) := by decide +kernel
theorem dX0_count_34 : decode cX0_count 34 = .ok (.getfield 20, 3) := by decide +kernel
theorem dX0_count_37 : decode cX0_count 37 = .ok (.ireturn, 1) := by decide +kernel
theorem dX0_count_38 : decode cX0_count 38 = .ok (.aload_n 0, 1) := by decide +kernel
theorem dX0_count_39 : decode cX0_count 39 = .ok (.getfield 23, 3) := by decide +kernel
theorem dX0_count_42 : decode cX0_count 42 = .ok (.ireturn, 1) := by decide +kernel
theorem dX0_count_43 : decode cX0_count 43 = .ok (.iconst (-1), 1) := by decide +kernel
theorem dX0_count_44 : decode cX0_count 44 = .ok (.ireturn, 1) := by decide +kernel
theorem dX0_refuseOutside_0 : decode cX0_refuseOutside 0 = .ok (.iload_n 0, 1) := by decide +kernel
theorem dX0_refuseOutside_1 : decode cX0_refuseOutside 1 = .ok (.ifCond .lt 8, 3) := by decide +kernel
theorem dX0_refuseOutside_4 : decode cX0_refuseOutside 4 = .ok (.iload_n 0, 1) := by decide +kernel
theorem dX0_refuseOutside_5 : decode cX0_refuseOutside 5 = .ok (.iload_n 1, 1) := by decide +kernel
theorem dX0_refuseOutside_6 : decode cX0_refuseOutside 6 = .ok (.if_icmp .le 11, 3) := by decide +kernel
theorem dX0_refuseOutside_9 : decode cX0_refuseOutside 9 = .ok (.new 40, 3) := by decide +kernel
theorem dX0_refuseOutside_12 : decode cX0_refuseOutside 12 = .ok (.dup, 1) := by decide +kernel
theorem dX0_refuseOutside_13 : decode cX0_refuseOutside 13 = .ok (.invokespecial 42, 3) := by decide +kernel
theorem dX0_refuseOutside_16 : decode cX0_refuseOutside 16 = .ok (.athrow, 1) := by decide +kernel
theorem dX0_refuseOutside_17 : decode cX0_refuseOutside 17 = .ok (.return_, 1) := by decide +kernel
set_option maxRecDepth 20000 in
theorem ggX0_step_X0_effective : GoodIn wsX0_step wsX0_effective := goodIn_r _ [8, 1, 9, 10, 11, 7, 12, 13, 14, 15, 16, 17, 18, 19, 120, 121, 122, 123, 124] rfl (by decide +kernel)
set_option maxRecDepth 20000 in
theorem gX0_step_X0_effective : GoodIn wsX0_step (wsV RX0 43 RX0 yX0_effective wsX0_effective) := goodIn_app (goodIn_of _ (by decide +kernel)) ggX0_step_X0_effective
set_option maxRecDepth 20000 in
theorem ggX0_step_X0_perform : GoodIn wsX0_step wsX0_perform := goodIn_r _ [23, 24, 25, 26, 7, 27, 1, 28, 29, 30, 31, 32, 33, 34, 14, 15, 16, 13, 35, 36, 37, 38, 39, 40, 41, 42, 43, 44, 45, 46, 47, 48, 49, 50, 51, 52, 53, 54, 55, 56, 57, 58, 59, 60, 61, 62, 63, 64, 65, 3, 66, 67, 68, 69, 70, 71, 72, 73, 74, 75, 76, 77, 78, 79, 80, 81, 82, 83, 84, 85, 86, 87, 88, 89, 90, 91, 92, 93, 94, 95, 96, 97, 98, 99, 100, 101, 102, 103, 104, 105, 106, 107, 108, 109, 110, 111, 112, 113, 114, 115, 116, 117, 118, 119, 120, 121, 122, 123, 124] rfl (by decide +kernel)
set_option maxRecDepth 20000 in
theorem gX0_step_X0_perform : GoodIn wsX0_step (wsV RX0 47 RX0 yX0_perform wsX0_perform) := goodIn_app (goodIn_of _ (by decide +kernel)) ggX0_step_X0_perform
theorem dX0_step_0 : decode cX0_step 0 = .ok (.aload_n 0, 1) := by decide +kernel
theorem dX0_step_1 : decode cX0_step 1 = .ok (.getfield 9, 3) := by decide +kernel
theorem dX0_step_4 : decode cX0_step 4 = .ok (.aload_n 0, 1) := by decide +kernel
theorem dX0_step_5 : decode cX0_step 5 = .ok (.getfield 13, 3) := by decide +kernel
theorem dX0_step_8 : decode cX0_step 8 = .ok (.laload, 1) := by decide +kernel
theorem dX0_step_9 : decode cX0_step 9 = .ok (.lstore_n 1, 1) := by decide +kernel
theorem dX0_step_10 : decode cX0_step 10 = .ok (.aload_n 0, 1) := by decide +kernel
theorem dX0_step_11 : decode cX0_step 11 = .ok (.lload_n 1, 1) := by decide +kernel
theorem dX0_step_12 : decode cX0_step 12 = .ok (.invokevirtual 43, 3) := by decide +kernel
theorem dX0_step_15 : decode cX0_step 15 = .ok (.istore_n 3, 1) := by decide +kernel
theorem dX0_step_16 : decode cX0_step 16 = .ok (.iload_n 3, 1) := by decide +kernel
theorem dX0_step_17 : decode cX0_step 17 = .ok (.iconst (-1), 1) := by decide +kernel
theorem dX0_step_18 : decode cX0_step 18 = .ok (.if_icmp .ne 5, 3) := by decide +kernel
theorem dX0_step_21 : decode cX0_step 21 = .ok (.iconst 2, 1) := by decide +kernel
theorem dX0_step_22 : decode cX0_step 22 = .ok (.ireturn, 1) := by decide +kernel
theorem dX0_step_23 : decode cX0_step 23 = .ok (.aload_n 0, 1) := by decide +kernel
theorem dX0_step_24 : decode cX0_step 24 = .ok (.aload_n 0, 1) := by decide +kernel
theorem dX0_step_25 : decode cX0_step 25 = .ok (.getfield 13, 3) := by decide +kernel
theorem dX0_step_28 : decode cX0_step 28 = .ok (.iconst 1, 1) := by decide +kernel
theorem dX0_step_29 : decode cX0_step 29 = .ok (.iadd, 1) := by decide +kernel
theorem dX0_step_30 : decode cX0_step 30 = .ok (.sipush 4095, 3) := by decide +kernel
theorem dX0_step_33 : decode cX0_step 33 = .ok (.iand, 1) := by decide +kernel
theorem dX0_step_34 : decode cX0_step 34 = .ok (.putfield 17, 3) := by decide +kernel
theorem dX0_step_37 : decode cX0_step 37 = .ok (.lload_n 1, 1) := by decide +kernel
theorem dX0_step_38 : decode cX0_step 38 = .ok (.bipush 27, 2) := by decide +kernel
theorem dX0_step_40 : decode cX0_step 40 = .ok (.lshr, 1) := by decide +kernel
theorem dX0_step_41 : decode cX0_step 41 = .ok (.l2i, 1) := by decide +kernel
theorem dX0_step_42 : decode cX0_step 42 = .ok (.sipush 511, 3) := by decide +kernel
theorem dX0_step_45 : decode cX0_step 45 = .ok (.iand, 1) := by decide +kernel
theorem dX0_step_46 : decode cX0_step 46 = .ok (.istore 4, 2) := by decide +kernel
theorem dX0_step_48 : decode cX0_step 48 = .ok (.lload_n 1, 1) := by decide +kernel
theorem dX0_step_49 : decode cX0_step 49 = .ok (.bipush 23, 2) := by decide +kernel
theorem dX0_step_51 : decode cX0_step 51 = .ok (.lshr, 1) := by decide +kernel
theorem dX0_step_52 : decode cX0_step 52 = .ok (.l2i, 1) := by decide +kernel
theorem dX0_step_53 : decode cX0_step 53 = .ok (.bipush 15, 2) := by decide +kernel
theorem dX0_step_55 : decode cX0_step 55 = .ok (.iand, 1) := by decide +kernel
theorem dX0_step_56 : decode cX0_step 56 = .ok (.istore 5, 2) := by decide +kernel
theorem dX0_step_58 : decode cX0_step 58 = .ok (.aload_n 0, 1) := by decide +kernel
theorem dX0_step_59 : decode cX0_step 59 = .ok (.iload 4, 2) := by decide +kernel
theorem dX0_step_61 : decode cX0_step 61 = .ok (.iload 5, 2) := by decide +kernel
theorem dX0_step_63 : decode cX0_step 63 = .ok (.iload_n 3, 1) := by decide +kernel
theorem dX0_step_64 : decode cX0_step 64 = .ok (.invokevirtual 47, 3) := by decide +kernel
theorem dX0_step_67 : decode cX0_step 67 = .ok (.ireturn, 1) := by decide +kernel
set_option maxRecDepth 20000 in
theorem ggX0_effective_X0_indexed : GoodIn wsX0_effective wsX0_indexed := goodIn_r _ [6, 1, 7, 8, 9, 5, 10, 14, 15, 16, 17, 18] (by decide +kernel) (by decide +kernel)
set_option maxRecDepth 20000 in
theorem gX0_effective_X0_indexed : GoodIn wsX0_effective (wsV RX0 51 RX0 yX0_indexed wsX0_indexed) := goodIn_app (goodIn_of _ (by decide +kernel)) ggX0_effective_X0_indexed
set_option maxRecDepth 20000 in
theorem ggX0_effective_X0_isIndirect : GoodIn wsX0_effective wsX0_isIndirect := goodIn_r _ [13] (by decide +kernel) (by decide +kernel)
set_option maxRecDepth 20000 in
theorem gX0_effective_X0_isIndirect : GoodIn wsX0_effective (va_wsS RX0 54 yX0_isIndirect wsX0_isIndirect) := goodIn_app (goodIn_of _ (by decide +kernel)) ggX0_effective_X0_isIndirect
theorem dX0_effective_0 : decode cX0_effective 0 = .ok (.lload_n 1, 1) := by decide +kernel
theorem dX0_effective_1 : decode cX0_effective 1 = .ok (.lstore_n 3, 1) := by decide +kernel
theorem dX0_effective_2 : decode cX0_effective 2 = .ok (.aload_n 0, 1) := by decide +kernel
theorem dX0_effective_3 : decode cX0_effective 3 = .ok (.lload_n 3, 1) := by decide +kernel
theorem dX0_effective_4 : decode cX0_effective 4 = .ok (.invokevirtual 51, 3) := by decide +kernel
theorem dX0_effective_7 : decode cX0_effective 7 = .ok (.istore 5, 2) := by decide +kernel
theorem dX0_effective_9 : decode cX0_effective 9 = .ok (.iconst 0, 1) := by decide +kernel
theorem dX0_effective_10 : decode cX0_effective 10 = .ok (.istore 6, 2) := by decide +kernel
theorem dX0_effective_12 : decode cX0_effective 12 = .ok (.iload 6, 2) := by decide +kernel
theorem dX0_effective_14 : decode cX0_effective 14 = .ok (.bipush 20, 2) := by decide +kernel
theorem dX0_effective_16 : decode cX0_effective 16 = .ok (.if_icmp .ge 41, 3) := by decide +kernel
theorem dX0_effective_19 : decode cX0_effective 19 = .ok (.lload_n 3, 1) := by decide +kernel
theorem dX0_effective_20 : decode cX0_effective 20 = .ok (.invokestatic 54, 3) := by decide +kernel
theorem dX0_effective_23 : decode cX0_effective 23 = .ok (.ifCond .eq 34, 3) := by decide +kernel
theorem dX0_effective_26 : decode cX0_effective 26 = .ok (.iload 5, 2) := by decide +kernel
theorem dX0_effective_28 : decode cX0_effective 28 = .ok (.sipush 4096, 3) := by decide +kernel
theorem dX0_effective_31 : decode cX0_effective 31 = .ok (.if_icmp .lt 5, 3) := by decide +kernel
theorem dX0_effective_34 : decode cX0_effective 34 = .ok (.iconst (-1), 1) := by decide +kernel
theorem dX0_effective_35 : decode cX0_effective 35 = .ok (.ireturn, 1) := by decide +kernel
theorem dX0_effective_36 : decode cX0_effective 36 = .ok (.aload_n 0, 1) := by decide +kernel
theorem dX0_effective_37 : decode cX0_effective 37 = .ok (.getfield 9, 3) := by decide +kernel
theorem dX0_effective_40 : decode cX0_effective 40 = .ok (.iload 5, 2) := by decide +kernel
theorem dX0_effective_42 : decode cX0_effective 42 = .ok (.laload, 1) := by decide +kernel
theorem dX0_effective_43 : decode cX0_effective 43 = .ok (.lstore_n 3, 1) := by decide +kernel
theorem dX0_effective_44 : decode cX0_effective 44 = .ok (.aload_n 0, 1) := by decide +kernel
theorem dX0_effective_45 : decode cX0_effective 45 = .ok (.lload_n 3, 1) := by decide +kernel
theorem dX0_effective_46 : decode cX0_effective 46 = .ok (.invokevirtual 51, 3) := by decide +kernel
theorem dX0_effective_49 : decode cX0_effective 49 = .ok (.istore 5, 2) := by decide +kernel
theorem dX0_effective_51 : decode cX0_effective 51 = .ok (.iinc 6 1, 3) := by decide +kernel
theorem dX0_effective_54 : decode cX0_effective 54 = .ok (.goto (-42), 3) := by decide +kernel
theorem dX0_effective_57 : decode cX0_effective 57 = .ok (.iload 5, 2) := by decide +kernel
theorem dX0_effective_59 : decode cX0_effective 59 = .ok (.ireturn, 1) := by decide +kernel
set_option maxRecDepth 20000 in
theorem ggX0_indexed_X0_rightHalf : GoodIn wsX0_indexed wsX0_rightHalf := goodIn_r _ [6, 2] (by decide +kernel) (by decide +kernel)
set_option maxRecDepth 20000 in
theorem gX0_indexed_X0_rightHalf : GoodIn wsX0_indexed (va_wsS RX0 58 yX0_rightHalf wsX0_rightHalf) := goodIn_app (goodIn_of _ (by decide +kernel)) ggX0_indexed_X0_rightHalf
theorem dX0_indexed_0 : decode cX0_indexed 0 = .ok (.lload_n 1, 1) := by decide +kernel
theorem dX0_indexed_1 : decode cX0_indexed 1 = .ok (.bipush 18, 2) := by decide +kernel
theorem dX0_indexed_3 : decode cX0_indexed 3 = .ok (.lshr, 1) := by decide +kernel
theorem dX0_indexed_4 : decode cX0_indexed 4 = .ok (.l2i, 1) := by decide +kernel
theorem dX0_indexed_5 : decode cX0_indexed 5 = .ok (.bipush 15, 2) := by decide +kernel
theorem dX0_indexed_7 : decode cX0_indexed 7 = .ok (.iand, 1) := by decide +kernel
theorem dX0_indexed_8 : decode cX0_indexed 8 = .ok (.istore_n 3, 1) := by decide +kernel
theorem dX0_indexed_9 : decode cX0_indexed 9 = .ok (.lload_n 1, 1) := by decide +kernel
theorem dX0_indexed_10 : decode cX0_indexed 10 = .ok (.invokestatic 58, 3) := by decide +kernel
theorem dX0_indexed_13 : decode cX0_indexed 13 = .ok (.istore 4, 2) := by decide +kernel
theorem dX0_indexed_15 : decode cX0_indexed 15 = .ok (.iload_n 3, 1) := by decide +kernel
theorem dX0_indexed_16 : decode cX0_indexed 16 = .ok (.ifCond .ne 8, 3) := by decide +kernel
theorem dX0_indexed_19 : decode cX0_indexed 19 = .ok (.iload 4, 2) := by decide +kernel
theorem dX0_indexed_21 : decode cX0_indexed 21 = .ok (.goto 18, 3) := by decide +kernel
theorem dX0_indexed_24 : decode cX0_indexed 24 = .ok (.iload 4, 2) := by decide +kernel
theorem dX0_indexed_26 : decode cX0_indexed 26 = .ok (.aload_n 0, 1) := by decide +kernel
theorem dX0_indexed_27 : decode cX0_indexed 27 = .ok (.getfield 9, 3) := by decide +kernel
theorem dX0_indexed_30 : decode cX0_indexed 30 = .ok (.iload_n 3, 1) := by decide +kernel
theorem dX0_indexed_31 : decode cX0_indexed 31 = .ok (.laload, 1) := by decide +kernel
theorem dX0_indexed_32 : decode cX0_indexed 32 = .ok (.invokestatic 58, 3) := by decide +kernel
theorem dX0_indexed_35 : decode cX0_indexed 35 = .ok (.iadd, 1) := by decide +kernel
theorem dX0_indexed_36 : decode cX0_indexed 36 = .ok (.ldc 34, 2) := by decide +kernel
theorem dX0_indexed_38 : decode cX0_indexed 38 = .ok (.iand, 1) := by decide +kernel
theorem dX0_indexed_39 : decode cX0_indexed 39 = .ok (.ireturn, 1) := by decide +kernel
theorem dX0_isIndirect_0 : decode cX0_isIndirect 0 = .ok (.lload_n 0, 1) := by decide +kernel
theorem dX0_isIndirect_1 : decode cX0_isIndirect 1 = .ok (.bipush 22, 2) := by decide +kernel
theorem dX0_isIndirect_3 : decode cX0_isIndirect 3 = .ok (.lshr, 1) := by decide +kernel
theorem dX0_isIndirect_4 : decode cX0_isIndirect 4 = .ok (.lconst 1, 1) := by decide +kernel
theorem dX0_isIndirect_5 : decode cX0_isIndirect 5 = .ok (.land, 1) := by decide +kernel
theorem dX0_isIndirect_6 : decode cX0_isIndirect 6 = .ok (.lconst 1, 1) := by decide +kernel
theorem dX0_isIndirect_7 : decode cX0_isIndirect 7 = .ok (.lcmp, 1) := by decide +kernel
theorem dX0_isIndirect_8 : decode cX0_isIndirect 8 = .ok (.ifCond .ne 7, 3) := by decide +kernel
theorem dX0_isIndirect_11 : decode cX0_isIndirect 11 = .ok (.iconst 1, 1) := by decide +kernel
theorem dX0_isIndirect_12 : decode cX0_isIndirect 12 = .ok (.goto 4, 3) := by decide +kernel
theorem dX0_isIndirect_15 : decode cX0_isIndirect 15 = .ok (.iconst 0, 1) := by decide +kernel
theorem dX0_isIndirect_16 : decode cX0_isIndirect 16 = .ok (.ireturn, 1) := by decide +kernel
set_option maxRecDepth 20000 in
theorem ggX0_perform_X0_combine : GoodIn wsX0_perform wsX0_combine := goodIn_r _ [5, 6, 7, 8, 4, 9, 10, 11, 12, 13, 14, 15, 16, 17, 18, 19, 20, 21, 22, 23, 24, 25, 26, 27, 28, 29, 30, 31, 32, 33, 34, 35, 36, 37, 38, 39, 104, 105, 106, 107, 108] rfl (by decide +kernel)
set_option maxRecDepth 20000 in
theorem gX0_perform_X0_combine : GoodIn wsX0_perform (wsV RX0 61 RX0 yX0_combine wsX0_combine) := goodIn_app (goodIn_of _ (by decide +kernel)) ggX0_perform_X0_combine
set_option maxRecDepth 20000 in
theorem ggX0_perform_X0_divide : GoodIn wsX0_perform wsX0_divide := goodIn_r _ [43, 6, 28, 44, 29, 30, 4, 31, 35, 36, 37, 38, 39, 104, 105, 106, 107, 108] rfl (by decide +kernel)
set_option maxRecDepth 20000 in
theorem gX0_perform_X0_divide : GoodIn wsX0_perform (wsV RX0 65 RX0 yX0_divide wsX0_divide) := goodIn_app (goodIn_of _ (by decide +kernel)) ggX0_perform_X0_divide
set_option maxRecDepth 20000 in
theorem ggX0_perform_X0_jump : GoodIn wsX0_perform wsX0_jump := goodIn_r _ [48, 49, 104, 105, 106, 107, 108] (by decide +kernel) (by decide +kernel)
set_option maxRecDepth 20000 in
theorem gX0_perform_X0_jump : GoodIn wsX0_perform (wsV RX0 69 RX0 yX0_jump wsX0_jump) := goodIn_app (goodIn_of _ (by decide +kernel)) ggX0_perform_X0_jump
set_option maxRecDepth 20000 in
theorem ggX0_perform_X0_pushNextPlace : GoodIn wsX0_perform wsX0_pushNextPlace := goodIn_r _ [53, 49, 54, 55, 56, 4, 57, 6, 17, 14, 15, 16, 58, 59, 60, 61, 13, 35, 36, 37, 38, 39, 45, 46, 47, 48, 104, 105, 106, 107, 108] rfl (by decide +kernel)
set_option maxRecDepth 20000 in
theorem gX0_perform_X0_pushNextPlace : GoodIn wsX0_perform (wsV RX0 73 RX0 yX0_pushNextPlace wsX0_pushNextPlace) := goodIn_app (goodIn_of _ (by decide +kernel)) ggX0_perform_X0_pushNextPlace
set_option maxRecDepth 20000 in
theorem ggX0_perform_X0_popToPc : GoodIn wsX0_perform wsX0_popToPc := goodIn_r _ [65, 6, 14, 15, 4, 16, 17, 45, 46, 47, 48, 49, 58, 59, 60, 61, 13, 35, 36, 37, 38, 39, 104, 105, 106, 107, 108] rfl (by decide +kernel)
set_option maxRecDepth 20000 in
theorem gX0_perform_X0_popToPc : GoodIn wsX0_perform (wsV RX0 77 RX0 yX0_popToPc wsX0_popToPc) := goodIn_app (goodIn_of _ (by decide +kernel)) ggX0_perform_X0_popToPc
set_option maxRecDepth 20000 in
theorem ggX0_perform_X0_performOnMemory : GoodIn wsX0_perform wsX0_performOnMemory := goodIn_r _ [69, 6, 35, 36, 37, 4, 38, 39, 40, 41, 42, 43, 28, 44, 29, 30, 31, 70, 71, 72, 73, 54, 55, 56, 57, 17, 14, 15, 16, 58, 59, 60, 61, 13, 74, 75, 76, 77, 78, 79, 80, 81, 49, 45, 46, 47, 48, 1, 2, 3, 5, 7, 8, 9, 10, 11, 12, 18, 19, 20, 21, 22, 23, 24, 25, 26, 27, 32, 33, 34, 104, 105, 106, 107, 108] rfl (by decide +kernel)
set_option maxRecDepth 20000 in
theorem gX0_perform_X0_performOnMemory : GoodIn wsX0_perform (wsV RX0 80 RX0 yX0_performOnMemory wsX0_performOnMemory) := goodIn_app (goodIn_of _ (by decide +kernel)) ggX0_perform_X0_performOnMemory
set_option maxRecDepth 20000 in
theorem ggX0_perform_X0_isTest : GoodIn wsX0_perform wsX0_isTest := goodIn_r _ [84] (by decide +kernel) (by decide +kernel)
set_option maxRecDepth 20000 in
theorem gX0_perform_X0_isTest : GoodIn wsX0_perform (va_wsS RX0 83 yX0_isTest wsX0_isTest) := goodIn_app (goodIn_of _ (by decide +kernel)) ggX0_perform_X0_isTest
set_option maxRecDepth 20000 in
theorem ggX0_perform_X0_test : GoodIn wsX0_perform wsX0_test := goodIn_r _ [88, 6, 89, 90, 4, 91, 29, 30, 31, 92, 93, 94, 95, 49, 45, 46, 47, 48, 96, 97, 98, 99, 35, 36, 37, 38, 39, 100, 101, 102, 103, 104, 105, 106, 107, 108] rfl (by decide +kernel)
set_option maxRecDepth 20000 in
theorem gX0_perform_X0_test : GoodIn wsX0_perform (wsV RX0 87 RX0 yX0_test wsX0_test) := goodIn_app (goodIn_of _ (by decide +kernel)) ggX0_perform_X0_test
theorem dX0_perform_0 : decode cX0_perform 0 = .ok (.iload_n 1, 1) := by decide +kernel
theorem dX0_perform_1 : decode cX0_perform 1 = .ok (.lookupswitch 372 #[(0, 315), (128, 353), (129, 317), (130, 353), (132, 353), (136, 353), (140, 353), (144, 353), (145, 317), (152, 353), (153, 326), (162, 317), (168, 353), (172, 334), (176, 340), (177, 353), (178, 353), (179, 347), (180, 353), (184, 353), (185, 317), (188, 353), (189, 317), (256, 317), (258, 353), (260, 353), (261, 317), (280, 353), (281, 317), (284, 353), (285, 317), (296, 317), (320, 353), (324, 353), (352, 353), (356, 353), (360, 353), (364, 353)], 315) := by decide +kernel
theorem dX0_perform_316 : decode cX0_perform 316 = .ok (.iconst (-1), 1) := by decide +kernel
theorem dX0_perform_317 : decode cX0_perform 317 = .ok (.ireturn, 1) := by decide +kernel
theorem dX0_perform_318 : decode cX0_perform 318 = .ok (.aload_n 0, 1) := by decide +kernel
theorem dX0_perform_319 : decode cX0_perform 319 = .ok (.iload_n 1, 1) := by decide +kernel
theorem dX0_perform_320 : decode cX0_perform 320 = .ok (.iload_n 2, 1) := by decide +kernel
theorem dX0_perform_321 : decode cX0_perform 321 = .ok (.iload_n 3, 1) := by decide +kernel
theorem dX0_perform_322 : decode cX0_perform 322 = .ok (.i2l, 1) := by decide +kernel
theorem dX0_perform_323 : decode cX0_perform 323 = .ok (.invokevirtual 61, 3) := by decide +kernel
theorem dX0_perform_326 : decode cX0_perform 326 = .ok (.ireturn, 1) := by decide +kernel
theorem dX0_perform_327 : decode cX0_perform 327 = .ok (.aload_n 0, 1) := by decide +kernel
theorem dX0_perform_328 : decode cX0_perform 328 = .ok (.iload_n 2, 1) := by decide +kernel
theorem dX0_perform_329 : decode cX0_perform 329 = .ok (.iload_n 3, 1) := by decide +kernel
theorem dX0_perform_330 : decode cX0_perform 330 = .ok (.i2l, 1) := by decide +kernel
theorem dX0_perform_331 : decode cX0_perform 331 = .ok (.invokevirtual 65, 3) := by decide +kernel
theorem dX0_perform_334 : decode cX0_perform 334 = .ok (.ireturn, 1) := by decide +kernel
theorem dX0_perform_335 : decode cX0_perform 335 = .ok (.aload_n 0, 1) := by decide +kernel
theorem dX0_perform_336 : decode cX0_perform 336 = .ok (.iload_n 3, 1) := by decide +kernel
theorem dX0_perform_337 : decode cX0_perform 337 = .ok (.invokevirtual 69, 3) := by decide +kernel
theorem dX0_perform_340 : decode cX0_perform 340 = .ok (.ireturn, 1) := by decide +kernel
theorem dX0_perform_341 : decode cX0_perform 341 = .ok (.aload_n 0, 1) := by decide +kernel
theorem dX0_perform_342 : decode cX0_perform 342 = .ok (.iload_n 2, 1) := by decide +kernel
theorem dX0_perform_343 : decode cX0_perform 343 = .ok (.iload_n 3, 1) := by decide +kernel
theorem dX0_perform_344 : decode cX0_perform 344 = .ok (.invokevirtual 73, 3) := by decide +kernel
theorem dX0_perform_347 : decode cX0_perform 347 = .ok (.ireturn, 1) := by decide +kernel
theorem dX0_perform_348 : decode cX0_perform 348 = .ok (.aload_n 0, 1) := by decide +kernel
theorem dX0_perform_349 : decode cX0_perform 349 = .ok (.iload_n 2, 1) := by decide +kernel
theorem dX0_perform_350 : decode cX0_perform 350 = .ok (.invokevirtual 77, 3) := by decide +kernel
theorem dX0_perform_353 : decode cX0_perform 353 = .ok (.ireturn, 1) := by decide +kernel
theorem dX0_perform_354 : decode cX0_perform 354 = .ok (.iload_n 3, 1) := by decide +kernel
theorem dX0_perform_355 : decode cX0_perform 355 = .ok (.sipush 4096, 3) := by decide +kernel
theorem dX0_perform_358 : decode cX0_perform 358 = .ok (.if_icmp .lt 7, 3) := by decide +kernel
theorem dX0_perform_361 : decode cX0_perform 361 = .ok (.iconst 2, 1) := by decide +kernel
theorem dX0_perform_362 : decode cX0_perform 362 = .ok (.goto 10, 3) := by decide +kernel
theorem dX0_perform_365 : decode cX0_perform 365 = .ok (.aload_n 0, 1) := by decide +kernel
theorem dX0_perform_366 : decode cX0_perform 366 = .ok (.iload_n 1, 1) := by decide +kernel
theorem dX0_perform_367 : decode cX0_perform 367 = .ok (.iload_n 2, 1) := by decide +kernel
theorem dX0_perform_368 : decode cX0_perform 368 = .ok (.iload_n 3, 1) := by decide +kernel
theorem dX0_perform_369 : decode cX0_perform 369 = .ok (.invokevirtual 80, 3) := by decide +kernel
theorem dX0_perform_372 : decode cX0_perform 372 = .ok (.ireturn, 1) := by decide +kernel
theorem dX0_perform_373 : decode cX0_perform 373 = .ok (.iload_n 1, 1) := by decide +kernel
theorem dX0_perform_374 : decode cX0_perform 374 = .ok (.invokestatic 83, 3) := by decide +kernel
theorem dX0_perform_377 : decode cX0_perform 377 = .ok (.ifCond .eq 13, 3) := by decide +kernel
theorem dX0_perform_380 : decode cX0_perform 380 = .ok (.aload_n 0, 1) := by decide +kernel
theorem dX0_perform_381 : decode cX0_perform 381 = .ok (.iload_n 1, 1) := by decide +kernel
theorem dX0_perform_382 : decode cX0_perform 382 = .ok (.iload_n 2, 1) := by decide +kernel
theorem dX0_perform_383 : decode cX0_perform 383 = .ok (.iload_n 3, 1) := by decide +kernel
theorem dX0_perform_384 : decode cX0_perform 384 = .ok (.invokevirtual 87, 3) := by decide +kernel
theorem dX0_perform_387 : decode cX0_perform 387 = .ok (.goto 4, 3) := by decide +kernel
theorem dX0_perform_390 : decode cX0_perform 390 = .ok (.iconst 1, 1) := by decide +kernel
theorem dX0_perform_391 : decode cX0_perform 391 = .ok (.ireturn, 1) := by decide +kernel
set_option maxRecDepth 20000 in
theorem ggX0_performOnMemory_X0_store : GoodIn wsX0_performOnMemory wsX0_store := goodIn_r _ [6, 1, 7, 70, 71, 72, 73, 74] (by decide +kernel) (by decide +kernel)
set_option maxRecDepth 20000 in
theorem gX0_performOnMemory_X0_store : GoodIn wsX0_performOnMemory (wsV RX0 30 RX0 yX0_store wsX0_store) := goodIn_app (goodIn_of _ (by decide +kernel)) ggX0_performOnMemory_X0_store
set_option maxRecDepth 20000 in
theorem ggX0_performOnMemory_X0_divide : GoodIn wsX0_performOnMemory wsX0_divide := goodIn_r _ [11, 1, 12, 13, 14, 15, 5, 16, 2, 3, 4, 6, 7, 70, 71, 72, 73, 74] rfl (by decide +kernel)
set_option maxRecDepth 20000 in
theorem gX0_performOnMemory_X0_divide : GoodIn wsX0_performOnMemory (wsV RX0 65 RX0 yX0_divide wsX0_divide) := goodIn_app (goodIn_of _ (by decide +kernel)) ggX0_performOnMemory_X0_divide
set_option maxRecDepth 20000 in
theorem ggX0_performOnMemory_X0_exchange : GoodIn wsX0_performOnMemory wsX0_exchange := goodIn_r _ [20, 1, 2, 3, 4, 5, 6, 7, 70, 71, 72, 73, 74] rfl (by decide +kernel)
set_option maxRecDepth 20000 in
theorem gX0_performOnMemory_X0_exchange : GoodIn wsX0_performOnMemory (wsV RX0 90 RX0 yX0_exchange wsX0_exchange) := goodIn_app (goodIn_of _ (by decide +kernel)) ggX0_performOnMemory_X0_exchange
set_option maxRecDepth 20000 in
theorem ggX0_performOnMemory_X0_push : GoodIn wsX0_performOnMemory wsX0_push := goodIn_r _ [24, 1, 25, 26, 27, 5, 28, 29, 30, 31, 32, 33, 2, 3, 4, 6, 7, 70, 71, 72, 73, 74] rfl (by decide +kernel)
set_option maxRecDepth 20000 in
theorem gX0_performOnMemory_X0_push : GoodIn wsX0_performOnMemory (wsV RX0 93 RX0 yX0_push wsX0_push) := goodIn_app (goodIn_of _ (by decide +kernel)) ggX0_performOnMemory_X0_push
set_option maxRecDepth 20000 in
theorem ggX0_performOnMemory_X0_popToMemory : GoodIn wsX0_performOnMemory wsX0_popToMemory := goodIn_r _ [37, 1, 26, 27, 5, 28, 25, 2, 3, 4, 6, 7, 29, 30, 31, 32, 33, 70, 71, 72, 73, 74] rfl (by decide +kernel)
set_option maxRecDepth 20000 in
theorem gX0_performOnMemory_X0_popToMemory : GoodIn wsX0_performOnMemory (wsV RX0 96 RX0 yX0_popToMemory wsX0_popToMemory) := goodIn_app (goodIn_of _ (by decide +kernel)) ggX0_performOnMemory_X0_popToMemory
set_option maxRecDepth 20000 in
theorem ggX0_performOnMemory_X0_leaveNextPlaceAndJump : GoodIn wsX0_performOnMemory wsX0_leaveNextPlaceAndJump := goodIn_r _ [41, 42, 2, 3, 4, 5, 6, 1, 7, 43, 44, 45, 46, 70, 71, 72, 73, 74] rfl (by decide +kernel)
set_option maxRecDepth 20000 in
theorem gX0_performOnMemory_X0_leaveNextPlaceAndJump : GoodIn wsX0_performOnMemory (wsV RX0 99 RX0 yX0_leaveNextPlaceAndJump wsX0_leaveNextPlaceAndJump) := goodIn_app (goodIn_of _ (by decide +kernel)) ggX0_performOnMemory_X0_leaveNextPlaceAndJump
set_option maxRecDepth 20000 in
theorem ggX0_performOnMemory_X0_combine : GoodIn wsX0_performOnMemory wsX0_combine := goodIn_r _ [50, 1, 51, 52, 5, 53, 54, 55, 56, 33, 26, 27, 28, 25, 57, 58, 59, 60, 61, 62, 63, 64, 65, 66, 12, 14, 15, 16, 67, 68, 69, 2, 3, 4, 6, 7, 70, 71, 72, 73, 74] rfl (by decide +kernel)
set_option maxRecDepth 20000 in
theorem gX0_performOnMemory_X0_combine : GoodIn wsX0_performOnMemory (wsV RX0 61 RX0 yX0_combine wsX0_combine) := goodIn_app (goodIn_of _ (by decide +kernel)) ggX0_performOnMemory_X0_combine
theorem dX0_performOnMemory_0 : decode cX0_performOnMemory 0 = .ok (.iload_n 1, 1) := by decide +kernel
theorem dX0_performOnMemory_1 : decode cX0_performOnMemory 1 = .ok (.lookupswitch 132 #[(130, 67), (152, 80), (168, 92), (177, 99), (178, 111), (180, 118), (258, 124)], 67) := by decide +kernel
theorem dX0_performOnMemory_68 : decode cX0_performOnMemory 68 = .ok (.aload_n 0, 1) := by decide +kernel
theorem dX0_performOnMemory_69 : decode cX0_performOnMemory 69 = .ok (.iload_n 3, 1) := by decide +kernel
theorem dX0_performOnMemory_70 : decode cX0_performOnMemory 70 = .ok (.aload_n 0, 1) := by decide +kernel
theorem dX0_performOnMemory_71 : decode cX0_performOnMemory 71 = .ok (.getfield 9, 3) := by decide +kernel
theorem dX0_performOnMemory_74 : decode cX0_performOnMemory 74 = .ok (.iload_n 2, 1) := by decide +kernel
theorem dX0_performOnMemory_75 : decode cX0_performOnMemory 75 = .ok (.laload, 1) := by decide +kernel
theorem dX0_performOnMemory_76 : decode cX0_performOnMemory 76 = .ok (.invokevirtual 30, 3) := by decide +kernel
theorem dX0_performOnMemory_79 : decode cX0_performOnMemory 79 = .ok (.iconst 0, 1) := by decide +kernel
theorem dX0_performOnMemory_80 : decode cX0_performOnMemory 80 = .ok (.ireturn, 1) := by decide +kernel
theorem dX0_performOnMemory_81 : decode cX0_performOnMemory 81 = .ok (.aload_n 0, 1) := by decide +kernel
theorem dX0_performOnMemory_82 : decode cX0_performOnMemory 82 = .ok (.iload_n 2, 1) := by decide +kernel
theorem dX0_performOnMemory_83 : decode cX0_performOnMemory 83 = .ok (.aload_n 0, 1) := by decide +kernel
theorem dX0_performOnMemory_84 : decode cX0_performOnMemory 84 = .ok (.getfield 9, 3) := by decide +kernel
theorem dX0_performOnMemory_87 : decode cX0_performOnMemory 87 = .ok (.iload_n 3, 1) := by decide +kernel
theorem dX0_performOnMemory_88 : decode cX0_performOnMemory 88 = .ok (.laload, 1) := by decide +kernel
theorem dX0_performOnMemory_89 : decode cX0_performOnMemory 89 = .ok (.invokevirtual 65, 3) := by decide +kernel
theorem dX0_performOnMemory_92 : decode cX0_performOnMemory 92 = .ok (.ireturn, 1) := by decide +kernel
theorem dX0_performOnMemory_93 : decode cX0_performOnMemory 93 = .ok (.aload_n 0, 1) := by decide +kernel
theorem dX0_performOnMemory_94 : decode cX0_performOnMemory 94 = .ok (.iload_n 2, 1) := by decide +kernel
theorem dX0_performOnMemory_95 : decode cX0_performOnMemory 95 = .ok (.iload_n 3, 1) := by decide +kernel
theorem dX0_performOnMemory_96 : decode cX0_performOnMemory 96 = .ok (.invokevirtual 90, 3) := by decide +kernel
theorem dX0_performOnMemory_99 : decode cX0_performOnMemory 99 = .ok (.ireturn, 1) := by decide +kernel
theorem dX0_performOnMemory_100 : decode cX0_performOnMemory 100 = .ok (.aload_n 0, 1) := by decide +kernel
theorem dX0_performOnMemory_101 : decode cX0_performOnMemory 101 = .ok (.iload_n 2, 1) := by decide +kernel
theorem dX0_performOnMemory_102 : decode cX0_performOnMemory 102 = .ok (.aload_n 0, 1) := by decide +kernel
theorem dX0_performOnMemory_103 : decode cX0_performOnMemory 103 = .ok (.getfield 9, 3) := by decide +kernel
theorem dX0_performOnMemory_106 : decode cX0_performOnMemory 106 = .ok (.iload_n 3, 1) := by decide +kernel
theorem dX0_performOnMemory_107 : decode cX0_performOnMemory 107 = .ok (.laload, 1) := by decide +kernel
theorem dX0_performOnMemory_108 : decode cX0_performOnMemory 108 = .ok (.invokevirtual 93, 3) := by decide +kernel
theorem dX0_performOnMemory_111 : decode cX0_performOnMemory 111 = .ok (.ireturn, 1) := by decide +kernel
theorem dX0_performOnMemory_112 : decode cX0_performOnMemory 112 = .ok (.aload_n 0, 1) := by decide +kernel
theorem dX0_performOnMemory_113 : decode cX0_performOnMemory 113 = .ok (.iload_n 2, 1) := by decide +kernel
theorem dX0_performOnMemory_114 : decode cX0_performOnMemory 114 = .ok (.iload_n 3, 1) := by decide +kernel
theorem dX0_performOnMemory_115 : decode cX0_performOnMemory 115 = .ok (.invokevirtual 96, 3) := by decide +kernel
theorem dX0_performOnMemory_118 : decode cX0_performOnMemory 118 = .ok (.ireturn, 1) := by decide +kernel
theorem dX0_performOnMemory_119 : decode cX0_performOnMemory 119 = .ok (.aload_n 0, 1) := by decide +kernel
theorem dX0_performOnMemory_120 : decode cX0_performOnMemory 120 = .ok (.iload_n 3, 1) := by decide +kernel
theorem dX0_performOnMemory_121 : decode cX0_performOnMemory 121 = .ok (.invokevirtual 99, 3) := by decide +kernel
theorem dX0_performOnMemory_124 : decode cX0_performOnMemory 124 = .ok (.ireturn, 1) := by decide +kernel
theorem dX0_performOnMemory_125 : decode cX0_performOnMemory 125 = .ok (.aload_n 0, 1) := by decide +kernel
theorem dX0_performOnMemory_126 : decode cX0_performOnMemory 126 = .ok (.iload_n 3, 1) := by decide +kernel
theorem dX0_performOnMemory_127 : decode cX0_performOnMemory 127 = .ok (.lconst 0, 1) := by decide +kernel
theorem dX0_performOnMemory_128 : decode cX0_performOnMemory 128 = .ok (.invokevirtual 30, 3) := by decide +kernel
theorem dX0_performOnMemory_131 : decode cX0_performOnMemory 131 = .ok (.iconst 0, 1) := by decide +kernel
theorem dX0_performOnMemory_132 : decode cX0_performOnMemory 132 = .ok (.ireturn, 1) := by decide +kernel
theorem dX0_performOnMemory_133 : decode cX0_performOnMemory 133 = .ok (.aload_n 0, 1) := by decide +kernel
theorem dX0_performOnMemory_134 : decode cX0_performOnMemory 134 = .ok (.iload_n 1, 1) := by decide +kernel
theorem dX0_performOnMemory_135 : decode cX0_performOnMemory 135 = .ok (.iload_n 2, 1) := by decide +kernel
theorem dX0_performOnMemory_136 : decode cX0_performOnMemory 136 = .ok (.aload_n 0, 1) := by decide +kernel
theorem dX0_performOnMemory_137 : decode cX0_performOnMemory 137 = .ok (.getfield 9, 3) := by decide +kernel
theorem dX0_performOnMemory_140 : decode cX0_performOnMemory 140 = .ok (.iload_n 3, 1) := by decide +kernel
theorem dX0_performOnMemory_141 : decode cX0_performOnMemory 141 = .ok (.laload, 1) := by decide +kernel
theorem dX0_performOnMemory_142 : decode cX0_performOnMemory 142 = .ok (.invokevirtual 61, 3) := by decide +kernel
theorem dX0_performOnMemory_145 : decode cX0_performOnMemory 145 = .ok (.ireturn, 1) := by decide +kernel
set_option maxRecDepth 20000 in
theorem ggX0_combine_X0_isOfHalves : GoodIn wsX0_combine wsX0_isOfHalves := goodIn_r _ [5] (by decide +kernel) (by decide +kernel)
set_option maxRecDepth 20000 in
theorem gX0_combine_X0_isOfHalves : GoodIn wsX0_combine (va_wsS RX0 102 yX0_isOfHalves wsX0_isOfHalves) := goodIn_app (goodIn_of _ (by decide +kernel)) ggX0_combine_X0_isOfHalves
set_option maxRecDepth 20000 in
theorem ggX0_combine_X0_ofHalves : GoodIn wsX0_combine wsX0_ofHalves := goodIn_r _ [8, 9, 10, 11, 4, 12, 13, 14, 15, 16] (by decide +kernel) (by decide +kernel)
set_option maxRecDepth 20000 in
theorem gX0_combine_X0_ofHalves : GoodIn wsX0_combine (va_wsS RX0 105 yX0_ofHalves wsX0_ofHalves) := goodIn_app (goodIn_of _ (by decide +kernel)) ggX0_combine_X0_ofHalves
set_option maxRecDepth 20000 in
theorem ggX0_combine_X0_ofWords : GoodIn wsX0_combine wsX0_ofWords := goodIn_r _ [19, 20, 21, 22, 23, 24, 14, 15, 4, 16, 13, 25, 26, 27, 28, 29, 30] rfl (by decide +kernel)
set_option maxRecDepth 20000 in
theorem gX0_combine_X0_ofWords : GoodIn wsX0_combine (va_wsS RX0 109 yX0_ofWords wsX0_ofWords) := goodIn_app (goodIn_of _ (by decide +kernel)) ggX0_combine_X0_ofWords
set_option maxRecDepth 20000 in
theorem ggX0_combine_X0_store : GoodIn wsX0_combine wsX0_store := goodIn_r _ [34, 1, 35, 36, 37, 38, 39, 40] (by decide +kernel) (by decide +kernel)
set_option maxRecDepth 20000 in
theorem gX0_combine_X0_store : GoodIn wsX0_combine (wsV RX0 30 RX0 yX0_store wsX0_store) := goodIn_app (goodIn_of _ (by decide +kernel)) ggX0_combine_X0_store
theorem dX0_combine_0 : decode cX0_combine 0 = .ok (.aload_n 0, 1) := by decide +kernel
theorem dX0_combine_1 : decode cX0_combine 1 = .ok (.getfield 9, 3) := by decide +kernel
theorem dX0_combine_4 : decode cX0_combine 4 = .ok (.iload_n 2, 1) := by decide +kernel
theorem dX0_combine_5 : decode cX0_combine 5 = .ok (.laload, 1) := by decide +kernel
theorem dX0_combine_6 : decode cX0_combine 6 = .ok (.lstore 5, 2) := by decide +kernel
theorem dX0_combine_8 : decode cX0_combine 8 = .ok (.aload_n 0, 1) := by decide +kernel
theorem dX0_combine_9 : decode cX0_combine 9 = .ok (.iload_n 2, 1) := by decide +kernel
theorem dX0_combine_10 : decode cX0_combine 10 = .ok (.iload_n 1, 1) := by decide +kernel
theorem dX0_combine_11 : decode cX0_combine 11 = .ok (.invokestatic 102, 3) := by decide +kernel
theorem dX0_combine_14 : decode cX0_combine 14 = .ok (.ifCond .eq 13, 3) := by decide +kernel
theorem dX0_combine_17 : decode cX0_combine 17 = .ok (.iload_n 1, 1) := by decide +kernel
theorem dX0_combine_18 : decode cX0_combine 18 = .ok (.lload 5, 2) := by decide +kernel
theorem dX0_combine_20 : decode cX0_combine 20 = .ok (.lload_n 3, 1) := by decide +kernel
theorem dX0_combine_21 : decode cX0_combine 21 = .ok (.invokestatic 105, 3) := by decide +kernel
theorem dX0_combine_24 : decode cX0_combine 24 = .ok (.goto 10, 3) := by decide +kernel
theorem dX0_combine_27 : decode cX0_combine 27 = .ok (.iload_n 1, 1) := by decide +kernel
theorem dX0_combine_28 : decode cX0_combine 28 = .ok (.lload 5, 2) := by decide +kernel
theorem dX0_combine_30 : decode cX0_combine 30 = .ok (.lload_n 3, 1) := by decide +kernel
theorem dX0_combine_31 : decode cX0_combine 31 = .ok (.invokestatic 109, 3) := by decide +kernel
theorem dX0_combine_34 : decode cX0_combine 34 = .ok (.invokevirtual 30, 3) := by decide +kernel
theorem dX0_combine_37 : decode cX0_combine 37 = .ok (.iconst 0, 1) := by decide +kernel
theorem dX0_combine_38 : decode cX0_combine 38 = .ok (.ireturn, 1) := by decide +kernel
theorem dX0_isOfHalves_0 : decode cX0_isOfHalves 0 = .ok (.iload_n 0, 1) := by decide +kernel
theorem dX0_isOfHalves_1 : decode cX0_isOfHalves 1 = .ok (.sipush 320, 3) := by decide +kernel
theorem dX0_isOfHalves_4 : decode cX0_isOfHalves 4 = .ok (.if_icmp .lt 7, 3) := by decide +kernel
theorem dX0_isOfHalves_7 : decode cX0_isOfHalves 7 = .ok (.iconst 1, 1) := by decide +kernel
theorem dX0_isOfHalves_8 : decode cX0_isOfHalves 8 = .ok (.goto 4, 3) := by decide +kernel
theorem dX0_isOfHalves_11 : decode cX0_isOfHalves 11 = .ok (.iconst 0, 1) := by decide +kernel
theorem dX0_isOfHalves_12 : decode cX0_isOfHalves 12 = .ok (.ireturn, 1) := by decide +kernel
set_option maxRecDepth 20000 in
theorem ggX0_ofWords_X0_leftHalf : GoodIn wsX0_ofWords wsX0_leftHalf := goodIn_r _ [9, 10] (by decide +kernel) (by decide +kernel)
set_option maxRecDepth 20000 in
theorem gX0_ofWords_X0_leftHalf : GoodIn wsX0_ofWords (va_wsS RX0 112 yX0_leftHalf wsX0_leftHalf) := goodIn_app (goodIn_of _ (by decide +kernel)) ggX0_ofWords_X0_leftHalf
set_option maxRecDepth 20000 in
theorem ggX0_ofWords_X0_number : GoodIn wsX0_ofWords wsX0_number := goodIn_r _ [13] (by decide +kernel) (by decide +kernel)
set_option maxRecDepth 20000 in
theorem gX0_ofWords_X0_number : GoodIn wsX0_ofWords (va_wsS RX0 115 yX0_number wsX0_number) := goodIn_app (goodIn_of _ (by decide +kernel)) ggX0_ofWords_X0_number
set_option maxRecDepth 20000 in
theorem ggX0_ofWords_X0_shifted : GoodIn wsX0_ofWords wsX0_shifted := goodIn_r _ [16] (by decide +kernel) (by decide +kernel)
set_option maxRecDepth 20000 in
theorem gX0_ofWords_X0_shifted : GoodIn wsX0_ofWords (va_wsS RX0 124 yX0_shifted wsX0_shifted) := goodIn_app (goodIn_of _ (by decide +kernel)) ggX0_ofWords_X0_shifted
theorem dX0_ofWords_0 : decode cX0_ofWords 0 = .ok (.iload_n 0, 1) := by decide +kernel
theorem dX0_ofWords_1 : decode cX0_ofWords 1 = .ok (.lookupswitch 216 #[(132, 155), (136, 166), (140, 169), (144, 177), (145, 177), (162, 181), (184, 188), (185, 188), (188, 192), (189, 192), (256, 196), (260, 198), (261, 198), (280, 202), (281, 202), (284, 206), (285, 206), (296, 210)], 155) := by decide +kernel
theorem dX0_ofWords_156 : decode cX0_ofWords 156 = .ok (.lload_n 3, 1) := by decide +kernel
theorem dX0_ofWords_157 : decode cX0_ofWords 157 = .ok (.bipush 18, 2) := by decide +kernel
theorem dX0_ofWords_159 : decode cX0_ofWords 159 = .ok (.lshl, 1) := by decide +kernel
theorem dX0_ofWords_160 : decode cX0_ofWords 160 = .ok (.lload_n 3, 1) := by decide +kernel
theorem dX0_ofWords_161 : decode cX0_ofWords 161 = .ok (.invokestatic 112, 3) := by decide +kernel
theorem dX0_ofWords_164 : decode cX0_ofWords 164 = .ok (.i2l, 1) := by decide +kernel
theorem dX0_ofWords_165 : decode cX0_ofWords 165 = .ok (.lor, 1) := by decide +kernel
theorem dX0_ofWords_166 : decode cX0_ofWords 166 = .ok (.lreturn, 1) := by decide +kernel
theorem dX0_ofWords_167 : decode cX0_ofWords 167 = .ok (.lload_n 3, 1) := by decide +kernel
theorem dX0_ofWords_168 : decode cX0_ofWords 168 = .ok (.lneg, 1) := by decide +kernel
theorem dX0_ofWords_169 : decode cX0_ofWords 169 = .ok (.lreturn, 1) := by decide +kernel
theorem dX0_ofWords_170 : decode cX0_ofWords 170 = .ok (.lload_n 3, 1) := by decide +kernel
theorem dX0_ofWords_171 : decode cX0_ofWords 171 = .ok (.invokestatic 115, 3) := by decide +kernel
theorem dX0_ofWords_174 : decode cX0_ofWords 174 = .ok (.invokestatic 119, 3) := by decide +kernel
theorem dX0_ofWords_177 : decode cX0_ofWords 177 = .ok (.lreturn, 1) := by decide +kernel
theorem dX0_ofWords_178 : decode cX0_ofWords 178 = .ok (.lload_n 1, 1) := by decide +kernel
theorem dX0_ofWords_179 : decode cX0_ofWords 179 = .ok (.lload_n 3, 1) := by decide +kernel
theorem dX0_ofWords_180 : decode cX0_ofWords 180 = .ok (.lmul, 1) := by decide +kernel
theorem dX0_ofWords_181 : decode cX0_ofWords 181 = .ok (.lreturn, 1) := by decide +kernel
theorem dX0_ofWords_182 : decode cX0_ofWords 182 = .ok (.lload_n 1, 1) := by decide +kernel
theorem dX0_ofWords_183 : decode cX0_ofWords 183 = .ok (.lload_n 3, 1) := by decide +kernel
theorem dX0_ofWords_184 : decode cX0_ofWords 184 = .ok (.l2i, 1) := by decide +kernel
theorem dX0_ofWords_185 : decode cX0_ofWords 185 = .ok (.invokestatic 124, 3) := by decide +kernel
theorem dX0_ofWords_188 : decode cX0_ofWords 188 = .ok (.lreturn, 1) := by decide +kernel
theorem dX0_ofWords_189 : decode cX0_ofWords 189 = .ok (.lload_n 1, 1) := by decide +kernel
theorem dX0_ofWords_190 : decode cX0_ofWords 190 = .ok (.lload_n 3, 1) := by decide +kernel
theorem dX0_ofWords_191 : decode cX0_ofWords 191 = .ok (.ladd, 1) := by decide +kernel
theorem dX0_ofWords_192 : decode cX0_ofWords 192 = .ok (.lreturn, 1) := by decide +kernel
theorem dX0_ofWords_193 : decode cX0_ofWords 193 = .ok (.lload_n 1, 1) := by decide +kernel
theorem dX0_ofWords_194 : decode cX0_ofWords 194 = .ok (.lload_n 3, 1) := by decide +kernel
theorem dX0_ofWords_195 : decode cX0_ofWords 195 = .ok (.lsub, 1) := by decide +kernel
theorem dX0_ofWords_196 : decode cX0_ofWords 196 = .ok (.lreturn, 1) := by decide +kernel
theorem dX0_ofWords_197 : decode cX0_ofWords 197 = .ok (.lconst 0, 1) := by decide +kernel
theorem dX0_ofWords_198 : decode cX0_ofWords 198 = .ok (.lreturn, 1) := by decide +kernel
theorem dX0_ofWords_199 : decode cX0_ofWords 199 = .ok (.lload_n 1, 1) := by decide +kernel
theorem dX0_ofWords_200 : decode cX0_ofWords 200 = .ok (.lload_n 3, 1) := by decide +kernel
theorem dX0_ofWords_201 : decode cX0_ofWords 201 = .ok (.land, 1) := by decide +kernel
theorem dX0_ofWords_202 : decode cX0_ofWords 202 = .ok (.lreturn, 1) := by decide +kernel
theorem dX0_ofWords_203 : decode cX0_ofWords 203 = .ok (.lload_n 1, 1) := by decide +kernel
theorem dX0_ofWords_204 : decode cX0_ofWords 204 = .ok (.lload_n 3, 1) := by decide +kernel
theorem dX0_ofWords_205 : decode cX0_ofWords 205 = .ok (.lxor, 1) := by decide +kernel
theorem dX0_ofWords_206 : decode cX0_ofWords 206 = .ok (.lreturn, 1) := by decide +kernel
theorem dX0_ofWords_207 : decode cX0_ofWords 207 = .ok (.lload_n 1, 1) := by decide +kernel
theorem dX0_ofWords_208 : decode cX0_ofWords 208 = .ok (.lload_n 3, 1) := by decide +kernel
theorem dX0_ofWords_209 : decode cX0_ofWords 209 = .ok (.lor, 1) := by decide +kernel
theorem dX0_ofWords_210 : decode cX0_ofWords 210 = .ok (.lreturn, 1) := by decide +kernel
theorem dX0_ofWords_211 : decode cX0_ofWords 211 = .ok (.lload_n 1, 1) := by decide +kernel
theorem dX0_ofWords_212 : decode cX0_ofWords 212 = .ok (.ldc2_w 128, 3) := by decide +kernel
theorem dX0_ofWords_215 : decode cX0_ofWords 215 = .ok (.lxor, 1) := by decide +kernel
theorem dX0_ofWords_216 : decode cX0_ofWords 216 = .ok (.lreturn, 1) := by decide +kernel
theorem dX0_ofWords_217 : decode cX0_ofWords 217 = .ok (.lload_n 3, 1) := by decide +kernel
theorem dX0_ofWords_218 : decode cX0_ofWords 218 = .ok (.lreturn, 1) := by decide +kernel
set_option maxRecDepth 20000 in
theorem ggX0_ofHalves_X0_rightHalf : GoodIn wsX0_ofHalves wsX0_rightHalf := goodIn_r _ [5, 6] (by decide +kernel) (by decide +kernel)
set_option maxRecDepth 20000 in
theorem gX0_ofHalves_X0_rightHalf : GoodIn wsX0_ofHalves (va_wsS RX0 58 yX0_rightHalf wsX0_rightHalf) := goodIn_app (goodIn_of _ (by decide +kernel)) ggX0_ofHalves_X0_rightHalf
set_option maxRecDepth 20000 in
theorem ggX0_ofHalves_X0_leftHalf : GoodIn wsX0_ofHalves wsX0_leftHalf := goodIn_r _ [9, 6] (by decide +kernel) (by decide +kernel)
set_option maxRecDepth 20000 in
theorem gX0_ofHalves_X0_leftHalf : GoodIn wsX0_ofHalves (va_wsS RX0 112 yX0_leftHalf wsX0_leftHalf) := goodIn_app (goodIn_of _ (by decide +kernel)) ggX0_ofHalves_X0_leftHalf
theorem dX0_ofHalves_0 : decode cX0_ofHalves 0 = .ok (.iload_n 0, 1) := by decide +kernel
theorem dX0_ofHalves_1 : decode cX0_ofHalves 1 = .ok (.lookupswitch 108 #[(320, 51), (324, 63), (352, 78), (356, 90), (360, 102)], 51) := by decide +kernel
theorem dX0_ofHalves_52 : decode cX0_ofHalves 52 = .ok (.lload_n 3, 1) := by decide +kernel
theorem dX0_ofHalves_53 : decode cX0_ofHalves 53 = .ok (.ldc2_w 130, 3) := by decide +kernel
theorem dX0_ofHalves_56 : decode cX0_ofHalves 56 = .ok (.land, 1) := by decide +kernel
theorem dX0_ofHalves_57 : decode cX0_ofHalves 57 = .ok (.lload_n 1, 1) := by decide +kernel
theorem dX0_ofHalves_58 : decode cX0_ofHalves 58 = .ok (.invokestatic 58, 3) := by decide +kernel
theorem dX0_ofHalves_61 : decode cX0_ofHalves 61 = .ok (.i2l, 1) := by decide +kernel
theorem dX0_ofHalves_62 : decode cX0_ofHalves 62 = .ok (.lor, 1) := by decide +kernel
theorem dX0_ofHalves_63 : decode cX0_ofHalves 63 = .ok (.lreturn, 1) := by decide +kernel
theorem dX0_ofHalves_64 : decode cX0_ofHalves 64 = .ok (.lload_n 3, 1) := by decide +kernel
theorem dX0_ofHalves_65 : decode cX0_ofHalves 65 = .ok (.invokestatic 58, 3) := by decide +kernel
theorem dX0_ofHalves_68 : decode cX0_ofHalves 68 = .ok (.i2l, 1) := by decide +kernel
theorem dX0_ofHalves_69 : decode cX0_ofHalves 69 = .ok (.bipush 18, 2) := by decide +kernel
theorem dX0_ofHalves_71 : decode cX0_ofHalves 71 = .ok (.lshl, 1) := by decide +kernel
theorem dX0_ofHalves_72 : decode cX0_ofHalves 72 = .ok (.lload_n 1, 1) := by decide +kernel
theorem dX0_ofHalves_73 : decode cX0_ofHalves 73 = .ok (.invokestatic 58, 3) := by decide +kernel
theorem dX0_ofHalves_76 : decode cX0_ofHalves 76 = .ok (.i2l, 1) := by decide +kernel
theorem dX0_ofHalves_77 : decode cX0_ofHalves 77 = .ok (.lor, 1) := by decide +kernel
theorem dX0_ofHalves_78 : decode cX0_ofHalves 78 = .ok (.lreturn, 1) := by decide +kernel
theorem dX0_ofHalves_79 : decode cX0_ofHalves 79 = .ok (.lload_n 1, 1) := by decide +kernel
theorem dX0_ofHalves_80 : decode cX0_ofHalves 80 = .ok (.ldc2_w 130, 3) := by decide +kernel
theorem dX0_ofHalves_83 : decode cX0_ofHalves 83 = .ok (.land, 1) := by decide +kernel
theorem dX0_ofHalves_84 : decode cX0_ofHalves 84 = .ok (.lload_n 3, 1) := by decide +kernel
theorem dX0_ofHalves_85 : decode cX0_ofHalves 85 = .ok (.invokestatic 58, 3) := by decide +kernel
theorem dX0_ofHalves_88 : decode cX0_ofHalves 88 = .ok (.i2l, 1) := by decide +kernel
theorem dX0_ofHalves_89 : decode cX0_ofHalves 89 = .ok (.lor, 1) := by decide +kernel
theorem dX0_ofHalves_90 : decode cX0_ofHalves 90 = .ok (.lreturn, 1) := by decide +kernel
theorem dX0_ofHalves_91 : decode cX0_ofHalves 91 = .ok (.lload_n 1, 1) := by decide +kernel
theorem dX0_ofHalves_92 : decode cX0_ofHalves 92 = .ok (.ldc2_w 130, 3) := by decide +kernel
theorem dX0_ofHalves_95 : decode cX0_ofHalves 95 = .ok (.land, 1) := by decide +kernel
theorem dX0_ofHalves_96 : decode cX0_ofHalves 96 = .ok (.lload_n 3, 1) := by decide +kernel
theorem dX0_ofHalves_97 : decode cX0_ofHalves 97 = .ok (.invokestatic 112, 3) := by decide +kernel
theorem dX0_ofHalves_100 : decode cX0_ofHalves 100 = .ok (.i2l, 1) := by decide +kernel
theorem dX0_ofHalves_101 : decode cX0_ofHalves 101 = .ok (.lor, 1) := by decide +kernel
theorem dX0_ofHalves_102 : decode cX0_ofHalves 102 = .ok (.lreturn, 1) := by decide +kernel
theorem dX0_ofHalves_103 : decode cX0_ofHalves 103 = .ok (.lload_n 3, 1) := by decide +kernel
theorem dX0_ofHalves_104 : decode cX0_ofHalves 104 = .ok (.invokestatic 58, 3) := by decide +kernel
theorem dX0_ofHalves_107 : decode cX0_ofHalves 107 = .ok (.i2l, 1) := by decide +kernel
theorem dX0_ofHalves_108 : decode cX0_ofHalves 108 = .ok (.lreturn, 1) := by decide +kernel
theorem dX0_ofHalves_109 : decode cX0_ofHalves 109 = .ok (.lload_n 3, 1) := by decide +kernel
theorem dX0_ofHalves_110 : decode cX0_ofHalves 110 = .ok (.invokestatic 112, 3) := by decide +kernel
theorem dX0_ofHalves_113 : decode cX0_ofHalves 113 = .ok (.i2l, 1) := by decide +kernel
theorem dX0_ofHalves_114 : decode cX0_ofHalves 114 = .ok (.lreturn, 1) := by decide +kernel
theorem dX0_shifted_0 : decode cX0_shifted 0 = .ok (.iload_n 2, 1) := by decide +kernel
theorem dX0_shifted_1 : decode cX0_shifted 1 = .ok (.bipush 14, 2) := by decide +kernel
theorem dX0_shifted_3 : decode cX0_shifted 3 = .ok (.ishl, 1) := by decide +kernel
theorem dX0_shifted_4 : decode cX0_shifted 4 = .ok (.bipush 14, 2) := by decide +kernel
theorem dX0_shifted_6 : decode cX0_shifted 6 = .ok (.ishr, 1) := by decide +kernel
theorem dX0_shifted_7 : decode cX0_shifted 7 = .ok (.istore_n 3, 1) := by decide +kernel
theorem dX0_shifted_8 : decode cX0_shifted 8 = .ok (.iload_n 3, 1) := by decide +kernel
theorem dX0_shifted_9 : decode cX0_shifted 9 = .ok (.bipush 36, 2) := by decide +kernel
theorem dX0_shifted_11 : decode cX0_shifted 11 = .ok (.if_icmp .ge 9, 3) := by decide +kernel
theorem dX0_shifted_14 : decode cX0_shifted 14 = .ok (.iload_n 3, 1) := by decide +kernel
theorem dX0_shifted_15 : decode cX0_shifted 15 = .ok (.bipush (-36), 2) := by decide +kernel
theorem dX0_shifted_17 : decode cX0_shifted 17 = .ok (.if_icmp .gt 5, 3) := by decide +kernel
theorem dX0_shifted_20 : decode cX0_shifted 20 = .ok (.lconst 0, 1) := by decide +kernel
theorem dX0_shifted_21 : decode cX0_shifted 21 = .ok (.lreturn, 1) := by decide +kernel
theorem dX0_shifted_22 : decode cX0_shifted 22 = .ok (.iload_n 3, 1) := by decide +kernel
theorem dX0_shifted_23 : decode cX0_shifted 23 = .ok (.ifCond .lt 9, 3) := by decide +kernel
theorem dX0_shifted_26 : decode cX0_shifted 26 = .ok (.lload_n 0, 1) := by decide +kernel
theorem dX0_shifted_27 : decode cX0_shifted 27 = .ok (.iload_n 3, 1) := by decide +kernel
theorem dX0_shifted_28 : decode cX0_shifted 28 = .ok (.lshl, 1) := by decide +kernel
theorem dX0_shifted_29 : decode cX0_shifted 29 = .ok (.goto 7, 3) := by decide +kernel
theorem dX0_shifted_32 : decode cX0_shifted 32 = .ok (.lload_n 0, 1) := by decide +kernel
theorem dX0_shifted_33 : decode cX0_shifted 33 = .ok (.iload_n 3, 1) := by decide +kernel
theorem dX0_shifted_34 : decode cX0_shifted 34 = .ok (.ineg, 1) := by decide +kernel
theorem dX0_shifted_35 : decode cX0_shifted 35 = .ok (.lshr, 1) := by decide +kernel
theorem dX0_shifted_36 : decode cX0_shifted 36 = .ok (.lreturn, 1) := by decide +kernel
set_option maxRecDepth 20000 in
theorem ggX0_divide_X0_number : GoodIn wsX0_divide wsX0_number := goodIn_r _ [7] (by decide +kernel) (by decide +kernel)
set_option maxRecDepth 20000 in
theorem gX0_divide_X0_number : GoodIn wsX0_divide (va_wsS RX0 115 yX0_number wsX0_number) := goodIn_app (goodIn_of _ (by decide +kernel)) ggX0_divide_X0_number
set_option maxRecDepth 20000 in
theorem ggX0_divide_X0_store : GoodIn wsX0_divide wsX0_store := goodIn_r _ [11, 1, 12, 13, 14, 15, 16, 17] (by decide +kernel) (by decide +kernel)
set_option maxRecDepth 20000 in
theorem gX0_divide_X0_store : GoodIn wsX0_divide (wsV RX0 30 RX0 yX0_store wsX0_store) := goodIn_app (goodIn_of _ (by decide +kernel)) ggX0_divide_X0_store
theorem dX0_divide_0 : decode cX0_divide 0 = .ok (.aload_n 0, 1) := by decide +kernel
theorem dX0_divide_1 : decode cX0_divide 1 = .ok (.getfield 9, 3) := by decide +kernel
theorem dX0_divide_4 : decode cX0_divide 4 = .ok (.iload_n 1, 1) := by decide +kernel
theorem dX0_divide_5 : decode cX0_divide 5 = .ok (.laload, 1) := by decide +kernel
theorem dX0_divide_6 : decode cX0_divide 6 = .ok (.invokestatic 115, 3) := by decide +kernel
theorem dX0_divide_9 : decode cX0_divide 9 = .ok (.lstore 4, 2) := by decide +kernel
theorem dX0_divide_11 : decode cX0_divide 11 = .ok (.lload_n 2, 1) := by decide +kernel
theorem dX0_divide_12 : decode cX0_divide 12 = .ok (.invokestatic 115, 3) := by decide +kernel
theorem dX0_divide_15 : decode cX0_divide 15 = .ok (.lstore 6, 2) := by decide +kernel
theorem dX0_divide_17 : decode cX0_divide 17 = .ok (.lload 6, 2) := by decide +kernel
theorem dX0_divide_19 : decode cX0_divide 19 = .ok (.lconst 0, 1) := by decide +kernel
theorem dX0_divide_20 : decode cX0_divide 20 = .ok (.lcmp, 1) := by decide +kernel
theorem dX0_divide_21 : decode cX0_divide 21 = .ok (.ifCond .eq 21, 3) := by decide +kernel
theorem dX0_divide_24 : decode cX0_divide 24 = .ok (.lload 6, 2) := by decide +kernel
theorem dX0_divide_26 : decode cX0_divide 26 = .ok (.ldc2_w 128, 3) := by decide +kernel
theorem dX0_divide_29 : decode cX0_divide 29 = .ok (.lcmp, 1) := by decide +kernel
theorem dX0_divide_30 : decode cX0_divide 30 = .ok (.ifCond .ne 14, 3) := by decide +kernel
theorem dX0_divide_33 : decode cX0_divide 33 = .ok (.lload 4, 2) := by decide +kernel
theorem dX0_divide_35 : decode cX0_divide 35 = .ok (.ldc2_w 132, 3) := by decide +kernel
theorem dX0_divide_38 : decode cX0_divide 38 = .ok (.lcmp, 1) := by decide +kernel
theorem dX0_divide_39 : decode cX0_divide 39 = .ok (.ifCond .ne 5, 3) := by decide +kernel
theorem dX0_divide_42 : decode cX0_divide 42 = .ok (.iconst 3, 1) := by decide +kernel
theorem dX0_divide_43 : decode cX0_divide 43 = .ok (.ireturn, 1) := by decide +kernel
theorem dX0_divide_44 : decode cX0_divide 44 = .ok (.aload_n 0, 1) := by decide +kernel
theorem dX0_divide_45 : decode cX0_divide 45 = .ok (.iload_n 1, 1) := by decide +kernel
theorem dX0_divide_46 : decode cX0_divide 46 = .ok (.lload 4, 2) := by decide +kernel
theorem dX0_divide_48 : decode cX0_divide 48 = .ok (.lload 6, 2) := by decide +kernel
theorem dX0_divide_50 : decode cX0_divide 50 = .ok (.ldiv, 1) := by decide +kernel
theorem dX0_divide_51 : decode cX0_divide 51 = .ok (.invokevirtual 30, 3) := by decide +kernel
theorem dX0_divide_54 : decode cX0_divide 54 = .ok (.aload_n 0, 1) := by decide +kernel
theorem dX0_divide_55 : decode cX0_divide 55 = .ok (.iload_n 1, 1) := by decide +kernel
theorem dX0_divide_56 : decode cX0_divide 56 = .ok (.iconst 1, 1) := by decide +kernel
theorem dX0_divide_57 : decode cX0_divide 57 = .ok (.iadd, 1) := by decide +kernel
theorem dX0_divide_58 : decode cX0_divide 58 = .ok (.bipush 15, 2) := by decide +kernel
theorem dX0_divide_60 : decode cX0_divide 60 = .ok (.iand, 1) := by decide +kernel
theorem dX0_divide_61 : decode cX0_divide 61 = .ok (.lload 4, 2) := by decide +kernel
theorem dX0_divide_63 : decode cX0_divide 63 = .ok (.lload 6, 2) := by decide +kernel
theorem dX0_divide_65 : decode cX0_divide 65 = .ok (.lrem, 1) := by decide +kernel
theorem dX0_divide_66 : decode cX0_divide 66 = .ok (.invokevirtual 30, 3) := by decide +kernel
theorem dX0_divide_69 : decode cX0_divide 69 = .ok (.iconst 0, 1) := by decide +kernel
theorem dX0_divide_70 : decode cX0_divide 70 = .ok (.ireturn, 1) := by decide +kernel
set_option maxRecDepth 20000 in
theorem ggX0_exchange_X0_store : GoodIn wsX0_exchange wsX0_store := goodIn_r _ [6, 1, 7, 8, 9, 10, 11, 12] (by decide +kernel) (by decide +kernel)
set_option maxRecDepth 20000 in
theorem gX0_exchange_X0_store : GoodIn wsX0_exchange (wsV RX0 30 RX0 yX0_store wsX0_store) := goodIn_app (goodIn_of _ (by decide +kernel)) ggX0_exchange_X0_store
theorem dX0_exchange_0 : decode cX0_exchange 0 = .ok (.aload_n 0, 1) := by decide +kernel
theorem dX0_exchange_1 : decode cX0_exchange 1 = .ok (.getfield 9, 3) := by decide +kernel
theorem dX0_exchange_4 : decode cX0_exchange 4 = .ok (.iload_n 1, 1) := by decide +kernel
theorem dX0_exchange_5 : decode cX0_exchange 5 = .ok (.laload, 1) := by decide +kernel
theorem dX0_exchange_6 : decode cX0_exchange 6 = .ok (.lstore_n 3, 1) := by decide +kernel
theorem dX0_exchange_7 : decode cX0_exchange 7 = .ok (.aload_n 0, 1) := by decide +kernel
theorem dX0_exchange_8 : decode cX0_exchange 8 = .ok (.iload_n 1, 1) := by decide +kernel
theorem dX0_exchange_9 : decode cX0_exchange 9 = .ok (.aload_n 0, 1) := by decide +kernel
theorem dX0_exchange_10 : decode cX0_exchange 10 = .ok (.getfield 9, 3) := by decide +kernel
theorem dX0_exchange_13 : decode cX0_exchange 13 = .ok (.iload_n 2, 1) := by decide +kernel
theorem dX0_exchange_14 : decode cX0_exchange 14 = .ok (.laload, 1) := by decide +kernel
theorem dX0_exchange_15 : decode cX0_exchange 15 = .ok (.invokevirtual 30, 3) := by decide +kernel
theorem dX0_exchange_18 : decode cX0_exchange 18 = .ok (.aload_n 0, 1) := by decide +kernel
theorem dX0_exchange_19 : decode cX0_exchange 19 = .ok (.iload_n 2, 1) := by decide +kernel
theorem dX0_exchange_20 : decode cX0_exchange 20 = .ok (.lload_n 3, 1) := by decide +kernel
theorem dX0_exchange_21 : decode cX0_exchange 21 = .ok (.invokevirtual 30, 3) := by decide +kernel
theorem dX0_exchange_24 : decode cX0_exchange 24 = .ok (.iconst 0, 1) := by decide +kernel
theorem dX0_exchange_25 : decode cX0_exchange 25 = .ok (.ireturn, 1) := by decide +kernel
theorem dX0_jump_0 : decode cX0_jump 0 = .ok (.aload_n 0, 1) := by decide +kernel
theorem dX0_jump_1 : decode cX0_jump 1 = .ok (.iload_n 1, 1) := by decide +kernel
theorem dX0_jump_2 : decode cX0_jump 2 = .ok (.sipush 4095, 3) := by decide +kernel
theorem dX0_jump_5 : decode cX0_jump 5 = .ok (.iand, 1) := by decide +kernel
theorem dX0_jump_6 : decode cX0_jump 6 = .ok (.putfield 17, 3) := by decide +kernel
theorem dX0_jump_9 : decode cX0_jump 9 = .ok (.iconst 0, 1) := by decide +kernel
theorem dX0_jump_10 : decode cX0_jump 10 = .ok (.ireturn, 1) := by decide +kernel
set_option maxRecDepth 20000 in
theorem ggX0_leaveNextPlaceAndJump_X0_store : GoodIn wsX0_leaveNextPlaceAndJump wsX0_store := goodIn_r _ [6, 7, 8, 13, 14, 15, 16, 17] (by decide +kernel) (by decide +kernel)
set_option maxRecDepth 20000 in
theorem gX0_leaveNextPlaceAndJump_X0_store : GoodIn wsX0_leaveNextPlaceAndJump (wsV RX0 30 RX0 yX0_store wsX0_store) := goodIn_app (goodIn_of _ (by decide +kernel)) ggX0_leaveNextPlaceAndJump_X0_store
set_option maxRecDepth 20000 in
theorem ggX0_leaveNextPlaceAndJump_X0_jump : GoodIn wsX0_leaveNextPlaceAndJump wsX0_jump := goodIn_r _ [12, 1, 13, 14, 15, 16, 17] (by decide +kernel) (by decide +kernel)
set_option maxRecDepth 20000 in
theorem gX0_leaveNextPlaceAndJump_X0_jump : GoodIn wsX0_leaveNextPlaceAndJump (wsV RX0 69 RX0 yX0_jump wsX0_jump) := goodIn_app (goodIn_of _ (by decide +kernel)) ggX0_leaveNextPlaceAndJump_X0_jump
theorem dX0_leaveNextPlaceAndJump_0 : decode cX0_leaveNextPlaceAndJump 0 = .ok (.aload_n 0, 1) := by decide +kernel
theorem dX0_leaveNextPlaceAndJump_1 : decode cX0_leaveNextPlaceAndJump 1 = .ok (.iload_n 1, 1) := by decide +kernel
theorem dX0_leaveNextPlaceAndJump_2 : decode cX0_leaveNextPlaceAndJump 2 = .ok (.aload_n 0, 1) := by decide +kernel
theorem dX0_leaveNextPlaceAndJump_3 : decode cX0_leaveNextPlaceAndJump 3 = .ok (.getfield 17, 3) := by decide +kernel
theorem dX0_leaveNextPlaceAndJump_6 : decode cX0_leaveNextPlaceAndJump 6 = .ok (.i2l, 1) := by decide +kernel
theorem dX0_leaveNextPlaceAndJump_7 : decode cX0_leaveNextPlaceAndJump 7 = .ok (.invokevirtual 30, 3) := by decide +kernel
theorem dX0_leaveNextPlaceAndJump_10 : decode cX0_leaveNextPlaceAndJump 10 = .ok (.aload_n 0, 1) := by decide +kernel
theorem dX0_leaveNextPlaceAndJump_11 : decode cX0_leaveNextPlaceAndJump 11 = .ok (.iload_n 1, 1) := by decide +kernel
theorem dX0_leaveNextPlaceAndJump_12 : decode cX0_leaveNextPlaceAndJump 12 = .ok (.iconst 1, 1) := by decide +kernel
theorem dX0_leaveNextPlaceAndJump_13 : decode cX0_leaveNextPlaceAndJump 13 = .ok (.iadd, 1) := by decide +kernel
theorem dX0_leaveNextPlaceAndJump_14 : decode cX0_leaveNextPlaceAndJump 14 = .ok (.invokevirtual 69, 3) := by decide +kernel
theorem dX0_leaveNextPlaceAndJump_17 : decode cX0_leaveNextPlaceAndJump 17 = .ok (.ireturn, 1) := by decide +kernel
set_option maxRecDepth 20000 in
theorem ggX0_pushNextPlace_X0_push : GoodIn wsX0_pushNextPlace wsX0_push := goodIn_r _ [6, 7, 8, 9, 10, 5, 11, 12, 13, 14, 15, 16, 17, 18, 19, 20, 21, 26, 27, 28, 29, 30] rfl (by decide +kernel)
set_option maxRecDepth 20000 in
theorem gX0_pushNextPlace_X0_push : GoodIn wsX0_pushNextPlace (wsV RX0 93 RX0 yX0_push wsX0_push) := goodIn_app (goodIn_of _ (by decide +kernel)) ggX0_pushNextPlace_X0_push
set_option maxRecDepth 20000 in
theorem ggX0_pushNextPlace_X0_jump : GoodIn wsX0_pushNextPlace wsX0_jump := goodIn_r _ [25, 1, 26, 27, 28, 29, 30] (by decide +kernel) (by decide +kernel)
set_option maxRecDepth 20000 in
theorem gX0_pushNextPlace_X0_jump : GoodIn wsX0_pushNextPlace (wsV RX0 69 RX0 yX0_jump wsX0_jump) := goodIn_app (goodIn_of _ (by decide +kernel)) ggX0_pushNextPlace_X0_jump
theorem dX0_pushNextPlace_0 : decode cX0_pushNextPlace 0 = .ok (.aload_n 0, 1) := by decide +kernel
theorem dX0_pushNextPlace_1 : decode cX0_pushNextPlace 1 = .ok (.iload_n 1, 1) := by decide +kernel
theorem dX0_pushNextPlace_2 : decode cX0_pushNextPlace 2 = .ok (.aload_n 0, 1) := by decide +kernel
theorem dX0_pushNextPlace_3 : decode cX0_pushNextPlace 3 = .ok (.getfield 17, 3) := by decide +kernel
theorem dX0_pushNextPlace_6 : decode cX0_pushNextPlace 6 = .ok (.i2l, 1) := by decide +kernel
theorem dX0_pushNextPlace_7 : decode cX0_pushNextPlace 7 = .ok (.invokevirtual 93, 3) := by decide +kernel
theorem dX0_pushNextPlace_10 : decode cX0_pushNextPlace 10 = .ok (.istore_n 3, 1) := by decide +kernel
theorem dX0_pushNextPlace_11 : decode cX0_pushNextPlace 11 = .ok (.iload_n 3, 1) := by decide +kernel
theorem dX0_pushNextPlace_12 : decode cX0_pushNextPlace 12 = .ok (.ifCond .ne 11, 3) := by decide +kernel
theorem dX0_pushNextPlace_15 : decode cX0_pushNextPlace 15 = .ok (.aload_n 0, 1) := by decide +kernel
theorem dX0_pushNextPlace_16 : decode cX0_pushNextPlace 16 = .ok (.iload_n 2, 1) := by decide +kernel
theorem dX0_pushNextPlace_17 : decode cX0_pushNextPlace 17 = .ok (.invokevirtual 69, 3) := by decide +kernel
theorem dX0_pushNextPlace_20 : decode cX0_pushNextPlace 20 = .ok (.goto 4, 3) := by decide +kernel
theorem dX0_pushNextPlace_23 : decode cX0_pushNextPlace 23 = .ok (.iload_n 3, 1) := by decide +kernel
theorem dX0_pushNextPlace_24 : decode cX0_pushNextPlace 24 = .ok (.ireturn, 1) := by decide +kernel
set_option maxRecDepth 20000 in
theorem ggX0_push_X0_rightHalf : GoodIn wsX0_push wsX0_rightHalf := goodIn_r _ [6, 2] (by decide +kernel) (by decide +kernel)
set_option maxRecDepth 20000 in
theorem gX0_push_X0_rightHalf : GoodIn wsX0_push (va_wsS RX0 58 yX0_rightHalf wsX0_rightHalf) := goodIn_app (goodIn_of _ (by decide +kernel)) ggX0_push_X0_rightHalf
set_option maxRecDepth 20000 in
theorem ggX0_push_X0_moveTop : GoodIn wsX0_push wsX0_moveTop := goodIn_r _ [10, 1, 11, 2, 3, 4, 5, 6, 12, 13, 14, 15, 16, 17, 18, 19, 20, 21] rfl (by decide +kernel)
set_option maxRecDepth 20000 in
theorem gX0_push_X0_moveTop : GoodIn wsX0_push (wsV RX0 134 RX0 yX0_moveTop wsX0_moveTop) := goodIn_app (goodIn_of _ (by decide +kernel)) ggX0_push_X0_moveTop
set_option maxRecDepth 20000 in
theorem ggX0_push_X0_store : GoodIn wsX0_push wsX0_store := goodIn_r _ [15, 1, 16, 17, 18, 19, 20, 21] (by decide +kernel) (by decide +kernel)
set_option maxRecDepth 20000 in
theorem gX0_push_X0_store : GoodIn wsX0_push (wsV RX0 30 RX0 yX0_store wsX0_store) := goodIn_app (goodIn_of _ (by decide +kernel)) ggX0_push_X0_store
theorem dX0_push_0 : decode cX0_push 0 = .ok (.aload_n 0, 1) := by decide +kernel
theorem dX0_push_1 : decode cX0_push 1 = .ok (.getfield 9, 3) := by decide +kernel
theorem dX0_push_4 : decode cX0_push 4 = .ok (.iload_n 1, 1) := by decide +kernel
theorem dX0_push_5 : decode cX0_push 5 = .ok (.laload, 1) := by decide +kernel
theorem dX0_push_6 : decode cX0_push 6 = .ok (.invokestatic 58, 3) := by decide +kernel
theorem dX0_push_9 : decode cX0_push 9 = .ok (.iconst 1, 1) := by decide +kernel
theorem dX0_push_10 : decode cX0_push 10 = .ok (.iadd, 1) := by decide +kernel
theorem dX0_push_11 : decode cX0_push 11 = .ok (.ldc 34, 2) := by decide +kernel
theorem dX0_push_13 : decode cX0_push 13 = .ok (.iand, 1) := by decide +kernel
theorem dX0_push_14 : decode cX0_push 14 = .ok (.istore 4, 2) := by decide +kernel
theorem dX0_push_16 : decode cX0_push 16 = .ok (.iload 4, 2) := by decide +kernel
theorem dX0_push_18 : decode cX0_push 18 = .ok (.sipush 4096, 3) := by decide +kernel
theorem dX0_push_21 : decode cX0_push 21 = .ok (.if_icmp .lt 5, 3) := by decide +kernel
theorem dX0_push_24 : decode cX0_push 24 = .ok (.iconst 2, 1) := by decide +kernel
theorem dX0_push_25 : decode cX0_push 25 = .ok (.ireturn, 1) := by decide +kernel
theorem dX0_push_26 : decode cX0_push 26 = .ok (.aload_n 0, 1) := by decide +kernel
theorem dX0_push_27 : decode cX0_push 27 = .ok (.iload_n 1, 1) := by decide +kernel
theorem dX0_push_28 : decode cX0_push 28 = .ok (.iconst 1, 1) := by decide +kernel
theorem dX0_push_29 : decode cX0_push 29 = .ok (.invokevirtual 134, 3) := by decide +kernel
theorem dX0_push_32 : decode cX0_push 32 = .ok (.aload_n 0, 1) := by decide +kernel
theorem dX0_push_33 : decode cX0_push 33 = .ok (.iload 4, 2) := by decide +kernel
theorem dX0_push_35 : decode cX0_push 35 = .ok (.lload_n 2, 1) := by decide +kernel
theorem dX0_push_36 : decode cX0_push 36 = .ok (.invokevirtual 30, 3) := by decide +kernel
theorem dX0_push_39 : decode cX0_push 39 = .ok (.iconst 0, 1) := by decide +kernel
theorem dX0_push_40 : decode cX0_push 40 = .ok (.ireturn, 1) := by decide +kernel
set_option maxRecDepth 20000 in
theorem ggX0_popToMemory_X0_rightHalf : GoodIn wsX0_popToMemory wsX0_rightHalf := goodIn_r _ [5, 6] (by decide +kernel) (by decide +kernel)
set_option maxRecDepth 20000 in
theorem gX0_popToMemory_X0_rightHalf : GoodIn wsX0_popToMemory (va_wsS RX0 58 yX0_rightHalf wsX0_rightHalf) := goodIn_app (goodIn_of _ (by decide +kernel)) ggX0_popToMemory_X0_rightHalf
set_option maxRecDepth 20000 in
theorem ggX0_popToMemory_X0_store : GoodIn wsX0_popToMemory wsX0_store := goodIn_r _ [10, 1, 11, 17, 18, 19, 20, 21] (by decide +kernel) (by decide +kernel)
set_option maxRecDepth 20000 in
theorem gX0_popToMemory_X0_store : GoodIn wsX0_popToMemory (wsV RX0 30 RX0 yX0_store wsX0_store) := goodIn_app (goodIn_of _ (by decide +kernel)) ggX0_popToMemory_X0_store
set_option maxRecDepth 20000 in
theorem ggX0_popToMemory_X0_moveTop : GoodIn wsX0_popToMemory wsX0_moveTop := goodIn_r _ [15, 1, 16, 6, 2, 3, 4, 5, 7, 8, 9, 10, 11, 17, 18, 19, 20, 21] rfl (by decide +kernel)
set_option maxRecDepth 20000 in
theorem gX0_popToMemory_X0_moveTop : GoodIn wsX0_popToMemory (wsV RX0 134 RX0 yX0_moveTop wsX0_moveTop) := goodIn_app (goodIn_of _ (by decide +kernel)) ggX0_popToMemory_X0_moveTop
theorem dX0_popToMemory_0 : decode cX0_popToMemory 0 = .ok (.aload_n 0, 1) := by decide +kernel
theorem dX0_popToMemory_1 : decode cX0_popToMemory 1 = .ok (.getfield 9, 3) := by decide +kernel
theorem dX0_popToMemory_4 : decode cX0_popToMemory 4 = .ok (.iload_n 1, 1) := by decide +kernel
theorem dX0_popToMemory_5 : decode cX0_popToMemory 5 = .ok (.laload, 1) := by decide +kernel
theorem dX0_popToMemory_6 : decode cX0_popToMemory 6 = .ok (.invokestatic 58, 3) := by decide +kernel
theorem dX0_popToMemory_9 : decode cX0_popToMemory 9 = .ok (.istore_n 3, 1) := by decide +kernel
theorem dX0_popToMemory_10 : decode cX0_popToMemory 10 = .ok (.iload_n 3, 1) := by decide +kernel
theorem dX0_popToMemory_11 : decode cX0_popToMemory 11 = .ok (.sipush 4096, 3) := by decide +kernel
theorem dX0_popToMemory_14 : decode cX0_popToMemory 14 = .ok (.if_icmp .lt 5, 3) := by decide +kernel
theorem dX0_popToMemory_17 : decode cX0_popToMemory 17 = .ok (.iconst 2, 1) := by decide +kernel
theorem dX0_popToMemory_18 : decode cX0_popToMemory 18 = .ok (.ireturn, 1) := by decide +kernel
theorem dX0_popToMemory_19 : decode cX0_popToMemory 19 = .ok (.aload_n 0, 1) := by decide +kernel
theorem dX0_popToMemory_20 : decode cX0_popToMemory 20 = .ok (.iload_n 2, 1) := by decide +kernel
theorem dX0_popToMemory_21 : decode cX0_popToMemory 21 = .ok (.aload_n 0, 1) := by decide +kernel
theorem dX0_popToMemory_22 : decode cX0_popToMemory 22 = .ok (.getfield 9, 3) := by decide +kernel
theorem dX0_popToMemory_25 : decode cX0_popToMemory 25 = .ok (.iload_n 3, 1) := by decide +kernel
theorem dX0_popToMemory_26 : decode cX0_popToMemory 26 = .ok (.laload, 1) := by decide +kernel
theorem dX0_popToMemory_27 : decode cX0_popToMemory 27 = .ok (.invokevirtual 30, 3) := by decide +kernel
theorem dX0_popToMemory_30 : decode cX0_popToMemory 30 = .ok (.aload_n 0, 1) := by decide +kernel
theorem dX0_popToMemory_31 : decode cX0_popToMemory 31 = .ok (.iload_n 1, 1) := by decide +kernel
theorem dX0_popToMemory_32 : decode cX0_popToMemory 32 = .ok (.iconst (-1), 1) := by decide +kernel
theorem dX0_popToMemory_33 : decode cX0_popToMemory 33 = .ok (.invokevirtual 134, 3) := by decide +kernel
theorem dX0_popToMemory_36 : decode cX0_popToMemory 36 = .ok (.iconst 0, 1) := by decide +kernel
theorem dX0_popToMemory_37 : decode cX0_popToMemory 37 = .ok (.ireturn, 1) := by decide +kernel
set_option maxRecDepth 20000 in
theorem ggX0_popToPc_X0_rightHalf : GoodIn wsX0_popToPc wsX0_rightHalf := goodIn_r _ [5, 6] (by decide +kernel) (by decide +kernel)
set_option maxRecDepth 20000 in
theorem gX0_popToPc_X0_rightHalf : GoodIn wsX0_popToPc (va_wsS RX0 58 yX0_rightHalf wsX0_rightHalf) := goodIn_app (goodIn_of _ (by decide +kernel)) ggX0_popToPc_X0_rightHalf
set_option maxRecDepth 20000 in
theorem ggX0_popToPc_X0_jump : GoodIn wsX0_popToPc wsX0_jump := goodIn_r _ [10, 11, 22, 23, 24, 25, 26] (by decide +kernel) (by decide +kernel)
set_option maxRecDepth 20000 in
theorem gX0_popToPc_X0_jump : GoodIn wsX0_popToPc (wsV RX0 69 RX0 yX0_jump wsX0_jump) := goodIn_app (goodIn_of _ (by decide +kernel)) ggX0_popToPc_X0_jump
set_option maxRecDepth 20000 in
theorem ggX0_popToPc_X0_moveTop : GoodIn wsX0_popToPc wsX0_moveTop := goodIn_r _ [15, 1, 16, 6, 2, 3, 4, 5, 17, 18, 19, 20, 21, 22, 23, 24, 25, 26] rfl (by decide +kernel)
set_option maxRecDepth 20000 in
theorem gX0_popToPc_X0_moveTop : GoodIn wsX0_popToPc (wsV RX0 134 RX0 yX0_moveTop wsX0_moveTop) := goodIn_app (goodIn_of _ (by decide +kernel)) ggX0_popToPc_X0_moveTop
theorem dX0_popToPc_0 : decode cX0_popToPc 0 = .ok (.aload_n 0, 1) := by decide +kernel
theorem dX0_popToPc_1 : decode cX0_popToPc 1 = .ok (.getfield 9, 3) := by decide +kernel
theorem dX0_popToPc_4 : decode cX0_popToPc 4 = .ok (.iload_n 1, 1) := by decide +kernel
theorem dX0_popToPc_5 : decode cX0_popToPc 5 = .ok (.laload, 1) := by decide +kernel
theorem dX0_popToPc_6 : decode cX0_popToPc 6 = .ok (.invokestatic 58, 3) := by decide +kernel
theorem dX0_popToPc_9 : decode cX0_popToPc 9 = .ok (.istore_n 2, 1) := by decide +kernel
theorem dX0_popToPc_10 : decode cX0_popToPc 10 = .ok (.iload_n 2, 1) := by decide +kernel
theorem dX0_popToPc_11 : decode cX0_popToPc 11 = .ok (.sipush 4096, 3) := by decide +kernel
theorem dX0_popToPc_14 : decode cX0_popToPc 14 = .ok (.if_icmp .lt 5, 3) := by decide +kernel
theorem dX0_popToPc_17 : decode cX0_popToPc 17 = .ok (.iconst 2, 1) := by decide +kernel
theorem dX0_popToPc_18 : decode cX0_popToPc 18 = .ok (.ireturn, 1) := by decide +kernel
theorem dX0_popToPc_19 : decode cX0_popToPc 19 = .ok (.aload_n 0, 1) := by decide +kernel
theorem dX0_popToPc_20 : decode cX0_popToPc 20 = .ok (.aload_n 0, 1) := by decide +kernel
theorem dX0_popToPc_21 : decode cX0_popToPc 21 = .ok (.getfield 9, 3) := by decide +kernel
theorem dX0_popToPc_24 : decode cX0_popToPc 24 = .ok (.iload_n 2, 1) := by decide +kernel
theorem dX0_popToPc_25 : decode cX0_popToPc 25 = .ok (.laload, 1) := by decide +kernel
theorem dX0_popToPc_26 : decode cX0_popToPc 26 = .ok (.invokestatic 58, 3) := by decide +kernel
theorem dX0_popToPc_29 : decode cX0_popToPc 29 = .ok (.invokevirtual 69, 3) := by decide +kernel
theorem dX0_popToPc_32 : decode cX0_popToPc 32 = .ok (.pop, 1) := by decide +kernel
theorem dX0_popToPc_33 : decode cX0_popToPc 33 = .ok (.aload_n 0, 1) := by decide +kernel
theorem dX0_popToPc_34 : decode cX0_popToPc 34 = .ok (.iload_n 1, 1) := by decide +kernel
theorem dX0_popToPc_35 : decode cX0_popToPc 35 = .ok (.iconst (-1), 1) := by decide +kernel
theorem dX0_popToPc_36 : decode cX0_popToPc 36 = .ok (.invokevirtual 134, 3) := by decide +kernel
theorem dX0_popToPc_39 : decode cX0_popToPc 39 = .ok (.iconst 0, 1) := by decide +kernel
theorem dX0_popToPc_40 : decode cX0_popToPc 40 = .ok (.ireturn, 1) := by decide +kernel
set_option maxRecDepth 20000 in
theorem ggX0_moveTop_X0_rightHalf : GoodIn wsX0_moveTop wsX0_rightHalf := goodIn_r _ [7, 3] (by decide +kernel) (by decide +kernel)
set_option maxRecDepth 20000 in
theorem gX0_moveTop_X0_rightHalf : GoodIn wsX0_moveTop (va_wsS RX0 58 yX0_rightHalf wsX0_rightHalf) := goodIn_app (goodIn_of _ (by decide +kernel)) ggX0_moveTop_X0_rightHalf
set_option maxRecDepth 20000 in
theorem ggX0_moveTop_X0_store : GoodIn wsX0_moveTop wsX0_store := goodIn_r _ [11, 1, 12, 13, 14, 15, 16, 17] (by decide +kernel) (by decide +kernel)
set_option maxRecDepth 20000 in
theorem gX0_moveTop_X0_store : GoodIn wsX0_moveTop (wsV RX0 30 RX0 yX0_store wsX0_store) := goodIn_app (goodIn_of _ (by decide +kernel)) ggX0_moveTop_X0_store
theorem dX0_moveTop_0 : decode cX0_moveTop 0 = .ok (.aload_n 0, 1) := by decide +kernel
theorem dX0_moveTop_1 : decode cX0_moveTop 1 = .ok (.getfield 9, 3) := by decide +kernel
theorem dX0_moveTop_4 : decode cX0_moveTop 4 = .ok (.iload_n 1, 1) := by decide +kernel
theorem dX0_moveTop_5 : decode cX0_moveTop 5 = .ok (.laload, 1) := by decide +kernel
theorem dX0_moveTop_6 : decode cX0_moveTop 6 = .ok (.lstore_n 3, 1) := by decide +kernel
theorem dX0_moveTop_7 : decode cX0_moveTop 7 = .ok (.aload_n 0, 1) := by decide +kernel
theorem dX0_moveTop_8 : decode cX0_moveTop 8 = .ok (.iload_n 1, 1) := by decide +kernel
theorem dX0_moveTop_9 : decode cX0_moveTop 9 = .ok (.lload_n 3, 1) := by decide +kernel
theorem dX0_moveTop_10 : decode cX0_moveTop 10 = .ok (.ldc2_w 130, 3) := by decide +kernel
theorem dX0_moveTop_13 : decode cX0_moveTop 13 = .ok (.land, 1) := by decide +kernel
theorem dX0_moveTop_14 : decode cX0_moveTop 14 = .ok (.lload_n 3, 1) := by decide +kernel
theorem dX0_moveTop_15 : decode cX0_moveTop 15 = .ok (.invokestatic 58, 3) := by decide +kernel
theorem dX0_moveTop_18 : decode cX0_moveTop 18 = .ok (.iload_n 2, 1) := by decide +kernel
theorem dX0_moveTop_19 : decode cX0_moveTop 19 = .ok (.iadd, 1) := by decide +kernel
theorem dX0_moveTop_20 : decode cX0_moveTop 20 = .ok (.ldc 34, 2) := by decide +kernel
theorem dX0_moveTop_22 : decode cX0_moveTop 22 = .ok (.iand, 1) := by decide +kernel
theorem dX0_moveTop_23 : decode cX0_moveTop 23 = .ok (.i2l, 1) := by decide +kernel
theorem dX0_moveTop_24 : decode cX0_moveTop 24 = .ok (.lor, 1) := by decide +kernel
theorem dX0_moveTop_25 : decode cX0_moveTop 25 = .ok (.invokevirtual 30, 3) := by decide +kernel
theorem dX0_moveTop_28 : decode cX0_moveTop 28 = .ok (.return_, 1) := by decide +kernel
theorem dX0_isTest_0 : decode cX0_isTest 0 = .ok (.iload_n 0, 1) := by decide +kernel
theorem dX0_isTest_1 : decode cX0_isTest 1 = .ok (.sipush 192, 3) := by decide +kernel
theorem dX0_isTest_4 : decode cX0_isTest 4 = .ok (.if_icmp .lt 14, 3) := by decide +kernel
theorem dX0_isTest_7 : decode cX0_isTest 7 = .ok (.iload_n 0, 1) := by decide +kernel
theorem dX0_isTest_8 : decode cX0_isTest 8 = .ok (.sipush 255, 3) := by decide +kernel
theorem dX0_isTest_11 : decode cX0_isTest 11 = .ok (.if_icmp .gt 7, 3) := by decide +kernel
theorem dX0_isTest_14 : decode cX0_isTest 14 = .ok (.iconst 1, 1) := by decide +kernel
theorem dX0_isTest_15 : decode cX0_isTest 15 = .ok (.goto 4, 3) := by decide +kernel
theorem dX0_isTest_18 : decode cX0_isTest 18 = .ok (.iconst 0, 1) := by decide +kernel
theorem dX0_isTest_19 : decode cX0_isTest 19 = .ok (.ireturn, 1) := by decide +kernel
set_option maxRecDepth 20000 in
theorem ggX0_test_X0_holds : GoodIn wsX0_test wsX0_holds := goodIn_r _ [5, 6, 7, 4, 8] (by decide +kernel) (by decide +kernel)
set_option maxRecDepth 20000 in
theorem gX0_test_X0_holds : GoodIn wsX0_test (va_wsS RX0 137 yX0_holds wsX0_holds) := goodIn_app (goodIn_of _ (by decide +kernel)) ggX0_test_X0_holds
set_option maxRecDepth 20000 in
theorem ggX0_test_X0_skipIf : GoodIn wsX0_test wsX0_skipIf := goodIn_r _ [12, 13, 14, 15, 16, 4, 17, 31, 32, 33, 34, 35] (by decide +kernel) (by decide +kernel)
set_option maxRecDepth 20000 in
theorem gX0_test_X0_skipIf : GoodIn wsX0_test (wsV RX0 141 RX0 yX0_skipIf wsX0_skipIf) := goodIn_app (goodIn_of _ (by decide +kernel)) ggX0_test_X0_skipIf
set_option maxRecDepth 20000 in
theorem ggX0_test_X0_changeAndJump : GoodIn wsX0_test wsX0_changeAndJump := goodIn_r _ [21, 1, 22, 23, 24, 4, 25, 26, 2, 3, 5, 6, 7, 8, 14, 15, 16, 17, 13, 31, 32, 33, 34, 35] rfl (by decide +kernel)
set_option maxRecDepth 20000 in
theorem gX0_test_X0_changeAndJump : GoodIn wsX0_test (wsV RX0 145 RX0 yX0_changeAndJump wsX0_changeAndJump) := goodIn_app (goodIn_of _ (by decide +kernel)) ggX0_test_X0_changeAndJump
set_option maxRecDepth 20000 in
theorem ggX0_test_X0_changeAndSkip : GoodIn wsX0_test wsX0_changeAndSkip := goodIn_r _ [30, 1, 22, 23, 24, 4, 25, 26, 2, 3, 5, 6, 7, 8, 9, 10, 11, 12, 13, 14, 15, 16, 17, 31, 32, 33, 34, 35] rfl (by decide +kernel)
set_option maxRecDepth 20000 in
theorem gX0_test_X0_changeAndSkip : GoodIn wsX0_test (wsV RX0 149 RX0 yX0_changeAndSkip wsX0_changeAndSkip) := goodIn_app (goodIn_of _ (by decide +kernel)) ggX0_test_X0_changeAndSkip
theorem dX0_test_0 : decode cX0_test 0 = .ok (.iload_n 1, 1) := by decide +kernel
theorem dX0_test_1 : decode cX0_test 1 = .ok (.bipush 8, 2) := by decide +kernel
theorem dX0_test_3 : decode cX0_test 3 = .ok (.iand, 1) := by decide +kernel
theorem dX0_test_4 : decode cX0_test 4 = .ok (.ifCond .eq 7, 3) := by decide +kernel
theorem dX0_test_7 : decode cX0_test 7 = .ok (.iconst 1, 1) := by decide +kernel
theorem dX0_test_8 : decode cX0_test 8 = .ok (.goto 4, 3) := by decide +kernel
theorem dX0_test_11 : decode cX0_test 11 = .ok (.iconst 0, 1) := by decide +kernel
theorem dX0_test_12 : decode cX0_test 12 = .ok (.istore 4, 2) := by decide +kernel
theorem dX0_test_14 : decode cX0_test 14 = .ok (.iload 4, 2) := by decide +kernel
theorem dX0_test_16 : decode cX0_test 16 = .ok (.ifCond .eq 12, 3) := by decide +kernel
theorem dX0_test_19 : decode cX0_test 19 = .ok (.iload_n 3, 1) := by decide +kernel
theorem dX0_test_20 : decode cX0_test 20 = .ok (.sipush 4096, 3) := by decide +kernel
theorem dX0_test_23 : decode cX0_test 23 = .ok (.if_icmp .lt 5, 3) := by decide +kernel
theorem dX0_test_26 : decode cX0_test 26 = .ok (.iconst 2, 1) := by decide +kernel
theorem dX0_test_27 : decode cX0_test 27 = .ok (.ireturn, 1) := by decide +kernel
theorem dX0_test_28 : decode cX0_test 28 = .ok (.iload_n 1, 1) := by decide +kernel
theorem dX0_test_29 : decode cX0_test 29 = .ok (.bipush 7, 2) := by decide +kernel
theorem dX0_test_31 : decode cX0_test 31 = .ok (.iand, 1) := by decide +kernel
theorem dX0_test_32 : decode cX0_test 32 = .ok (.istore 5, 2) := by decide +kernel
theorem dX0_test_34 : decode cX0_test 34 = .ok (.iload_n 1, 1) := by decide +kernel
theorem dX0_test_35 : decode cX0_test 35 = .ok (.sipush 504, 3) := by decide +kernel
theorem dX0_test_38 : decode cX0_test 38 = .ok (.iand, 1) := by decide +kernel
theorem dX0_test_39 : decode cX0_test 39 = .ok (.lookupswitch 155 #[(192, 65), (200, 83), (208, 105), (216, 115), (224, 125), (232, 135), (240, 145)], 65) := by decide +kernel
theorem dX0_test_104 : decode cX0_test 104 = .ok (.aload_n 0, 1) := by decide +kernel
theorem dX0_test_105 : decode cX0_test 105 = .ok (.iload 5, 2) := by decide +kernel
theorem dX0_test_107 : decode cX0_test 107 = .ok (.aload_n 0, 1) := by decide +kernel
theorem dX0_test_108 : decode cX0_test 108 = .ok (.getfield 9, 3) := by decide +kernel
theorem dX0_test_111 : decode cX0_test 111 = .ok (.iload_n 2, 1) := by decide +kernel
theorem dX0_test_112 : decode cX0_test 112 = .ok (.laload, 1) := by decide +kernel
theorem dX0_test_113 : decode cX0_test 113 = .ok (.iload_n 3, 1) := by decide +kernel
theorem dX0_test_114 : decode cX0_test 114 = .ok (.i2l, 1) := by decide +kernel
theorem dX0_test_115 : decode cX0_test 115 = .ok (.invokestatic 137, 3) := by decide +kernel
theorem dX0_test_118 : decode cX0_test 118 = .ok (.invokevirtual 141, 3) := by decide +kernel
theorem dX0_test_121 : decode cX0_test 121 = .ok (.ireturn, 1) := by decide +kernel
theorem dX0_test_122 : decode cX0_test 122 = .ok (.aload_n 0, 1) := by decide +kernel
theorem dX0_test_123 : decode cX0_test 123 = .ok (.iload 5, 2) := by decide +kernel
theorem dX0_test_125 : decode cX0_test 125 = .ok (.aload_n 0, 1) := by decide +kernel
theorem dX0_test_126 : decode cX0_test 126 = .ok (.getfield 9, 3) := by decide +kernel
theorem dX0_test_129 : decode cX0_test 129 = .ok (.iload_n 2, 1) := by decide +kernel
theorem dX0_test_130 : decode cX0_test 130 = .ok (.laload, 1) := by decide +kernel
theorem dX0_test_131 : decode cX0_test 131 = .ok (.aload_n 0, 1) := by decide +kernel
theorem dX0_test_132 : decode cX0_test 132 = .ok (.getfield 9, 3) := by decide +kernel
theorem dX0_test_135 : decode cX0_test 135 = .ok (.iload_n 3, 1) := by decide +kernel
theorem dX0_test_136 : decode cX0_test 136 = .ok (.laload, 1) := by decide +kernel
theorem dX0_test_137 : decode cX0_test 137 = .ok (.invokestatic 137, 3) := by decide +kernel
theorem dX0_test_140 : decode cX0_test 140 = .ok (.invokevirtual 141, 3) := by decide +kernel
theorem dX0_test_143 : decode cX0_test 143 = .ok (.ireturn, 1) := by decide +kernel
theorem dX0_test_144 : decode cX0_test 144 = .ok (.aload_n 0, 1) := by decide +kernel
theorem dX0_test_145 : decode cX0_test 145 = .ok (.iload 5, 2) := by decide +kernel
theorem dX0_test_147 : decode cX0_test 147 = .ok (.iload_n 2, 1) := by decide +kernel
theorem dX0_test_148 : decode cX0_test 148 = .ok (.iload_n 3, 1) := by decide +kernel
theorem dX0_test_149 : decode cX0_test 149 = .ok (.iconst 0, 1) := by decide +kernel
theorem dX0_test_150 : decode cX0_test 150 = .ok (.invokevirtual 145, 3) := by decide +kernel
theorem dX0_test_153 : decode cX0_test 153 = .ok (.ireturn, 1) := by decide +kernel
theorem dX0_test_154 : decode cX0_test 154 = .ok (.aload_n 0, 1) := by decide +kernel
theorem dX0_test_155 : decode cX0_test 155 = .ok (.iload 5, 2) := by decide +kernel
theorem dX0_test_157 : decode cX0_test 157 = .ok (.iload_n 2, 1) := by decide +kernel
theorem dX0_test_158 : decode cX0_test 158 = .ok (.iload_n 3, 1) := by decide +kernel
theorem dX0_test_159 : decode cX0_test 159 = .ok (.iconst 0, 1) := by decide +kernel
theorem dX0_test_160 : decode cX0_test 160 = .ok (.invokevirtual 149, 3) := by decide +kernel
theorem dX0_test_163 : decode cX0_test 163 = .ok (.ireturn, 1) := by decide +kernel
theorem dX0_test_164 : decode cX0_test 164 = .ok (.aload_n 0, 1) := by decide +kernel
theorem dX0_test_165 : decode cX0_test 165 = .ok (.iload 5, 2) := by decide +kernel
theorem dX0_test_167 : decode cX0_test 167 = .ok (.iload_n 2, 1) := by decide +kernel
theorem dX0_test_168 : decode cX0_test 168 = .ok (.iload_n 3, 1) := by decide +kernel
theorem dX0_test_169 : decode cX0_test 169 = .ok (.iconst 1, 1) := by decide +kernel
theorem dX0_test_170 : decode cX0_test 170 = .ok (.invokevirtual 145, 3) := by decide +kernel
theorem dX0_test_173 : decode cX0_test 173 = .ok (.ireturn, 1) := by decide +kernel
theorem dX0_test_174 : decode cX0_test 174 = .ok (.aload_n 0, 1) := by decide +kernel
theorem dX0_test_175 : decode cX0_test 175 = .ok (.iload 5, 2) := by decide +kernel
theorem dX0_test_177 : decode cX0_test 177 = .ok (.iload_n 2, 1) := by decide +kernel
theorem dX0_test_178 : decode cX0_test 178 = .ok (.iload_n 3, 1) := by decide +kernel
theorem dX0_test_179 : decode cX0_test 179 = .ok (.iconst 1, 1) := by decide +kernel
theorem dX0_test_180 : decode cX0_test 180 = .ok (.invokevirtual 149, 3) := by decide +kernel
theorem dX0_test_183 : decode cX0_test 183 = .ok (.ireturn, 1) := by decide +kernel
theorem dX0_test_184 : decode cX0_test 184 = .ok (.aload_n 0, 1) := by decide +kernel
theorem dX0_test_185 : decode cX0_test 185 = .ok (.iload 5, 2) := by decide +kernel
theorem dX0_test_187 : decode cX0_test 187 = .ok (.iload_n 2, 1) := by decide +kernel
theorem dX0_test_188 : decode cX0_test 188 = .ok (.iload_n 3, 1) := by decide +kernel
theorem dX0_test_189 : decode cX0_test 189 = .ok (.iconst (-1), 1) := by decide +kernel
theorem dX0_test_190 : decode cX0_test 190 = .ok (.invokevirtual 145, 3) := by decide +kernel
theorem dX0_test_193 : decode cX0_test 193 = .ok (.ireturn, 1) := by decide +kernel
theorem dX0_test_194 : decode cX0_test 194 = .ok (.aload_n 0, 1) := by decide +kernel
theorem dX0_test_195 : decode cX0_test 195 = .ok (.iload 5, 2) := by decide +kernel
theorem dX0_test_197 : decode cX0_test 197 = .ok (.iload_n 2, 1) := by decide +kernel
theorem dX0_test_198 : decode cX0_test 198 = .ok (.iload_n 3, 1) := by decide +kernel
theorem dX0_test_199 : decode cX0_test 199 = .ok (.iconst (-1), 1) := by decide +kernel
theorem dX0_test_200 : decode cX0_test 200 = .ok (.invokevirtual 149, 3) := by decide +kernel
theorem dX0_test_203 : decode cX0_test 203 = .ok (.ireturn, 1) := by decide +kernel
set_option maxRecDepth 20000 in
theorem ggX0_changeAndJump_X0_store : GoodIn wsX0_changeAndJump wsX0_store := goodIn_r _ [6, 1, 7, 19, 20, 21, 22, 23] (by decide +kernel) (by decide +kernel)
set_option maxRecDepth 20000 in
theorem gX0_changeAndJump_X0_store : GoodIn wsX0_changeAndJump (wsV RX0 30 RX0 yX0_store wsX0_store) := goodIn_app (goodIn_of _ (by decide +kernel)) ggX0_changeAndJump_X0_store
set_option maxRecDepth 20000 in
theorem ggX0_changeAndJump_X0_holds : GoodIn wsX0_changeAndJump wsX0_holds := goodIn_r _ [10, 11, 12, 5, 13] (by decide +kernel) (by decide +kernel)
set_option maxRecDepth 20000 in
theorem gX0_changeAndJump_X0_holds : GoodIn wsX0_changeAndJump (va_wsS RX0 137 yX0_holds wsX0_holds) := goodIn_app (goodIn_of _ (by decide +kernel)) ggX0_changeAndJump_X0_holds
set_option maxRecDepth 20000 in
theorem ggX0_changeAndJump_X0_jump : GoodIn wsX0_changeAndJump wsX0_jump := goodIn_r _ [17, 18, 19, 20, 21, 22, 23] (by decide +kernel) (by decide +kernel)
set_option maxRecDepth 20000 in
theorem gX0_changeAndJump_X0_jump : GoodIn wsX0_changeAndJump (wsV RX0 69 RX0 yX0_jump wsX0_jump) := goodIn_app (goodIn_of _ (by decide +kernel)) ggX0_changeAndJump_X0_jump
theorem dX0_changeAndJump_0 : decode cX0_changeAndJump 0 = .ok (.aload_n 0, 1) := by decide +kernel
theorem dX0_changeAndJump_1 : decode cX0_changeAndJump 1 = .ok (.iload_n 2, 1) := by decide +kernel
theorem dX0_changeAndJump_2 : decode cX0_changeAndJump 2 = .ok (.aload_n 0, 1) := by decide +kernel
theorem dX0_changeAndJump_3 : decode cX0_changeAndJump 3 = .ok (.getfield 9, 3) := by decide +kernel
theorem dX0_changeAndJump_6 : decode cX0_changeAndJump 6 = .ok (.iload_n 2, 1) := by decide +kernel
theorem dX0_changeAndJump_7 : decode cX0_changeAndJump 7 = .ok (.laload, 1) := by decide +kernel
theorem dX0_changeAndJump_8 : decode cX0_changeAndJump 8 = .ok (.iload 4, 2) := by decide +kernel
theorem dX0_changeAndJump_10 : decode cX0_changeAndJump 10 = .ok (.i2l, 1) := by decide +kernel
theorem dX0_changeAndJump_11 : decode cX0_changeAndJump 11 = .ok (.ladd, 1) := by decide +kernel
theorem dX0_changeAndJump_12 : decode cX0_changeAndJump 12 = .ok (.invokevirtual 30, 3) := by decide +kernel
theorem dX0_changeAndJump_15 : decode cX0_changeAndJump 15 = .ok (.iload_n 1, 1) := by decide +kernel
theorem dX0_changeAndJump_16 : decode cX0_changeAndJump 16 = .ok (.aload_n 0, 1) := by decide +kernel
theorem dX0_changeAndJump_17 : decode cX0_changeAndJump 17 = .ok (.getfield 9, 3) := by decide +kernel
theorem dX0_changeAndJump_20 : decode cX0_changeAndJump 20 = .ok (.iload_n 2, 1) := by decide +kernel
theorem dX0_changeAndJump_21 : decode cX0_changeAndJump 21 = .ok (.laload, 1) := by decide +kernel
theorem dX0_changeAndJump_22 : decode cX0_changeAndJump 22 = .ok (.lconst 0, 1) := by decide +kernel
theorem dX0_changeAndJump_23 : decode cX0_changeAndJump 23 = .ok (.invokestatic 137, 3) := by decide +kernel
theorem dX0_changeAndJump_26 : decode cX0_changeAndJump 26 = .ok (.ifCond .eq 11, 3) := by decide +kernel
theorem dX0_changeAndJump_29 : decode cX0_changeAndJump 29 = .ok (.aload_n 0, 1) := by decide +kernel
theorem dX0_changeAndJump_30 : decode cX0_changeAndJump 30 = .ok (.iload_n 3, 1) := by decide +kernel
theorem dX0_changeAndJump_31 : decode cX0_changeAndJump 31 = .ok (.invokevirtual 69, 3) := by decide +kernel
theorem dX0_changeAndJump_34 : decode cX0_changeAndJump 34 = .ok (.goto 4, 3) := by decide +kernel
theorem dX0_changeAndJump_37 : decode cX0_changeAndJump 37 = .ok (.iconst 0, 1) := by decide +kernel
theorem dX0_changeAndJump_38 : decode cX0_changeAndJump 38 = .ok (.ireturn, 1) := by decide +kernel
set_option maxRecDepth 20000 in
theorem ggX0_changeAndSkip_X0_store : GoodIn wsX0_changeAndSkip wsX0_store := goodIn_r _ [6, 1, 7, 23, 24, 25, 26, 27] (by decide +kernel) (by decide +kernel)
set_option maxRecDepth 20000 in
theorem gX0_changeAndSkip_X0_store : GoodIn wsX0_changeAndSkip (wsV RX0 30 RX0 yX0_store wsX0_store) := goodIn_app (goodIn_of _ (by decide +kernel)) ggX0_changeAndSkip_X0_store
set_option maxRecDepth 20000 in
theorem ggX0_changeAndSkip_X0_holds : GoodIn wsX0_changeAndSkip wsX0_holds := goodIn_r _ [10, 11, 12, 5, 13] (by decide +kernel) (by decide +kernel)
set_option maxRecDepth 20000 in
theorem gX0_changeAndSkip_X0_holds : GoodIn wsX0_changeAndSkip (va_wsS RX0 137 yX0_holds wsX0_holds) := goodIn_app (goodIn_of _ (by decide +kernel)) ggX0_changeAndSkip_X0_holds
set_option maxRecDepth 20000 in
theorem ggX0_changeAndSkip_X0_skipIf : GoodIn wsX0_changeAndSkip wsX0_skipIf := goodIn_r _ [17, 18, 19, 20, 21, 5, 22, 23, 24, 25, 26, 27] (by decide +kernel) (by decide +kernel)
set_option maxRecDepth 20000 in
theorem gX0_changeAndSkip_X0_skipIf : GoodIn wsX0_changeAndSkip (wsV RX0 141 RX0 yX0_skipIf wsX0_skipIf) := goodIn_app (goodIn_of _ (by decide +kernel)) ggX0_changeAndSkip_X0_skipIf
theorem dX0_changeAndSkip_0 : decode cX0_changeAndSkip 0 = .ok (.aload_n 0, 1) := by decide +kernel
theorem dX0_changeAndSkip_1 : decode cX0_changeAndSkip 1 = .ok (.iload_n 3, 1) := by decide +kernel
theorem dX0_changeAndSkip_2 : decode cX0_changeAndSkip 2 = .ok (.aload_n 0, 1) := by decide +kernel
theorem dX0_changeAndSkip_3 : decode cX0_changeAndSkip 3 = .ok (.getfield 9, 3) := by decide +kernel
theorem dX0_changeAndSkip_6 : decode cX0_changeAndSkip 6 = .ok (.iload_n 3, 1) := by decide +kernel
theorem dX0_changeAndSkip_7 : decode cX0_changeAndSkip 7 = .ok (.laload, 1) := by decide +kernel
theorem dX0_changeAndSkip_8 : decode cX0_changeAndSkip 8 = .ok (.iload 4, 2) := by decide +kernel
theorem dX0_changeAndSkip_10 : decode cX0_changeAndSkip 10 = .ok (.i2l, 1) := by decide +kernel
theorem dX0_changeAndSkip_11 : decode cX0_changeAndSkip 11 = .ok (.ladd, 1) := by decide +kernel
theorem dX0_changeAndSkip_12 : decode cX0_changeAndSkip 12 = .ok (.invokevirtual 30, 3) := by decide +kernel
theorem dX0_changeAndSkip_15 : decode cX0_changeAndSkip 15 = .ok (.aload_n 0, 1) := by decide +kernel
theorem dX0_changeAndSkip_16 : decode cX0_changeAndSkip 16 = .ok (.getfield 9, 3) := by decide +kernel
theorem dX0_changeAndSkip_19 : decode cX0_changeAndSkip 19 = .ok (.iload_n 3, 1) := by decide +kernel
theorem dX0_changeAndSkip_20 : decode cX0_changeAndSkip 20 = .ok (.laload, 1) := by decide +kernel
theorem dX0_changeAndSkip_21 : decode cX0_changeAndSkip 21 = .ok (.lstore 5, 2) := by decide +kernel
theorem dX0_changeAndSkip_23 : decode cX0_changeAndSkip 23 = .ok (.iload_n 2, 1) := by decide +kernel
theorem dX0_changeAndSkip_24 : decode cX0_changeAndSkip 24 = .ok (.ifCond .eq 10, 3) := by decide +kernel
theorem dX0_changeAndSkip_27 : decode cX0_changeAndSkip 27 = .ok (.aload_n 0, 1) := by decide +kernel
theorem dX0_changeAndSkip_28 : decode cX0_changeAndSkip 28 = .ok (.iload_n 2, 1) := by decide +kernel
theorem dX0_changeAndSkip_29 : decode cX0_changeAndSkip 29 = .ok (.lload 5, 2) := by decide +kernel
theorem dX0_changeAndSkip_31 : decode cX0_changeAndSkip 31 = .ok (.invokevirtual 30, 3) := by decide +kernel
theorem dX0_changeAndSkip_34 : decode cX0_changeAndSkip 34 = .ok (.aload_n 0, 1) := by decide +kernel
theorem dX0_changeAndSkip_35 : decode cX0_changeAndSkip 35 = .ok (.iload_n 1, 1) := by decide +kernel
theorem dX0_changeAndSkip_36 : decode cX0_changeAndSkip 36 = .ok (.lload 5, 2) := by decide +kernel
theorem dX0_changeAndSkip_38 : decode cX0_changeAndSkip 38 = .ok (.lconst 0, 1) := by decide +kernel
theorem dX0_changeAndSkip_39 : decode cX0_changeAndSkip 39 = .ok (.invokestatic 137, 3) := by decide +kernel
theorem dX0_changeAndSkip_42 : decode cX0_changeAndSkip 42 = .ok (.invokevirtual 141, 3) := by decide +kernel
theorem dX0_changeAndSkip_45 : decode cX0_changeAndSkip 45 = .ok (.ireturn, 1) := by decide +kernel
set_option maxRecDepth 20000 in
theorem ggX0_skipIf_X0_jump : GoodIn wsX0_skipIf wsX0_jump := goodIn_r _ [6, 1, 7, 8, 9, 10, 11] (by decide +kernel) (by decide +kernel)
set_option maxRecDepth 20000 in
theorem gX0_skipIf_X0_jump : GoodIn wsX0_skipIf (wsV RX0 69 RX0 yX0_jump wsX0_jump) := goodIn_app (goodIn_of _ (by decide +kernel)) ggX0_skipIf_X0_jump
theorem dX0_skipIf_0 : decode cX0_skipIf 0 = .ok (.iload_n 1, 1) := by decide +kernel
theorem dX0_skipIf_1 : decode cX0_skipIf 1 = .ok (.ifCond .eq 16, 3) := by decide +kernel
theorem dX0_skipIf_4 : decode cX0_skipIf 4 = .ok (.aload_n 0, 1) := by decide +kernel
theorem dX0_skipIf_5 : decode cX0_skipIf 5 = .ok (.aload_n 0, 1) := by decide +kernel
theorem dX0_skipIf_6 : decode cX0_skipIf 6 = .ok (.getfield 17, 3) := by decide +kernel
theorem dX0_skipIf_9 : decode cX0_skipIf 9 = .ok (.iconst 1, 1) := by decide +kernel
theorem dX0_skipIf_10 : decode cX0_skipIf 10 = .ok (.iadd, 1) := by decide +kernel
theorem dX0_skipIf_11 : decode cX0_skipIf 11 = .ok (.invokevirtual 69, 3) := by decide +kernel
theorem dX0_skipIf_14 : decode cX0_skipIf 14 = .ok (.goto 4, 3) := by decide +kernel
theorem dX0_skipIf_17 : decode cX0_skipIf 17 = .ok (.iconst 0, 1) := by decide +kernel
theorem dX0_skipIf_18 : decode cX0_skipIf 18 = .ok (.ireturn, 1) := by decide +kernel
set_option maxRecDepth 20000 in
theorem ggX0_holds_X0_number : GoodIn wsX0_holds wsX0_number := goodIn_r _ [4] (by decide +kernel) (by decide +kernel)
set_option maxRecDepth 20000 in
theorem gX0_holds_X0_number : GoodIn wsX0_holds (va_wsS RX0 115 yX0_number wsX0_number) := goodIn_app (goodIn_of _ (by decide +kernel)) ggX0_holds_X0_number
theorem dX0_holds_0 : decode cX0_holds 0 = .ok (.lload_n 1, 1) := by decide +kernel
theorem dX0_holds_1 : decode cX0_holds 1 = .ok (.invokestatic 115, 3) := by decide +kernel
theorem dX0_holds_4 : decode cX0_holds 4 = .ok (.lstore 5, 2) := by decide +kernel
theorem dX0_holds_6 : decode cX0_holds 6 = .ok (.lload_n 3, 1) := by decide +kernel
theorem dX0_holds_7 : decode cX0_holds 7 = .ok (.invokestatic 115, 3) := by decide +kernel
theorem dX0_holds_10 : decode cX0_holds 10 = .ok (.lstore 7, 2) := by decide +kernel
theorem dX0_holds_12 : decode cX0_holds 12 = .ok (.iload_n 0, 1) := by decide +kernel
theorem dX0_holds_13 : decode cX0_holds 13 = .ok (.iconst 1, 1) := by decide +kernel
theorem dX0_holds_14 : decode cX0_holds 14 = .ok (.iand, 1) := by decide +kernel
theorem dX0_holds_15 : decode cX0_holds 15 = .ok (.ifCond .eq 11, 3) := by decide +kernel
theorem dX0_holds_18 : decode cX0_holds 18 = .ok (.lload 5, 2) := by decide +kernel
theorem dX0_holds_20 : decode cX0_holds 20 = .ok (.lload 7, 2) := by decide +kernel
theorem dX0_holds_22 : decode cX0_holds 22 = .ok (.lcmp, 1) := by decide +kernel
theorem dX0_holds_23 : decode cX0_holds 23 = .ok (.ifCond .lt 17, 3) := by decide +kernel
theorem dX0_holds_26 : decode cX0_holds 26 = .ok (.iload_n 0, 1) := by decide +kernel
theorem dX0_holds_27 : decode cX0_holds 27 = .ok (.iconst 2, 1) := by decide +kernel
theorem dX0_holds_28 : decode cX0_holds 28 = .ok (.iand, 1) := by decide +kernel
theorem dX0_holds_29 : decode cX0_holds 29 = .ok (.ifCond .eq 15, 3) := by decide +kernel
theorem dX0_holds_32 : decode cX0_holds 32 = .ok (.lload 5, 2) := by decide +kernel
theorem dX0_holds_34 : decode cX0_holds 34 = .ok (.lload 7, 2) := by decide +kernel
theorem dX0_holds_36 : decode cX0_holds 36 = .ok (.lcmp, 1) := by decide +kernel
theorem dX0_holds_37 : decode cX0_holds 37 = .ok (.ifCond .ne 7, 3) := by decide +kernel
theorem dX0_holds_40 : decode cX0_holds 40 = .ok (.iconst 1, 1) := by decide +kernel
theorem dX0_holds_41 : decode cX0_holds 41 = .ok (.goto 4, 3) := by decide +kernel
theorem dX0_holds_44 : decode cX0_holds 44 = .ok (.iconst 0, 1) := by decide +kernel
theorem dX0_holds_45 : decode cX0_holds 45 = .ok (.istore 9, 2) := by decide +kernel
theorem dX0_holds_47 : decode cX0_holds 47 = .ok (.iload 9, 2) := by decide +kernel
theorem dX0_holds_49 : decode cX0_holds 49 = .ok (.iload_n 0, 1) := by decide +kernel
theorem dX0_holds_50 : decode cX0_holds 50 = .ok (.iconst 4, 1) := by decide +kernel
theorem dX0_holds_51 : decode cX0_holds 51 = .ok (.iand, 1) := by decide +kernel
theorem dX0_holds_52 : decode cX0_holds 52 = .ok (.ifCond .eq 7, 3) := by decide +kernel
theorem dX0_holds_55 : decode cX0_holds 55 = .ok (.iconst 1, 1) := by decide +kernel
theorem dX0_holds_56 : decode cX0_holds 56 = .ok (.goto 4, 3) := by decide +kernel
theorem dX0_holds_59 : decode cX0_holds 59 = .ok (.iconst 0, 1) := by decide +kernel
theorem dX0_holds_60 : decode cX0_holds 60 = .ok (.if_icmp .eq 7, 3) := by decide +kernel
theorem dX0_holds_63 : decode cX0_holds 63 = .ok (.iconst 1, 1) := by decide +kernel
theorem dX0_holds_64 : decode cX0_holds 64 = .ok (.goto 4, 3) := by decide +kernel
theorem dX0_holds_67 : decode cX0_holds 67 = .ok (.iconst 0, 1) := by decide +kernel
theorem dX0_holds_68 : decode cX0_holds 68 = .ok (.ireturn, 1) := by decide +kernel
theorem dX0_number_0 : decode cX0_number 0 = .ok (.lload_n 0, 1) := by decide +kernel
theorem dX0_number_1 : decode cX0_number 1 = .ok (.bipush 28, 2) := by decide +kernel
theorem dX0_number_3 : decode cX0_number 3 = .ok (.lshl, 1) := by decide +kernel
theorem dX0_number_4 : decode cX0_number 4 = .ok (.bipush 28, 2) := by decide +kernel
theorem dX0_number_6 : decode cX0_number 6 = .ok (.lshr, 1) := by decide +kernel
theorem dX0_number_7 : decode cX0_number 7 = .ok (.lreturn, 1) := by decide +kernel
theorem dX0_rightHalf_0 : decode cX0_rightHalf 0 = .ok (.lload_n 0, 1) := by decide +kernel
theorem dX0_rightHalf_1 : decode cX0_rightHalf 1 = .ok (.l2i, 1) := by decide +kernel
theorem dX0_rightHalf_2 : decode cX0_rightHalf 2 = .ok (.ldc 34, 2) := by decide +kernel
theorem dX0_rightHalf_4 : decode cX0_rightHalf 4 = .ok (.iand, 1) := by decide +kernel
theorem dX0_rightHalf_5 : decode cX0_rightHalf 5 = .ok (.ireturn, 1) := by decide +kernel
theorem dX0_leftHalf_0 : decode cX0_leftHalf 0 = .ok (.lload_n 0, 1) := by decide +kernel
theorem dX0_leftHalf_1 : decode cX0_leftHalf 1 = .ok (.bipush 18, 2) := by decide +kernel
theorem dX0_leftHalf_3 : decode cX0_leftHalf 3 = .ok (.lshr, 1) := by decide +kernel
theorem dX0_leftHalf_4 : decode cX0_leftHalf 4 = .ok (.l2i, 1) := by decide +kernel
theorem dX0_leftHalf_5 : decode cX0_leftHalf 5 = .ok (.ldc 34, 2) := by decide +kernel
theorem dX0_leftHalf_7 : decode cX0_leftHalf 7 = .ok (.iand, 1) := by decide +kernel
theorem dX0_leftHalf_8 : decode cX0_leftHalf 8 = .ok (.ireturn, 1) := by decide +kernel
theorem dX0_store_0 : decode cX0_store 0 = .ok (.aload_n 0, 1) := by decide +kernel
theorem dX0_store_1 : decode cX0_store 1 = .ok (.getfield 9, 3) := by decide +kernel
theorem dX0_store_4 : decode cX0_store 4 = .ok (.iload_n 1, 1) := by decide +kernel
theorem dX0_store_5 : decode cX0_store 5 = .ok (.lload_n 2, 1) := by decide +kernel
theorem dX0_store_6 : decode cX0_store 6 = .ok (.ldc2_w 152, 3) := by decide +kernel
theorem dX0_store_9 : decode cX0_store 9 = .ok (.land, 1) := by decide +kernel
theorem dX0_store_10 : decode cX0_store 10 = .ok (.lastore, 1) := by decide +kernel
theorem dX0_store_11 : decode cX0_store 11 = .ok (.return_, 1) := by decide +kernel
