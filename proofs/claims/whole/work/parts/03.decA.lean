theorem dX0_init_0 : decode cX0_init 0 = .ok (.aload_n 0, 1) := by decide +kernel
theorem dX0_init_1 : decode cX0_init 1 = .ok (.invokespecial 3, 3) := by decide +kernel
theorem dX0_init_4 : decode cX0_init 4 = .ok (.aload_n 0, 1) := by decide +kernel
theorem dX0_init_5 : decode cX0_init 5 = .ok (.bipush 24, 2) := by decide +kernel
theorem dX0_init_7 : decode cX0_init 7 = .ok (.newarray .int, 2) := by decide +kernel
theorem dX0_init_9 : decode cX0_init 9 = .ok (.putfield 9, 3) := by decide +kernel
theorem dX0_init_12 : decode cX0_init 12 = .ok (.aload_n 0, 1) := by decide +kernel
theorem dX0_init_13 : decode cX0_init 13 = .ok (.bipush 24, 2) := by decide +kernel
theorem dX0_init_15 : decode cX0_init 15 = .ok (.newarray .int, 2) := by decide +kernel
theorem dX0_init_17 : decode cX0_init 17 = .ok (.putfield 15, 3) := by decide +kernel
theorem dX0_init_20 : decode cX0_init 20 = .ok (.return_, 1) := by decide +kernel
theorem dX0_enter_0 : decode cX0_enter 0 = .ok (.aload_n 0, 1) := by decide +kernel
theorem dX0_enter_1 : decode cX0_enter 1 = .ok (.getfield 9, 3) := by decide +kernel
theorem dX0_enter_4 : decode cX0_enter 4 = .ok (.iconst 0, 1) := by decide +kernel
theorem dX0_enter_5 : decode cX0_enter 5 = .ok (.aload_n 0, 1) := by decide +kernel
theorem dX0_enter_6 : decode cX0_enter 6 = .ok (.getfield 9, 3) := by decide +kernel
theorem dX0_enter_9 : decode cX0_enter 9 = .ok (.iconst 1, 1) := by decide +kernel
theorem dX0_enter_10 : decode cX0_enter 10 = .ok (.bipush 23, 2) := by decide +kernel
theorem dX0_enter_12 : decode cX0_enter 12 = .ok (.invokestatic 18, 3) := by decide +kernel
theorem dX0_enter_15 : decode cX0_enter 15 = .ok (.aload_n 0, 1) := by decide +kernel
theorem dX0_enter_16 : decode cX0_enter 16 = .ok (.getfield 15, 3) := by decide +kernel
theorem dX0_enter_19 : decode cX0_enter 19 = .ok (.iconst 0, 1) := by decide +kernel
theorem dX0_enter_20 : decode cX0_enter 20 = .ok (.aload_n 0, 1) := by decide +kernel
theorem dX0_enter_21 : decode cX0_enter 21 = .ok (.getfield 15, 3) := by decide +kernel
theorem dX0_enter_24 : decode cX0_enter 24 = .ok (.iconst 1, 1) := by decide +kernel
theorem dX0_enter_25 : decode cX0_enter 25 = .ok (.bipush 23, 2) := by decide +kernel
theorem dX0_enter_27 : decode cX0_enter 27 = .ok (.invokestatic 18, 3) := by decide +kernel
theorem dX0_enter_30 : decode cX0_enter 30 = .ok (.aload_n 0, 1) := by decide +kernel
theorem dX0_enter_31 : decode cX0_enter 31 = .ok (.getfield 9, 3) := by decide +kernel
theorem dX0_enter_34 : decode cX0_enter 34 = .ok (.iconst 0, 1) := by decide +kernel
theorem dX0_enter_35 : decode cX0_enter 35 = .ok (.iload_n 1, 1) := by decide +kernel
theorem dX0_enter_36 : decode cX0_enter 36 = .ok (.iastore, 1) := by decide +kernel
theorem dX0_enter_37 : decode cX0_enter 37 = .ok (.aload_n 0, 1) := by decide +kernel
theorem dX0_enter_38 : decode cX0_enter 38 = .ok (.getfield 15, 3) := by decide +kernel
theorem dX0_enter_41 : decode cX0_enter 41 = .ok (.iconst 0, 1) := by decide +kernel
theorem dX0_enter_42 : decode cX0_enter 42 = .ok (.iload_n 2, 1) := by decide +kernel
theorem dX0_enter_43 : decode cX0_enter 43 = .ok (.iastore, 1) := by decide +kernel
theorem dX0_enter_44 : decode cX0_enter 44 = .ok (.aload_n 0, 1) := by decide +kernel
theorem dX0_enter_45 : decode cX0_enter 45 = .ok (.aload_n 0, 1) := by decide +kernel
theorem dX0_enter_46 : decode cX0_enter 46 = .ok (.getfield 24, 3) := by decide +kernel
theorem dX0_enter_49 : decode cX0_enter 49 = .ok (.iconst 1, 1) := by decide +kernel
theorem dX0_enter_50 : decode cX0_enter 50 = .ok (.iadd, 1) := by decide +kernel
theorem dX0_enter_51 : decode cX0_enter 51 = .ok (.bipush 24, 2) := by decide +kernel
theorem dX0_enter_53 : decode cX0_enter 53 = .ok (.invokestatic 28, 3) := by decide +kernel
theorem dX0_enter_56 : decode cX0_enter 56 = .ok (.putfield 24, 3) := by decide +kernel
theorem dX0_enter_59 : decode cX0_enter 59 = .ok (.return_, 1) := by decide +kernel
theorem dX1_init_0 : decode cX1_init 0 = .ok (.aload_n 0, 1) := by decide +kernel
theorem dX1_init_1 : decode cX1_init 1 = .ok (.invokespecial 3, 3) := by decide +kernel
theorem dX1_init_4 : decode cX1_init 4 = .ok (.aload_n 0, 1) := by decide +kernel
theorem dX1_init_5 : decode cX1_init 5 = .ok (.iload_n 1, 1) := by decide +kernel
theorem dX1_init_6 : decode cX1_init 6 = .ok (.iconst 0, 1) := by decide +kernel
theorem dX1_init_7 : decode cX1_init 7 = .ok (.invokestatic 9, 3) := by decide +kernel
theorem dX1_init_10 : decode cX1_init 10 = .ok (.putfield 15, 3) := by decide +kernel
theorem dX1_init_13 : decode cX1_init 13 = .ok (.aload_n 0, 1) := by decide +kernel
theorem dX1_init_14 : decode cX1_init 14 = .ok (.aload_n 0, 1) := by decide +kernel
theorem dX1_init_15 : decode cX1_init 15 = .ok (.getfield 15, 3) := by decide +kernel
theorem dX1_init_18 : decode cX1_init 18 = .ok (.iconst 4, 1) := by decide +kernel
theorem dX1_init_19 : decode cX1_init 19 = .ok (.imul, 1) := by decide +kernel
theorem dX1_init_20 : decode cX1_init 20 = .ok (.newarray .int, 2) := by decide +kernel
theorem dX1_init_22 : decode cX1_init 22 = .ok (.putfield 21, 3) := by decide +kernel
theorem dX1_init_25 : decode cX1_init 25 = .ok (.return_, 1) := by decide +kernel
theorem dX1_number_0 : decode cX1_number 0 = .ok (.aload_n 0, 1) := by decide +kernel
theorem dX1_number_1 : decode cX1_number 1 = .ok (.getfield 21, 3) := by decide +kernel
theorem dX1_number_4 : decode cX1_number 4 = .ok (.iload_n 1, 1) := by decide +kernel
theorem dX1_number_5 : decode cX1_number 5 = .ok (.iconst 4, 1) := by decide +kernel
theorem dX1_number_6 : decode cX1_number 6 = .ok (.imul, 1) := by decide +kernel
theorem dX1_number_7 : decode cX1_number 7 = .ok (.iload_n 2, 1) := by decide +kernel
theorem dX1_number_8 : decode cX1_number 8 = .ok (.iadd, 1) := by decide +kernel
theorem dX1_number_9 : decode cX1_number 9 = .ok (.iaload, 1) := by decide +kernel
theorem dX1_number_10 : decode cX1_number 10 = .ok (.ireturn, 1) := by decide +kernel
theorem dX1_set_0 : decode cX1_set 0 = .ok (.aload_n 0, 1) := by decide +kernel
theorem dX1_set_1 : decode cX1_set 1 = .ok (.getfield 21, 3) := by decide +kernel
theorem dX1_set_4 : decode cX1_set 4 = .ok (.iload_n 1, 1) := by decide +kernel
theorem dX1_set_5 : decode cX1_set 5 = .ok (.iconst 4, 1) := by decide +kernel
theorem dX1_set_6 : decode cX1_set 6 = .ok (.imul, 1) := by decide +kernel
theorem dX1_set_7 : decode cX1_set 7 = .ok (.iload_n 2, 1) := by decide +kernel
theorem dX1_set_8 : decode cX1_set 8 = .ok (.iadd, 1) := by decide +kernel
theorem dX1_set_9 : decode cX1_set 9 = .ok (.iload_n 3, 1) := by decide +kernel
theorem dX1_set_10 : decode cX1_set 10 = .ok (.iastore, 1) := by decide +kernel
theorem dX1_set_11 : decode cX1_set 11 = .ok (.return_, 1) := by decide +kernel
set_option maxRecDepth 20000 in
theorem ggX1_join_X1_number : GoodIn wsX1_join wsX1_number := goodIn_r _ [9, 10, 15, 16] (by decide +kernel) (by decide +kernel)
set_option maxRecDepth 20000 in
theorem gX1_join_X1_number : GoodIn wsX1_join (wsV RX1 25 RX1 yX1_number wsX1_number) := goodIn_app (goodIn_of _ (by decide +kernel)) ggX1_join_X1_number
set_option maxRecDepth 20000 in
theorem ggX1_join_X1_set : GoodIn wsX1_join wsX1_set := goodIn_r _ [14, 10, 15, 16] (by decide +kernel) (by decide +kernel)
set_option maxRecDepth 20000 in
theorem gX1_join_X1_set : GoodIn wsX1_join (wsV RX1 28 RX1 yX1_set wsX1_set) := goodIn_app (goodIn_of _ (by decide +kernel)) ggX1_join_X1_set
theorem dX1_join_0 : decode cX1_join 0 = .ok (.iconst 0, 1) := by decide +kernel
theorem dX1_join_1 : decode cX1_join 1 = .ok (.istore 4, 2) := by decide +kernel
theorem dX1_join_3 : decode cX1_join 3 = .ok (.iload 4, 2) := by decide +kernel
theorem dX1_join_5 : decode cX1_join 5 = .ok (.iconst 4, 1) := by decide +kernel
theorem dX1_join_6 : decode cX1_join 6 = .ok (.if_icmp .ge 33, 3) := by decide +kernel
theorem dX1_join_9 : decode cX1_join 9 = .ok (.aload_n 0, 1) := by decide +kernel
theorem dX1_join_10 : decode cX1_join 10 = .ok (.iload_n 1, 1) := by decide +kernel
theorem dX1_join_11 : decode cX1_join 11 = .ok (.iload 4, 2) := by decide +kernel
theorem dX1_join_13 : decode cX1_join 13 = .ok (.aload_n 0, 1) := by decide +kernel
theorem dX1_join_14 : decode cX1_join 14 = .ok (.iload_n 1, 1) := by decide +kernel
theorem dX1_join_15 : decode cX1_join 15 = .ok (.iload 4, 2) := by decide +kernel
theorem dX1_join_17 : decode cX1_join 17 = .ok (.invokevirtual 25, 3) := by decide +kernel
theorem dX1_join_20 : decode cX1_join 20 = .ok (.aload_n 2, 1) := by decide +kernel
theorem dX1_join_21 : decode cX1_join 21 = .ok (.iload_n 3, 1) := by decide +kernel
theorem dX1_join_22 : decode cX1_join 22 = .ok (.iload 4, 2) := by decide +kernel
theorem dX1_join_24 : decode cX1_join 24 = .ok (.invokevirtual 25, 3) := by decide +kernel
theorem dX1_join_27 : decode cX1_join 27 = .ok (.invokestatic 9, 3) := by decide +kernel
theorem dX1_join_30 : decode cX1_join 30 = .ok (.invokevirtual 28, 3) := by decide +kernel
theorem dX1_join_33 : decode cX1_join 33 = .ok (.iinc 4 1, 3) := by decide +kernel
theorem dX1_join_36 : decode cX1_join 36 = .ok (.goto (-33), 3) := by decide +kernel
theorem dX1_join_39 : decode cX1_join 39 = .ok (.return_, 1) := by decide +kernel
theorem dX1_copyRow_0 : decode cX1_copyRow 0 = .ok (.aload_n 2, 1) := by decide +kernel
theorem dX1_copyRow_1 : decode cX1_copyRow 1 = .ok (.getfield 21, 3) := by decide +kernel
theorem dX1_copyRow_4 : decode cX1_copyRow 4 = .ok (.iload_n 3, 1) := by decide +kernel
theorem dX1_copyRow_5 : decode cX1_copyRow 5 = .ok (.iconst 4, 1) := by decide +kernel
theorem dX1_copyRow_6 : decode cX1_copyRow 6 = .ok (.imul, 1) := by decide +kernel
theorem dX1_copyRow_7 : decode cX1_copyRow 7 = .ok (.aload_n 0, 1) := by decide +kernel
theorem dX1_copyRow_8 : decode cX1_copyRow 8 = .ok (.getfield 21, 3) := by decide +kernel
theorem dX1_copyRow_11 : decode cX1_copyRow 11 = .ok (.iload_n 1, 1) := by decide +kernel
theorem dX1_copyRow_12 : decode cX1_copyRow 12 = .ok (.iconst 4, 1) := by decide +kernel
theorem dX1_copyRow_13 : decode cX1_copyRow 13 = .ok (.imul, 1) := by decide +kernel
theorem dX1_copyRow_14 : decode cX1_copyRow 14 = .ok (.iconst 4, 1) := by decide +kernel
theorem dX1_copyRow_15 : decode cX1_copyRow 15 = .ok (.invokestatic 32, 3) := by decide +kernel
theorem dX1_copyRow_18 : decode cX1_copyRow 18 = .ok (.return_, 1) := by decide +kernel
theorem dX1_copyRows_0 : decode cX1_copyRows 0 = .ok (.aload_n 1, 1) := by decide +kernel
theorem dX1_copyRows_1 : decode cX1_copyRows 1 = .ok (.getfield 21, 3) := by decide +kernel
theorem dX1_copyRows_4 : decode cX1_copyRows 4 = .ok (.iconst 0, 1) := by decide +kernel
theorem dX1_copyRows_5 : decode cX1_copyRows 5 = .ok (.aload_n 0, 1) := by decide +kernel
theorem dX1_copyRows_6 : decode cX1_copyRows 6 = .ok (.getfield 21, 3) := by decide +kernel
theorem dX1_copyRows_9 : decode cX1_copyRows 9 = .ok (.iconst 0, 1) := by decide +kernel
theorem dX1_copyRows_10 : decode cX1_copyRows 10 = .ok (.iload_n 2, 1) := by decide +kernel
theorem dX1_copyRows_11 : decode cX1_copyRows 11 = .ok (.iconst 4, 1) := by decide +kernel
theorem dX1_copyRows_12 : decode cX1_copyRows 12 = .ok (.imul, 1) := by decide +kernel
theorem dX1_copyRows_13 : decode cX1_copyRows 13 = .ok (.invokestatic 32, 3) := by decide +kernel
theorem dX1_copyRows_16 : decode cX1_copyRows 16 = .ok (.return_, 1) := by decide +kernel
set_option maxRecDepth 20000 in
theorem ggX1_clear_J7_fill_53178 : GoodIn wsX1_clear wsJ7_fill_53178 := goodIn_r _ [5] (by decide +kernel) (by decide +kernel)
set_option maxRecDepth 20000 in
theorem gX1_clear_J7_fill_53178 : GoodIn wsX1_clear (va_wsS RX1 38 yJ7_fill_53178 wsJ7_fill_53178) := goodIn_app (goodIn_of _ (by decide +kernel)) ggX1_clear_J7_fill_53178
theorem dX1_clear_0 : decode cX1_clear 0 = .ok (.aload_n 0, 1) := by decide +kernel
theorem dX1_clear_1 : decode cX1_clear 1 = .ok (.getfield 21, 3) := by decide +kernel
theorem dX1_clear_4 : decode cX1_clear 4 = .ok (.iconst 0, 1) := by decide +kernel
theorem dX1_clear_5 : decode cX1_clear 5 = .ok (.invokestatic 38, 3) := by decide +kernel
theorem dX1_clear_8 : decode cX1_clear 8 = .ok (.return_, 1) := by decide +kernel
theorem dX2_init_0 : decode cX2_init 0 = .ok (.aload_n 0, 1) := by decide +kernel
theorem dX2_init_1 : decode cX2_init 1 = .ok (.invokespecial 3, 3) := by decide +kernel
theorem dX2_init_4 : decode cX2_init 4 = .ok (.aload_n 0, 1) := by decide +kernel
theorem dX2_init_5 : decode cX2_init 5 = .ok (.iconst 4, 1) := by decide +kernel
theorem dX2_init_6 : decode cX2_init 6 = .ok (.newarray .int, 2) := by decide +kernel
theorem dX2_init_8 : decode cX2_init 8 = .ok (.putfield 9, 3) := by decide +kernel
theorem dX2_init_11 : decode cX2_init 11 = .ok (.return_, 1) := by decide +kernel
set_option maxRecDepth 20000 in
theorem ggX2_begin_X2_forgetReads : GoodIn wsX2_begin wsX2_forgetReads := goodIn_r _ [11, 12, 13, 14, 15, 16, 17, 18, 19, 20, 21, 22, 23, 24, 25, 26, 27, 28, 29] (by decide +kernel) (by decide +kernel)
set_option maxRecDepth 20000 in
theorem gX2_begin_X2_forgetReads : GoodIn wsX2_begin (wsV RX2 22 RX2 yX2_forgetReads wsX2_forgetReads) := goodIn_app (goodIn_of _ (by decide +kernel)) ggX2_begin_X2_forgetReads
theorem dX2_begin_0 : decode cX2_begin 0 = .ok (.aload_n 0, 1) := by decide +kernel
theorem dX2_begin_1 : decode cX2_begin 1 = .ok (.iconst (-1), 1) := by decide +kernel
theorem dX2_begin_2 : decode cX2_begin 2 = .ok (.putfield 15, 3) := by decide +kernel
theorem dX2_begin_5 : decode cX2_begin 5 = .ok (.aload_n 0, 1) := by decide +kernel
theorem dX2_begin_6 : decode cX2_begin 6 = .ok (.iconst 0, 1) := by decide +kernel
theorem dX2_begin_7 : decode cX2_begin 7 = .ok (.putfield 19, 3) := by decide +kernel
theorem dX2_begin_10 : decode cX2_begin 10 = .ok (.aload_n 0, 1) := by decide +kernel
theorem dX2_begin_11 : decode cX2_begin 11 = .ok (.invokevirtual 22, 3) := by decide +kernel
theorem dX2_begin_14 : decode cX2_begin 14 = .ok (.aload_n 0, 1) := by decide +kernel
theorem dX2_begin_15 : decode cX2_begin 15 = .ok (.iconst 0, 1) := by decide +kernel
theorem dX2_begin_16 : decode cX2_begin 16 = .ok (.putfield 25, 3) := by decide +kernel
theorem dX2_begin_19 : decode cX2_begin 19 = .ok (.aload_n 0, 1) := by decide +kernel
theorem dX2_begin_20 : decode cX2_begin 20 = .ok (.iconst (-1), 1) := by decide +kernel
theorem dX2_begin_21 : decode cX2_begin 21 = .ok (.putfield 28, 3) := by decide +kernel
theorem dX2_begin_24 : decode cX2_begin 24 = .ok (.aload_n 0, 1) := by decide +kernel
theorem dX2_begin_25 : decode cX2_begin 25 = .ok (.iconst (-1), 1) := by decide +kernel
theorem dX2_begin_26 : decode cX2_begin 26 = .ok (.putfield 31, 3) := by decide +kernel
theorem dX2_begin_29 : decode cX2_begin 29 = .ok (.aload_n 0, 1) := by decide +kernel
theorem dX2_begin_30 : decode cX2_begin 30 = .ok (.bipush 7, 2) := by decide +kernel
theorem dX2_begin_32 : decode cX2_begin 32 = .ok (.putfield 34, 3) := by decide +kernel
theorem dX2_begin_35 : decode cX2_begin 35 = .ok (.return_, 1) := by decide +kernel
theorem dX2_copy_0 : decode cX2_copy 0 = .ok (.aload_n 0, 1) := by decide +kernel
theorem dX2_copy_1 : decode cX2_copy 1 = .ok (.aload_n 1, 1) := by decide +kernel
theorem dX2_copy_2 : decode cX2_copy 2 = .ok (.getfield 15, 3) := by decide +kernel
theorem dX2_copy_5 : decode cX2_copy 5 = .ok (.putfield 15, 3) := by decide +kernel
theorem dX2_copy_8 : decode cX2_copy 8 = .ok (.aload_n 0, 1) := by decide +kernel
theorem dX2_copy_9 : decode cX2_copy 9 = .ok (.aload_n 1, 1) := by decide +kernel
theorem dX2_copy_10 : decode cX2_copy 10 = .ok (.getfield 19, 3) := by decide +kernel
theorem dX2_copy_13 : decode cX2_copy 13 = .ok (.putfield 19, 3) := by decide +kernel
theorem dX2_copy_16 : decode cX2_copy 16 = .ok (.aload_n 0, 1) := by decide +kernel
theorem dX2_copy_17 : decode cX2_copy 17 = .ok (.aload_n 1, 1) := by decide +kernel
theorem dX2_copy_18 : decode cX2_copy 18 = .ok (.getfield 37, 3) := by decide +kernel
theorem dX2_copy_21 : decode cX2_copy 21 = .ok (.putfield 37, 3) := by decide +kernel
theorem dX2_copy_24 : decode cX2_copy 24 = .ok (.aload_n 0, 1) := by decide +kernel
theorem dX2_copy_25 : decode cX2_copy 25 = .ok (.aload_n 1, 1) := by decide +kernel
theorem dX2_copy_26 : decode cX2_copy 26 = .ok (.getfield 40, 3) := by decide +kernel
theorem dX2_copy_29 : decode cX2_copy 29 = .ok (.putfield 40, 3) := by decide +kernel
theorem dX2_copy_32 : decode cX2_copy 32 = .ok (.aload_n 0, 1) := by decide +kernel
theorem dX2_copy_33 : decode cX2_copy 33 = .ok (.aload_n 1, 1) := by decide +kernel
theorem dX2_copy_34 : decode cX2_copy 34 = .ok (.getfield 43, 3) := by decide +kernel
theorem dX2_copy_37 : decode cX2_copy 37 = .ok (.putfield 43, 3) := by decide +kernel
theorem dX2_copy_40 : decode cX2_copy 40 = .ok (.aload_n 1, 1) := by decide +kernel
theorem dX2_copy_41 : decode cX2_copy 41 = .ok (.getfield 9, 3) := by decide +kernel
theorem dX2_copy_44 : decode cX2_copy 44 = .ok (.iconst 0, 1) := by decide +kernel
theorem dX2_copy_45 : decode cX2_copy 45 = .ok (.aload_n 0, 1) := by decide +kernel
theorem dX2_copy_46 : decode cX2_copy 46 = .ok (.getfield 9, 3) := by decide +kernel
theorem dX2_copy_49 : decode cX2_copy 49 = .ok (.iconst 0, 1) := by decide +kernel
theorem dX2_copy_50 : decode cX2_copy 50 = .ok (.iconst 4, 1) := by decide +kernel
theorem dX2_copy_51 : decode cX2_copy 51 = .ok (.invokestatic 47, 3) := by decide +kernel
theorem dX2_copy_54 : decode cX2_copy 54 = .ok (.aload_n 0, 1) := by decide +kernel
theorem dX2_copy_55 : decode cX2_copy 55 = .ok (.aload_n 1, 1) := by decide +kernel
theorem dX2_copy_56 : decode cX2_copy 56 = .ok (.getfield 25, 3) := by decide +kernel
theorem dX2_copy_59 : decode cX2_copy 59 = .ok (.putfield 25, 3) := by decide +kernel
theorem dX2_copy_62 : decode cX2_copy 62 = .ok (.aload_n 0, 1) := by decide +kernel
theorem dX2_copy_63 : decode cX2_copy 63 = .ok (.aload_n 1, 1) := by decide +kernel
theorem dX2_copy_64 : decode cX2_copy 64 = .ok (.getfield 28, 3) := by decide +kernel
theorem dX2_copy_67 : decode cX2_copy 67 = .ok (.putfield 28, 3) := by decide +kernel
theorem dX2_copy_70 : decode cX2_copy 70 = .ok (.aload_n 0, 1) := by decide +kernel
theorem dX2_copy_71 : decode cX2_copy 71 = .ok (.aload_n 1, 1) := by decide +kernel
theorem dX2_copy_72 : decode cX2_copy 72 = .ok (.getfield 31, 3) := by decide +kernel
theorem dX2_copy_75 : decode cX2_copy 75 = .ok (.putfield 31, 3) := by decide +kernel
theorem dX2_copy_78 : decode cX2_copy 78 = .ok (.aload_n 0, 1) := by decide +kernel
theorem dX2_copy_79 : decode cX2_copy 79 = .ok (.aload_n 1, 1) := by decide +kernel
theorem dX2_copy_80 : decode cX2_copy 80 = .ok (.getfield 34, 3) := by decide +kernel
theorem dX2_copy_83 : decode cX2_copy 83 = .ok (.putfield 34, 3) := by decide +kernel
theorem dX2_copy_86 : decode cX2_copy 86 = .ok (.return_, 1) := by decide +kernel
set_option maxRecDepth 20000 in
theorem ggX2_kindOf_X1_number : GoodIn wsX2_kindOf wsX1_number := goodIn_r _ [7, 8, 28, 29] (by decide +kernel) (by decide +kernel)
set_option maxRecDepth 20000 in
theorem gX2_kindOf_X1_number : GoodIn wsX2_kindOf (wsV RX2 53 RX1 yX1_number wsX1_number) := goodIn_app (goodIn_of _ (by decide +kernel)) ggX2_kindOf_X1_number
set_option maxRecDepth 20000 in
theorem ggX2_kindOf_X2_readsAreAhead : GoodIn wsX2_kindOf wsX2_readsAreAhead := goodIn_r _ [13, 14, 15, 16, 17, 3, 4, 5, 6, 7, 8, 18, 19, 20, 21, 22, 23, 24, 25, 26, 27, 28, 29] (by decide +kernel) (by decide +kernel)
set_option maxRecDepth 20000 in
theorem gX2_kindOf_X2_readsAreAhead : GoodIn wsX2_kindOf (wsV RX2 59 RX2 yX2_readsAreAhead wsX2_readsAreAhead) := goodIn_app (goodIn_of _ (by decide +kernel)) ggX2_kindOf_X2_readsAreAhead
theorem dX2_kindOf_0 : decode cX2_kindOf 0 = .ok (.aload_n 0, 1) := by decide +kernel
theorem dX2_kindOf_1 : decode cX2_kindOf 1 = .ok (.getfield 15, 3) := by decide +kernel
theorem dX2_kindOf_4 : decode cX2_kindOf 4 = .ok (.iconst (-1), 1) := by decide +kernel
theorem dX2_kindOf_5 : decode cX2_kindOf 5 = .ok (.if_icmp .eq 19, 3) := by decide +kernel
theorem dX2_kindOf_8 : decode cX2_kindOf 8 = .ok (.aload_n 2, 1) := by decide +kernel
theorem dX2_kindOf_9 : decode cX2_kindOf 9 = .ok (.iload_n 3, 1) := by decide +kernel
theorem dX2_kindOf_10 : decode cX2_kindOf 10 = .ok (.aload_n 0, 1) := by decide +kernel
theorem dX2_kindOf_11 : decode cX2_kindOf 11 = .ok (.getfield 15, 3) := by decide +kernel
theorem dX2_kindOf_14 : decode cX2_kindOf 14 = .ok (.invokevirtual 53, 3) := by decide +kernel
theorem dX2_kindOf_17 : decode cX2_kindOf 17 = .ok (.aload_n 0, 1) := by decide +kernel
theorem dX2_kindOf_18 : decode cX2_kindOf 18 = .ok (.getfield 19, 3) := by decide +kernel
theorem dX2_kindOf_21 : decode cX2_kindOf 21 = .ok (.if_icmp .lt 7, 3) := by decide +kernel
theorem dX2_kindOf_24 : decode cX2_kindOf 24 = .ok (.iconst 1, 1) := by decide +kernel
theorem dX2_kindOf_25 : decode cX2_kindOf 25 = .ok (.goto 4, 3) := by decide +kernel
theorem dX2_kindOf_28 : decode cX2_kindOf 28 = .ok (.iconst 0, 1) := by decide +kernel
theorem dX2_kindOf_29 : decode cX2_kindOf 29 = .ok (.istore 4, 2) := by decide +kernel
theorem dX2_kindOf_31 : decode cX2_kindOf 31 = .ok (.iload_n 1, 1) := by decide +kernel
theorem dX2_kindOf_32 : decode cX2_kindOf 32 = .ok (.ifCond .ne 14, 3) := by decide +kernel
theorem dX2_kindOf_35 : decode cX2_kindOf 35 = .ok (.iload 4, 2) := by decide +kernel
theorem dX2_kindOf_37 : decode cX2_kindOf 37 = .ok (.ifCond .eq 7, 3) := by decide +kernel
theorem dX2_kindOf_40 : decode cX2_kindOf 40 = .ok (.iconst (-1), 1) := by decide +kernel
theorem dX2_kindOf_41 : decode cX2_kindOf 41 = .ok (.goto 4, 3) := by decide +kernel
theorem dX2_kindOf_44 : decode cX2_kindOf 44 = .ok (.iconst 1, 1) := by decide +kernel
theorem dX2_kindOf_45 : decode cX2_kindOf 45 = .ok (.ireturn, 1) := by decide +kernel
theorem dX2_kindOf_46 : decode cX2_kindOf 46 = .ok (.iload 4, 2) := by decide +kernel
theorem dX2_kindOf_48 : decode cX2_kindOf 48 = .ok (.ifCond .ne 5, 3) := by decide +kernel
theorem dX2_kindOf_51 : decode cX2_kindOf 51 = .ok (.iconst 0, 1) := by decide +kernel
theorem dX2_kindOf_52 : decode cX2_kindOf 52 = .ok (.ireturn, 1) := by decide +kernel
theorem dX2_kindOf_53 : decode cX2_kindOf 53 = .ok (.aload_n 0, 1) := by decide +kernel
theorem dX2_kindOf_54 : decode cX2_kindOf 54 = .ok (.aload_n 2, 1) := by decide +kernel
theorem dX2_kindOf_55 : decode cX2_kindOf 55 = .ok (.iload_n 3, 1) := by decide +kernel
theorem dX2_kindOf_56 : decode cX2_kindOf 56 = .ok (.invokevirtual 59, 3) := by decide +kernel
theorem dX2_kindOf_59 : decode cX2_kindOf 59 = .ok (.ifCond .eq 7, 3) := by decide +kernel
theorem dX2_kindOf_62 : decode cX2_kindOf 62 = .ok (.iconst (-1), 1) := by decide +kernel
theorem dX2_kindOf_63 : decode cX2_kindOf 63 = .ok (.goto 4, 3) := by decide +kernel
theorem dX2_kindOf_66 : decode cX2_kindOf 66 = .ok (.iconst 2, 1) := by decide +kernel
theorem dX2_kindOf_67 : decode cX2_kindOf 67 = .ok (.ireturn, 1) := by decide +kernel
set_option maxRecDepth 20000 in
theorem ggX2_access_X2_kindOf : GoodIn wsX2_access wsX2_kindOf := goodIn_r _ [10, 4, 5, 11, 12, 13, 14, 15, 16, 17, 18, 19, 9, 20, 21, 22, 23, 24, 42, 43, 44, 45, 46, 47, 48, 49, 50, 51, 52, 53] (by decide +kernel) (by decide +kernel)
set_option maxRecDepth 20000 in
theorem gX2_access_X2_kindOf : GoodIn wsX2_access (wsV RX2 63 RX2 yX2_kindOf wsX2_kindOf) := goodIn_app (goodIn_of _ (by decide +kernel)) ggX2_access_X2_kindOf
set_option maxRecDepth 20000 in
theorem ggX2_access_X1_number : GoodIn wsX2_access wsX1_number := goodIn_r _ [15, 16, 52, 53] (by decide +kernel) (by decide +kernel)
set_option maxRecDepth 20000 in
theorem gX2_access_X1_number : GoodIn wsX2_access (wsV RX2 53 RX1 yX1_number wsX1_number) := goodIn_app (goodIn_of _ (by decide +kernel)) ggX2_access_X1_number
set_option maxRecDepth 20000 in
theorem ggX2_access_X2_forgetReads : GoodIn wsX2_access wsX2_forgetReads := goodIn_r _ [28, 22, 23, 21, 24, 29, 30, 31, 32, 42, 43, 44, 45, 46, 47, 48, 49, 50, 51] (by decide +kernel) (by decide +kernel)
set_option maxRecDepth 20000 in
theorem gX2_access_X2_forgetReads : GoodIn wsX2_access (wsV RX2 22 RX2 yX2_forgetReads wsX2_forgetReads) := goodIn_app (goodIn_of _ (by decide +kernel)) ggX2_access_X2_forgetReads
set_option maxRecDepth 20000 in
theorem ggX2_access_X2_keepRead : GoodIn wsX2_access wsX2_keepRead := goodIn_r _ [36, 21, 24, 22, 23, 11, 12, 13, 14, 15, 16, 17, 18, 19, 9, 20, 37, 38, 39, 40, 41, 42, 43, 44, 45, 46, 47, 48, 49, 50, 51, 52, 53] (by decide +kernel) (by decide +kernel)
set_option maxRecDepth 20000 in
theorem gX2_access_X2_keepRead : GoodIn wsX2_access (wsV RX2 67 RX2 yX2_keepRead wsX2_keepRead) := goodIn_app (goodIn_of _ (by decide +kernel)) ggX2_access_X2_keepRead
theorem dX2_access_0 : decode cX2_access 0 = .ok (.aload_n 0, 1) := by decide +kernel
theorem dX2_access_1 : decode cX2_access 1 = .ok (.iload_n 1, 1) := by decide +kernel
theorem dX2_access_2 : decode cX2_access 2 = .ok (.aload_n 2, 1) := by decide +kernel
theorem dX2_access_3 : decode cX2_access 3 = .ok (.iload_n 3, 1) := by decide +kernel
theorem dX2_access_4 : decode cX2_access 4 = .ok (.invokevirtual 63, 3) := by decide +kernel
theorem dX2_access_7 : decode cX2_access 7 = .ok (.istore 6, 2) := by decide +kernel
theorem dX2_access_9 : decode cX2_access 9 = .ok (.iload 6, 2) := by decide +kernel
theorem dX2_access_11 : decode cX2_access 11 = .ok (.iconst (-1), 1) := by decide +kernel
theorem dX2_access_12 : decode cX2_access 12 = .ok (.if_icmp .eq 23, 3) := by decide +kernel
theorem dX2_access_15 : decode cX2_access 15 = .ok (.aload_n 0, 1) := by decide +kernel
theorem dX2_access_16 : decode cX2_access 16 = .ok (.getfield 28, 3) := by decide +kernel
theorem dX2_access_19 : decode cX2_access 19 = .ok (.iconst (-1), 1) := by decide +kernel
theorem dX2_access_20 : decode cX2_access 20 = .ok (.if_icmp .ne 15, 3) := by decide +kernel
theorem dX2_access_23 : decode cX2_access 23 = .ok (.aload_n 0, 1) := by decide +kernel
theorem dX2_access_24 : decode cX2_access 24 = .ok (.iload 4, 2) := by decide +kernel
theorem dX2_access_26 : decode cX2_access 26 = .ok (.putfield 28, 3) := by decide +kernel
theorem dX2_access_29 : decode cX2_access 29 = .ok (.aload_n 0, 1) := by decide +kernel
theorem dX2_access_30 : decode cX2_access 30 = .ok (.iload 6, 2) := by decide +kernel
theorem dX2_access_32 : decode cX2_access 32 = .ok (.putfield 31, 3) := by decide +kernel
theorem dX2_access_35 : decode cX2_access 35 = .ok (.aload_n 0, 1) := by decide +kernel
theorem dX2_access_36 : decode cX2_access 36 = .ok (.dup, 1) := by decide +kernel
theorem dX2_access_37 : decode cX2_access 37 = .ok (.getfield 34, 3) := by decide +kernel
theorem dX2_access_40 : decode cX2_access 40 = .ok (.iload 5, 2) := by decide +kernel
theorem dX2_access_42 : decode cX2_access 42 = .ok (.iand, 1) := by decide +kernel
theorem dX2_access_43 : decode cX2_access 43 = .ok (.putfield 34, 3) := by decide +kernel
theorem dX2_access_46 : decode cX2_access 46 = .ok (.iload_n 1, 1) := by decide +kernel
theorem dX2_access_47 : decode cX2_access 47 = .ok (.ifCond .eq 25, 3) := by decide +kernel
theorem dX2_access_50 : decode cX2_access 50 = .ok (.aload_n 0, 1) := by decide +kernel
theorem dX2_access_51 : decode cX2_access 51 = .ok (.iload_n 3, 1) := by decide +kernel
theorem dX2_access_52 : decode cX2_access 52 = .ok (.putfield 15, 3) := by decide +kernel
theorem dX2_access_55 : decode cX2_access 55 = .ok (.aload_n 0, 1) := by decide +kernel
theorem dX2_access_56 : decode cX2_access 56 = .ok (.aload_n 2, 1) := by decide +kernel
theorem dX2_access_57 : decode cX2_access 57 = .ok (.iload_n 3, 1) := by decide +kernel
theorem dX2_access_58 : decode cX2_access 58 = .ok (.iload_n 3, 1) := by decide +kernel
theorem dX2_access_59 : decode cX2_access 59 = .ok (.invokevirtual 53, 3) := by decide +kernel
theorem dX2_access_62 : decode cX2_access 62 = .ok (.putfield 19, 3) := by decide +kernel
theorem dX2_access_65 : decode cX2_access 65 = .ok (.aload_n 0, 1) := by decide +kernel
theorem dX2_access_66 : decode cX2_access 66 = .ok (.invokevirtual 22, 3) := by decide +kernel
theorem dX2_access_69 : decode cX2_access 69 = .ok (.goto 9, 3) := by decide +kernel
theorem dX2_access_72 : decode cX2_access 72 = .ok (.aload_n 0, 1) := by decide +kernel
theorem dX2_access_73 : decode cX2_access 73 = .ok (.aload_n 2, 1) := by decide +kernel
theorem dX2_access_74 : decode cX2_access 74 = .ok (.iload_n 3, 1) := by decide +kernel
theorem dX2_access_75 : decode cX2_access 75 = .ok (.invokevirtual 67, 3) := by decide +kernel
theorem dX2_access_78 : decode cX2_access 78 = .ok (.return_, 1) := by decide +kernel
set_option maxRecDepth 20000 in
theorem ggX2_readsAreAhead_X1_number : GoodIn wsX2_readsAreAhead wsX1_number := goodIn_r _ [9, 10, 21, 22] (by decide +kernel) (by decide +kernel)
set_option maxRecDepth 20000 in
theorem gX2_readsAreAhead_X1_number : GoodIn wsX2_readsAreAhead (wsV RX2 53 RX1 yX1_number wsX1_number) := goodIn_app (goodIn_of _ (by decide +kernel)) ggX2_readsAreAhead_X1_number
theorem dX2_readsAreAhead_0 : decode cX2_readsAreAhead 0 = .ok (.aload_n 0, 1) := by decide +kernel
theorem dX2_readsAreAhead_1 : decode cX2_readsAreAhead 1 = .ok (.getfield 43, 3) := by decide +kernel
theorem dX2_readsAreAhead_4 : decode cX2_readsAreAhead 4 = .ok (.ifCond .ne 33, 3) := by decide +kernel
theorem dX2_readsAreAhead_7 : decode cX2_readsAreAhead 7 = .ok (.aload_n 0, 1) := by decide +kernel
theorem dX2_readsAreAhead_8 : decode cX2_readsAreAhead 8 = .ok (.getfield 37, 3) := by decide +kernel
theorem dX2_readsAreAhead_11 : decode cX2_readsAreAhead 11 = .ok (.iconst (-1), 1) := by decide +kernel
theorem dX2_readsAreAhead_12 : decode cX2_readsAreAhead 12 = .ok (.if_icmp .eq 19, 3) := by decide +kernel
theorem dX2_readsAreAhead_15 : decode cX2_readsAreAhead 15 = .ok (.aload_n 1, 1) := by decide +kernel
theorem dX2_readsAreAhead_16 : decode cX2_readsAreAhead 16 = .ok (.iload_n 2, 1) := by decide +kernel
theorem dX2_readsAreAhead_17 : decode cX2_readsAreAhead 17 = .ok (.aload_n 0, 1) := by decide +kernel
theorem dX2_readsAreAhead_18 : decode cX2_readsAreAhead 18 = .ok (.getfield 37, 3) := by decide +kernel
theorem dX2_readsAreAhead_21 : decode cX2_readsAreAhead 21 = .ok (.invokevirtual 53, 3) := by decide +kernel
theorem dX2_readsAreAhead_24 : decode cX2_readsAreAhead 24 = .ok (.aload_n 0, 1) := by decide +kernel
theorem dX2_readsAreAhead_25 : decode cX2_readsAreAhead 25 = .ok (.getfield 40, 3) := by decide +kernel
theorem dX2_readsAreAhead_28 : decode cX2_readsAreAhead 28 = .ok (.if_icmp .lt 7, 3) := by decide +kernel
theorem dX2_readsAreAhead_31 : decode cX2_readsAreAhead 31 = .ok (.iconst 1, 1) := by decide +kernel
theorem dX2_readsAreAhead_32 : decode cX2_readsAreAhead 32 = .ok (.goto 4, 3) := by decide +kernel
theorem dX2_readsAreAhead_35 : decode cX2_readsAreAhead 35 = .ok (.iconst 0, 1) := by decide +kernel
theorem dX2_readsAreAhead_36 : decode cX2_readsAreAhead 36 = .ok (.ireturn, 1) := by decide +kernel
theorem dX2_readsAreAhead_37 : decode cX2_readsAreAhead 37 = .ok (.iconst 0, 1) := by decide +kernel
theorem dX2_readsAreAhead_38 : decode cX2_readsAreAhead 38 = .ok (.istore_n 3, 1) := by decide +kernel
theorem dX2_readsAreAhead_39 : decode cX2_readsAreAhead 39 = .ok (.iload_n 3, 1) := by decide +kernel
theorem dX2_readsAreAhead_40 : decode cX2_readsAreAhead 40 = .ok (.iconst 4, 1) := by decide +kernel
theorem dX2_readsAreAhead_41 : decode cX2_readsAreAhead 41 = .ok (.if_icmp .ge 26, 3) := by decide +kernel
theorem dX2_readsAreAhead_44 : decode cX2_readsAreAhead 44 = .ok (.aload_n 1, 1) := by decide +kernel
theorem dX2_readsAreAhead_45 : decode cX2_readsAreAhead 45 = .ok (.iload_n 2, 1) := by decide +kernel
theorem dX2_readsAreAhead_46 : decode cX2_readsAreAhead 46 = .ok (.iload_n 3, 1) := by decide +kernel
theorem dX2_readsAreAhead_47 : decode cX2_readsAreAhead 47 = .ok (.invokevirtual 53, 3) := by decide +kernel
theorem dX2_readsAreAhead_50 : decode cX2_readsAreAhead 50 = .ok (.aload_n 0, 1) := by decide +kernel
theorem dX2_readsAreAhead_51 : decode cX2_readsAreAhead 51 = .ok (.getfield 9, 3) := by decide +kernel
theorem dX2_readsAreAhead_54 : decode cX2_readsAreAhead 54 = .ok (.iload_n 3, 1) := by decide +kernel
theorem dX2_readsAreAhead_55 : decode cX2_readsAreAhead 55 = .ok (.iaload, 1) := by decide +kernel
theorem dX2_readsAreAhead_56 : decode cX2_readsAreAhead 56 = .ok (.if_icmp .ge 5, 3) := by decide +kernel
theorem dX2_readsAreAhead_59 : decode cX2_readsAreAhead 59 = .ok (.iconst 0, 1) := by decide +kernel
theorem dX2_readsAreAhead_60 : decode cX2_readsAreAhead 60 = .ok (.ireturn, 1) := by decide +kernel
theorem dX2_readsAreAhead_61 : decode cX2_readsAreAhead 61 = .ok (.iinc 3 1, 3) := by decide +kernel
theorem dX2_readsAreAhead_64 : decode cX2_readsAreAhead 64 = .ok (.goto (-25), 3) := by decide +kernel
theorem dX2_readsAreAhead_67 : decode cX2_readsAreAhead 67 = .ok (.iconst 1, 1) := by decide +kernel
theorem dX2_readsAreAhead_68 : decode cX2_readsAreAhead 68 = .ok (.ireturn, 1) := by decide +kernel
set_option maxRecDepth 20000 in
theorem ggX2_keepRead_X1_number : GoodIn wsX2_keepRead wsX1_number := goodIn_r _ [9, 10, 31, 32] (by decide +kernel) (by decide +kernel)
set_option maxRecDepth 20000 in
theorem gX2_keepRead_X1_number : GoodIn wsX2_keepRead (wsV RX2 53 RX1 yX1_number wsX1_number) := goodIn_app (goodIn_of _ (by decide +kernel)) ggX2_keepRead_X1_number
set_option maxRecDepth 20000 in
theorem ggX2_keepRead_X2_readsAreAhead : GoodIn wsX2_keepRead wsX2_readsAreAhead := goodIn_r _ [15, 1, 3, 4, 2, 5, 6, 7, 8, 9, 10, 21, 22, 23, 24, 25, 26, 27, 28, 29, 30, 31, 32] (by decide +kernel) (by decide +kernel)
set_option maxRecDepth 20000 in
theorem gX2_keepRead_X2_readsAreAhead : GoodIn wsX2_keepRead (wsV RX2 59 RX2 yX2_readsAreAhead wsX2_readsAreAhead) := goodIn_app (goodIn_of _ (by decide +kernel)) ggX2_keepRead_X2_readsAreAhead
set_option maxRecDepth 20000 in
theorem ggX2_keepRead_X2_share : GoodIn wsX2_keepRead wsX2_share := goodIn_r _ [19, 2, 3, 4, 1, 20, 21, 22, 23, 24, 25, 26, 27, 28, 29, 30] (by decide +kernel) (by decide +kernel)
set_option maxRecDepth 20000 in
theorem gX2_keepRead_X2_share : GoodIn wsX2_keepRead (wsV RX2 71 RX2 yX2_share wsX2_share) := goodIn_app (goodIn_of _ (by decide +kernel)) ggX2_keepRead_X2_share
theorem dX2_keepRead_0 : decode cX2_keepRead 0 = .ok (.aload_n 1, 1) := by decide +kernel
theorem dX2_keepRead_1 : decode cX2_keepRead 1 = .ok (.iload_n 2, 1) := by decide +kernel
theorem dX2_keepRead_2 : decode cX2_keepRead 2 = .ok (.iload_n 2, 1) := by decide +kernel
theorem dX2_keepRead_3 : decode cX2_keepRead 3 = .ok (.invokevirtual 53, 3) := by decide +kernel
theorem dX2_keepRead_6 : decode cX2_keepRead 6 = .ok (.istore_n 3, 1) := by decide +kernel
theorem dX2_keepRead_7 : decode cX2_keepRead 7 = .ok (.aload_n 0, 1) := by decide +kernel
theorem dX2_keepRead_8 : decode cX2_keepRead 8 = .ok (.getfield 43, 3) := by decide +kernel
theorem dX2_keepRead_11 : decode cX2_keepRead 11 = .ok (.ifCond .eq 13, 3) := by decide +kernel
theorem dX2_keepRead_14 : decode cX2_keepRead 14 = .ok (.aload_n 0, 1) := by decide +kernel
theorem dX2_keepRead_15 : decode cX2_keepRead 15 = .ok (.getfield 9, 3) := by decide +kernel
theorem dX2_keepRead_18 : decode cX2_keepRead 18 = .ok (.iload_n 2, 1) := by decide +kernel
theorem dX2_keepRead_19 : decode cX2_keepRead 19 = .ok (.iload_n 3, 1) := by decide +kernel
theorem dX2_keepRead_20 : decode cX2_keepRead 20 = .ok (.iastore, 1) := by decide +kernel
theorem dX2_keepRead_21 : decode cX2_keepRead 21 = .ok (.goto 31, 3) := by decide +kernel
theorem dX2_keepRead_24 : decode cX2_keepRead 24 = .ok (.aload_n 0, 1) := by decide +kernel
theorem dX2_keepRead_25 : decode cX2_keepRead 25 = .ok (.aload_n 1, 1) := by decide +kernel
theorem dX2_keepRead_26 : decode cX2_keepRead 26 = .ok (.iload_n 2, 1) := by decide +kernel
theorem dX2_keepRead_27 : decode cX2_keepRead 27 = .ok (.invokevirtual 59, 3) := by decide +kernel
theorem dX2_keepRead_30 : decode cX2_keepRead 30 = .ok (.ifCond .eq 16, 3) := by decide +kernel
theorem dX2_keepRead_33 : decode cX2_keepRead 33 = .ok (.aload_n 0, 1) := by decide +kernel
theorem dX2_keepRead_34 : decode cX2_keepRead 34 = .ok (.iload_n 2, 1) := by decide +kernel
theorem dX2_keepRead_35 : decode cX2_keepRead 35 = .ok (.putfield 37, 3) := by decide +kernel
theorem dX2_keepRead_38 : decode cX2_keepRead 38 = .ok (.aload_n 0, 1) := by decide +kernel
theorem dX2_keepRead_39 : decode cX2_keepRead 39 = .ok (.iload_n 3, 1) := by decide +kernel
theorem dX2_keepRead_40 : decode cX2_keepRead 40 = .ok (.putfield 40, 3) := by decide +kernel
theorem dX2_keepRead_43 : decode cX2_keepRead 43 = .ok (.goto 9, 3) := by decide +kernel
theorem dX2_keepRead_46 : decode cX2_keepRead 46 = .ok (.aload_n 0, 1) := by decide +kernel
theorem dX2_keepRead_47 : decode cX2_keepRead 47 = .ok (.iload_n 2, 1) := by decide +kernel
theorem dX2_keepRead_48 : decode cX2_keepRead 48 = .ok (.iload_n 3, 1) := by decide +kernel
theorem dX2_keepRead_49 : decode cX2_keepRead 49 = .ok (.invokevirtual 71, 3) := by decide +kernel
theorem dX2_keepRead_52 : decode cX2_keepRead 52 = .ok (.return_, 1) := by decide +kernel
theorem dX2_share_0 : decode cX2_share 0 = .ok (.aload_n 0, 1) := by decide +kernel
theorem dX2_share_1 : decode cX2_share 1 = .ok (.getfield 9, 3) := by decide +kernel
theorem dX2_share_4 : decode cX2_share 4 = .ok (.aload_n 0, 1) := by decide +kernel
theorem dX2_share_5 : decode cX2_share 5 = .ok (.getfield 37, 3) := by decide +kernel
theorem dX2_share_8 : decode cX2_share 8 = .ok (.aload_n 0, 1) := by decide +kernel
theorem dX2_share_9 : decode cX2_share 9 = .ok (.getfield 40, 3) := by decide +kernel
theorem dX2_share_12 : decode cX2_share 12 = .ok (.iastore, 1) := by decide +kernel
theorem dX2_share_13 : decode cX2_share 13 = .ok (.aload_n 0, 1) := by decide +kernel
theorem dX2_share_14 : decode cX2_share 14 = .ok (.getfield 9, 3) := by decide +kernel
theorem dX2_share_17 : decode cX2_share 17 = .ok (.iload_n 1, 1) := by decide +kernel
theorem dX2_share_18 : decode cX2_share 18 = .ok (.iload_n 2, 1) := by decide +kernel
theorem dX2_share_19 : decode cX2_share 19 = .ok (.iastore, 1) := by decide +kernel
theorem dX2_share_20 : decode cX2_share 20 = .ok (.aload_n 0, 1) := by decide +kernel
theorem dX2_share_21 : decode cX2_share 21 = .ok (.iconst (-1), 1) := by decide +kernel
theorem dX2_share_22 : decode cX2_share 22 = .ok (.putfield 37, 3) := by decide +kernel
theorem dX2_share_25 : decode cX2_share 25 = .ok (.aload_n 0, 1) := by decide +kernel
theorem dX2_share_26 : decode cX2_share 26 = .ok (.iconst 0, 1) := by decide +kernel
theorem dX2_share_27 : decode cX2_share 27 = .ok (.putfield 40, 3) := by decide +kernel
theorem dX2_share_30 : decode cX2_share 30 = .ok (.aload_n 0, 1) := by decide +kernel
theorem dX2_share_31 : decode cX2_share 31 = .ok (.iconst 1, 1) := by decide +kernel
theorem dX2_share_32 : decode cX2_share 32 = .ok (.putfield 43, 3) := by decide +kernel
theorem dX2_share_35 : decode cX2_share 35 = .ok (.aload_n 0, 1) := by decide +kernel
theorem dX2_share_36 : decode cX2_share 36 = .ok (.dup, 1) := by decide +kernel
theorem dX2_share_37 : decode cX2_share 37 = .ok (.getfield 25, 3) := by decide +kernel
theorem dX2_share_40 : decode cX2_share 40 = .ok (.iconst 1, 1) := by decide +kernel
theorem dX2_share_41 : decode cX2_share 41 = .ok (.iadd, 1) := by decide +kernel
theorem dX2_share_42 : decode cX2_share 42 = .ok (.putfield 25, 3) := by decide +kernel
theorem dX2_share_45 : decode cX2_share 45 = .ok (.return_, 1) := by decide +kernel
set_option maxRecDepth 20000 in
theorem ggX2_forgetReads_J7_fill_53178 : GoodIn wsX2_forgetReads wsJ7_fill_53178 := goodIn_r _ [8] (by decide +kernel) (by decide +kernel)
set_option maxRecDepth 20000 in
theorem gX2_forgetReads_J7_fill_53178 : GoodIn wsX2_forgetReads (va_wsS RX2 75 yJ7_fill_53178 wsJ7_fill_53178) := goodIn_app (goodIn_of _ (by decide +kernel)) ggX2_forgetReads_J7_fill_53178
theorem dX2_forgetReads_0 : decode cX2_forgetReads 0 = .ok (.aload_n 0, 1) := by decide +kernel
theorem dX2_forgetReads_1 : decode cX2_forgetReads 1 = .ok (.iconst (-1), 1) := by decide +kernel
theorem dX2_forgetReads_2 : decode cX2_forgetReads 2 = .ok (.putfield 37, 3) := by decide +kernel
theorem dX2_forgetReads_5 : decode cX2_forgetReads 5 = .ok (.aload_n 0, 1) := by decide +kernel
theorem dX2_forgetReads_6 : decode cX2_forgetReads 6 = .ok (.iconst 0, 1) := by decide +kernel
theorem dX2_forgetReads_7 : decode cX2_forgetReads 7 = .ok (.putfield 40, 3) := by decide +kernel
theorem dX2_forgetReads_10 : decode cX2_forgetReads 10 = .ok (.aload_n 0, 1) := by decide +kernel
theorem dX2_forgetReads_11 : decode cX2_forgetReads 11 = .ok (.iconst 0, 1) := by decide +kernel
theorem dX2_forgetReads_12 : decode cX2_forgetReads 12 = .ok (.putfield 43, 3) := by decide +kernel
theorem dX2_forgetReads_15 : decode cX2_forgetReads 15 = .ok (.aload_n 0, 1) := by decide +kernel
theorem dX2_forgetReads_16 : decode cX2_forgetReads 16 = .ok (.getfield 9, 3) := by decide +kernel
theorem dX2_forgetReads_19 : decode cX2_forgetReads 19 = .ok (.iconst 0, 1) := by decide +kernel
theorem dX2_forgetReads_20 : decode cX2_forgetReads 20 = .ok (.invokestatic 75, 3) := by decide +kernel
theorem dX2_forgetReads_23 : decode cX2_forgetReads 23 = .ok (.return_, 1) := by decide +kernel
set_option maxRecDepth 20000 in
theorem ggX3_init_X1_init : GoodIn wsX3_init wsX1_init := goodIn_r _ [17, 18, 2, 3, 19, 20, 21, 22, 23, 4, 24, 33, 34] (by decide +kernel) (by decide +kernel)
set_option maxRecDepth 20000 in
theorem gX3_init_X1_init : GoodIn wsX3_init (wsX1_init) := ggX3_init_X1_init
theorem dX3_init_0 : decode cX3_init 0 = .ok (.aload_n 0, 1) := by decide +kernel
theorem dX3_init_1 : decode cX3_init 1 = .ok (.invokespecial 3, 3) := by decide +kernel
theorem dX3_init_4 : decode cX3_init 4 = .ok (.aload_n 0, 1) := by decide +kernel
theorem dX3_init_5 : decode cX3_init 5 = .ok (.sipush 160, 3) := by decide +kernel
theorem dX3_init_8 : decode cX3_init 8 = .ok (.newarray .int, 2) := by decide +kernel
theorem dX3_init_10 : decode cX3_init 10 = .ok (.putfield 9, 3) := by decide +kernel
theorem dX3_init_13 : decode cX3_init 13 = .ok (.aload_n 0, 1) := by decide +kernel
theorem dX3_init_14 : decode cX3_init 14 = .ok (.sipush 160, 3) := by decide +kernel
theorem dX3_init_17 : decode cX3_init 17 = .ok (.newarray .int, 2) := by decide +kernel
theorem dX3_init_19 : decode cX3_init 19 = .ok (.putfield 15, 3) := by decide +kernel
theorem dX3_init_22 : decode cX3_init 22 = .ok (.aload_n 0, 1) := by decide +kernel
theorem dX3_init_23 : decode cX3_init 23 = .ok (.sipush 160, 3) := by decide +kernel
theorem dX3_init_26 : decode cX3_init 26 = .ok (.newarray .int, 2) := by decide +kernel
theorem dX3_init_28 : decode cX3_init 28 = .ok (.putfield 18, 3) := by decide +kernel
theorem dX3_init_31 : decode cX3_init 31 = .ok (.aload_n 0, 1) := by decide +kernel
theorem dX3_init_32 : decode cX3_init 32 = .ok (.sipush 160, 3) := by decide +kernel
theorem dX3_init_35 : decode cX3_init 35 = .ok (.newarray .int, 2) := by decide +kernel
theorem dX3_init_37 : decode cX3_init 37 = .ok (.putfield 21, 3) := by decide +kernel
theorem dX3_init_40 : decode cX3_init 40 = .ok (.aload_n 0, 1) := by decide +kernel
theorem dX3_init_41 : decode cX3_init 41 = .ok (.new 24, 3) := by decide +kernel
theorem dX3_init_44 : decode cX3_init 44 = .ok (.dup, 1) := by decide +kernel
theorem dX3_init_45 : decode cX3_init 45 = .ok (.sipush 160, 3) := by decide +kernel
theorem dX3_init_48 : decode cX3_init 48 = .ok (.invokespecial 26, 3) := by decide +kernel
theorem dX3_init_51 : decode cX3_init 51 = .ok (.putfield 29, 3) := by decide +kernel
theorem dX3_init_54 : decode cX3_init 54 = .ok (.aload_n 0, 1) := by decide +kernel
theorem dX3_init_55 : decode cX3_init 55 = .ok (.sipush 160, 3) := by decide +kernel
theorem dX3_init_58 : decode cX3_init 58 = .ok (.newarray .int, 2) := by decide +kernel
theorem dX3_init_60 : decode cX3_init 60 = .ok (.putfield 33, 3) := by decide +kernel
theorem dX3_init_63 : decode cX3_init 63 = .ok (.aload_n 0, 1) := by decide +kernel
theorem dX3_init_64 : decode cX3_init 64 = .ok (.bipush 12, 2) := by decide +kernel
theorem dX3_init_66 : decode cX3_init 66 = .ok (.newarray .int, 2) := by decide +kernel
theorem dX3_init_68 : decode cX3_init 68 = .ok (.putfield 36, 3) := by decide +kernel
theorem dX3_init_71 : decode cX3_init 71 = .ok (.return_, 1) := by decide +kernel
set_option maxRecDepth 20000 in
theorem ggX3_begin_J7_fill_53178 : GoodIn wsX3_begin wsJ7_fill_53178 := goodIn_r _ [6] (by decide +kernel) (by decide +kernel)
set_option maxRecDepth 20000 in
theorem gX3_begin_J7_fill_53178 : GoodIn wsX3_begin (va_wsS RX3 43 yJ7_fill_53178 wsJ7_fill_53178) := goodIn_app (goodIn_of _ (by decide +kernel)) ggX3_begin_J7_fill_53178
theorem dX3_begin_0 : decode cX3_begin 0 = .ok (.aload_n 0, 1) := by decide +kernel
theorem dX3_begin_1 : decode cX3_begin 1 = .ok (.iconst 0, 1) := by decide +kernel
theorem dX3_begin_2 : decode cX3_begin 2 = .ok (.putfield 39, 3) := by decide +kernel
theorem dX3_begin_5 : decode cX3_begin 5 = .ok (.aload_n 0, 1) := by decide +kernel
theorem dX3_begin_6 : decode cX3_begin 6 = .ok (.getfield 36, 3) := by decide +kernel
theorem dX3_begin_9 : decode cX3_begin 9 = .ok (.iconst 0, 1) := by decide +kernel
theorem dX3_begin_10 : decode cX3_begin 10 = .ok (.invokestatic 43, 3) := by decide +kernel
theorem dX3_begin_13 : decode cX3_begin 13 = .ok (.return_, 1) := by decide +kernel
set_option maxRecDepth 20000 in
theorem ggX3_copy_X1_copyRows : GoodIn wsX3_copy wsX1_copyRows := goodIn_r _ [17, 18, 19, 4, 5, 6, 28, 29] (by decide +kernel) (by decide +kernel)
set_option maxRecDepth 20000 in
theorem gX3_copy_X1_copyRows : GoodIn wsX3_copy (wsV RX3 55 RX1 yX1_copyRows wsX1_copyRows) := goodIn_app (goodIn_of _ (by decide +kernel)) ggX3_copy_X1_copyRows
theorem dX3_copy_0 : decode cX3_copy 0 = .ok (.aload_n 0, 1) := by decide +kernel
theorem dX3_copy_1 : decode cX3_copy 1 = .ok (.aload_n 1, 1) := by decide +kernel
theorem dX3_copy_2 : decode cX3_copy 2 = .ok (.getfield 39, 3) := by decide +kernel
theorem dX3_copy_5 : decode cX3_copy 5 = .ok (.putfield 39, 3) := by decide +kernel
theorem dX3_copy_8 : decode cX3_copy 8 = .ok (.aload_n 1, 1) := by decide +kernel
theorem dX3_copy_9 : decode cX3_copy 9 = .ok (.getfield 9, 3) := by decide +kernel
theorem dX3_copy_12 : decode cX3_copy 12 = .ok (.iconst 0, 1) := by decide +kernel
theorem dX3_copy_13 : decode cX3_copy 13 = .ok (.aload_n 0, 1) := by decide +kernel
theorem dX3_copy_14 : decode cX3_copy 14 = .ok (.getfield 9, 3) := by decide +kernel
theorem dX3_copy_17 : decode cX3_copy 17 = .ok (.iconst 0, 1) := by decide +kernel
theorem dX3_copy_18 : decode cX3_copy 18 = .ok (.aload_n 0, 1) := by decide +kernel
theorem dX3_copy_19 : decode cX3_copy 19 = .ok (.getfield 39, 3) := by decide +kernel
theorem dX3_copy_22 : decode cX3_copy 22 = .ok (.invokestatic 49, 3) := by decide +kernel
theorem dX3_copy_25 : decode cX3_copy 25 = .ok (.aload_n 1, 1) := by decide +kernel
theorem dX3_copy_26 : decode cX3_copy 26 = .ok (.getfield 15, 3) := by decide +kernel
theorem dX3_copy_29 : decode cX3_copy 29 = .ok (.iconst 0, 1) := by decide +kernel
theorem dX3_copy_30 : decode cX3_copy 30 = .ok (.aload_n 0, 1) := by decide +kernel
theorem dX3_copy_31 : decode cX3_copy 31 = .ok (.getfield 15, 3) := by decide +kernel
theorem dX3_copy_34 : decode cX3_copy 34 = .ok (.iconst 0, 1) := by decide +kernel
theorem dX3_copy_35 : decode cX3_copy 35 = .ok (.aload_n 0, 1) := by decide +kernel
theorem dX3_copy_36 : decode cX3_copy 36 = .ok (.getfield 39, 3) := by decide +kernel
theorem dX3_copy_39 : decode cX3_copy 39 = .ok (.invokestatic 49, 3) := by decide +kernel
theorem dX3_copy_42 : decode cX3_copy 42 = .ok (.aload_n 1, 1) := by decide +kernel
theorem dX3_copy_43 : decode cX3_copy 43 = .ok (.getfield 18, 3) := by decide +kernel
theorem dX3_copy_46 : decode cX3_copy 46 = .ok (.iconst 0, 1) := by decide +kernel
theorem dX3_copy_47 : decode cX3_copy 47 = .ok (.aload_n 0, 1) := by decide +kernel
theorem dX3_copy_48 : decode cX3_copy 48 = .ok (.getfield 18, 3) := by decide +kernel
theorem dX3_copy_51 : decode cX3_copy 51 = .ok (.iconst 0, 1) := by decide +kernel
theorem dX3_copy_52 : decode cX3_copy 52 = .ok (.aload_n 0, 1) := by decide +kernel
theorem dX3_copy_53 : decode cX3_copy 53 = .ok (.getfield 39, 3) := by decide +kernel
theorem dX3_copy_56 : decode cX3_copy 56 = .ok (.invokestatic 49, 3) := by decide +kernel
theorem dX3_copy_59 : decode cX3_copy 59 = .ok (.aload_n 1, 1) := by decide +kernel
theorem dX3_copy_60 : decode cX3_copy 60 = .ok (.getfield 21, 3) := by decide +kernel
theorem dX3_copy_63 : decode cX3_copy 63 = .ok (.iconst 0, 1) := by decide +kernel
theorem dX3_copy_64 : decode cX3_copy 64 = .ok (.aload_n 0, 1) := by decide +kernel
theorem dX3_copy_65 : decode cX3_copy 65 = .ok (.getfield 21, 3) := by decide +kernel
theorem dX3_copy_68 : decode cX3_copy 68 = .ok (.iconst 0, 1) := by decide +kernel
theorem dX3_copy_69 : decode cX3_copy 69 = .ok (.aload_n 0, 1) := by decide +kernel
theorem dX3_copy_70 : decode cX3_copy 70 = .ok (.getfield 39, 3) := by decide +kernel
theorem dX3_copy_73 : decode cX3_copy 73 = .ok (.invokestatic 49, 3) := by decide +kernel
theorem dX3_copy_76 : decode cX3_copy 76 = .ok (.aload_n 0, 1) := by decide +kernel
theorem dX3_copy_77 : decode cX3_copy 77 = .ok (.getfield 29, 3) := by decide +kernel
theorem dX3_copy_80 : decode cX3_copy 80 = .ok (.aload_n 1, 1) := by decide +kernel
theorem dX3_copy_81 : decode cX3_copy 81 = .ok (.getfield 29, 3) := by decide +kernel
theorem dX3_copy_84 : decode cX3_copy 84 = .ok (.aload_n 0, 1) := by decide +kernel
theorem dX3_copy_85 : decode cX3_copy 85 = .ok (.getfield 39, 3) := by decide +kernel
theorem dX3_copy_88 : decode cX3_copy 88 = .ok (.invokevirtual 55, 3) := by decide +kernel
theorem dX3_copy_91 : decode cX3_copy 91 = .ok (.aload_n 1, 1) := by decide +kernel
theorem dX3_copy_92 : decode cX3_copy 92 = .ok (.getfield 33, 3) := by decide +kernel
theorem dX3_copy_95 : decode cX3_copy 95 = .ok (.iconst 0, 1) := by decide +kernel
theorem dX3_copy_96 : decode cX3_copy 96 = .ok (.aload_n 0, 1) := by decide +kernel
theorem dX3_copy_97 : decode cX3_copy 97 = .ok (.getfield 33, 3) := by decide +kernel
theorem dX3_copy_100 : decode cX3_copy 100 = .ok (.iconst 0, 1) := by decide +kernel
theorem dX3_copy_101 : decode cX3_copy 101 = .ok (.aload_n 0, 1) := by decide +kernel
theorem dX3_copy_102 : decode cX3_copy 102 = .ok (.getfield 39, 3) := by decide +kernel
theorem dX3_copy_105 : decode cX3_copy 105 = .ok (.invokestatic 49, 3) := by decide +kernel
theorem dX3_copy_108 : decode cX3_copy 108 = .ok (.aload_n 1, 1) := by decide +kernel
theorem dX3_copy_109 : decode cX3_copy 109 = .ok (.getfield 36, 3) := by decide +kernel
theorem dX3_copy_112 : decode cX3_copy 112 = .ok (.iconst 0, 1) := by decide +kernel
theorem dX3_copy_113 : decode cX3_copy 113 = .ok (.aload_n 0, 1) := by decide +kernel
theorem dX3_copy_114 : decode cX3_copy 114 = .ok (.getfield 36, 3) := by decide +kernel
theorem dX3_copy_117 : decode cX3_copy 117 = .ok (.iconst 0, 1) := by decide +kernel
theorem dX3_copy_118 : decode cX3_copy 118 = .ok (.bipush 12, 2) := by decide +kernel
theorem dX3_copy_120 : decode cX3_copy 120 = .ok (.invokestatic 49, 3) := by decide +kernel
theorem dX3_copy_123 : decode cX3_copy 123 = .ok (.return_, 1) := by decide +kernel
theorem dX3_hasRoom_0 : decode cX3_hasRoom 0 = .ok (.aload_n 0, 1) := by decide +kernel
theorem dX3_hasRoom_1 : decode cX3_hasRoom 1 = .ok (.getfield 39, 3) := by decide +kernel
theorem dX3_hasRoom_4 : decode cX3_hasRoom 4 = .ok (.iload_n 1, 1) := by decide +kernel
theorem dX3_hasRoom_5 : decode cX3_hasRoom 5 = .ok (.iadd, 1) := by decide +kernel
theorem dX3_hasRoom_6 : decode cX3_hasRoom 6 = .ok (.sipush 160, 3) := by decide +kernel
theorem dX3_hasRoom_9 : decode cX3_hasRoom 9 = .ok (.if_icmp .gt 7, 3) := by decide +kernel
theorem dX3_hasRoom_12 : decode cX3_hasRoom 12 = .ok (.iconst 1, 1) := by decide +kernel
theorem dX3_hasRoom_13 : decode cX3_hasRoom 13 = .ok (.goto 4, 3) := by decide +kernel
theorem dX3_hasRoom_16 : decode cX3_hasRoom 16 = .ok (.iconst 0, 1) := by decide +kernel
theorem dX3_hasRoom_17 : decode cX3_hasRoom 17 = .ok (.ireturn, 1) := by decide +kernel
set_option maxRecDepth 20000 in
theorem ggX3_append_X1_copyRow : GoodIn wsX3_append wsX1_copyRow := goodIn_r _ [11, 12, 13, 14, 15, 16, 25, 26] (by decide +kernel) (by decide +kernel)
set_option maxRecDepth 20000 in
theorem gX3_append_X1_copyRow : GoodIn wsX3_append (wsV RX3 59 RX1 yX1_copyRow wsX1_copyRow) := goodIn_app (goodIn_of _ (by decide +kernel)) ggX3_append_X1_copyRow
theorem dX3_append_0 : decode cX3_append 0 = .ok (.aload_n 0, 1) := by decide +kernel
theorem dX3_append_1 : decode cX3_append 1 = .ok (.getfield 39, 3) := by decide +kernel
theorem dX3_append_4 : decode cX3_append 4 = .ok (.istore 6, 2) := by decide +kernel
theorem dX3_append_6 : decode cX3_append 6 = .ok (.aload_n 0, 1) := by decide +kernel
theorem dX3_append_7 : decode cX3_append 7 = .ok (.getfield 9, 3) := by decide +kernel
theorem dX3_append_10 : decode cX3_append 10 = .ok (.iload 6, 2) := by decide +kernel
theorem dX3_append_12 : decode cX3_append 12 = .ok (.iload_n 1, 1) := by decide +kernel
theorem dX3_append_13 : decode cX3_append 13 = .ok (.iastore, 1) := by decide +kernel
theorem dX3_append_14 : decode cX3_append 14 = .ok (.aload_n 0, 1) := by decide +kernel
theorem dX3_append_15 : decode cX3_append 15 = .ok (.getfield 15, 3) := by decide +kernel
theorem dX3_append_18 : decode cX3_append 18 = .ok (.iload 6, 2) := by decide +kernel
theorem dX3_append_20 : decode cX3_append 20 = .ok (.iload_n 2, 1) := by decide +kernel
theorem dX3_append_21 : decode cX3_append 21 = .ok (.iastore, 1) := by decide +kernel
theorem dX3_append_22 : decode cX3_append 22 = .ok (.aload_n 0, 1) := by decide +kernel
theorem dX3_append_23 : decode cX3_append 23 = .ok (.getfield 18, 3) := by decide +kernel
theorem dX3_append_26 : decode cX3_append 26 = .ok (.iload 6, 2) := by decide +kernel
theorem dX3_append_28 : decode cX3_append 28 = .ok (.iload_n 3, 1) := by decide +kernel
theorem dX3_append_29 : decode cX3_append 29 = .ok (.iastore, 1) := by decide +kernel
theorem dX3_append_30 : decode cX3_append 30 = .ok (.aload_n 0, 1) := by decide +kernel
theorem dX3_append_31 : decode cX3_append 31 = .ok (.getfield 21, 3) := by decide +kernel
theorem dX3_append_34 : decode cX3_append 34 = .ok (.iload 6, 2) := by decide +kernel
theorem dX3_append_36 : decode cX3_append 36 = .ok (.iload 4, 2) := by decide +kernel
theorem dX3_append_38 : decode cX3_append 38 = .ok (.iastore, 1) := by decide +kernel
theorem dX3_append_39 : decode cX3_append 39 = .ok (.aload_n 0, 1) := by decide +kernel
theorem dX3_append_40 : decode cX3_append 40 = .ok (.getfield 29, 3) := by decide +kernel
theorem dX3_append_43 : decode cX3_append 43 = .ok (.iload 6, 2) := by decide +kernel
theorem dX3_append_45 : decode cX3_append 45 = .ok (.aload 5, 2) := by decide +kernel
theorem dX3_append_47 : decode cX3_append 47 = .ok (.iload_n 1, 1) := by decide +kernel
theorem dX3_append_48 : decode cX3_append 48 = .ok (.invokevirtual 59, 3) := by decide +kernel
theorem dX3_append_51 : decode cX3_append 51 = .ok (.aload_n 0, 1) := by decide +kernel
theorem dX3_append_52 : decode cX3_append 52 = .ok (.dup, 1) := by decide +kernel
theorem dX3_append_53 : decode cX3_append 53 = .ok (.getfield 39, 3) := by decide +kernel
theorem dX3_append_56 : decode cX3_append 56 = .ok (.iconst 1, 1) := by decide +kernel
theorem dX3_append_57 : decode cX3_append 57 = .ok (.iadd, 1) := by decide +kernel
theorem dX3_append_58 : decode cX3_append 58 = .ok (.putfield 39, 3) := by decide +kernel
theorem dX3_append_61 : decode cX3_append 61 = .ok (.iload 6, 2) := by decide +kernel
theorem dX3_append_63 : decode cX3_append 63 = .ok (.ireturn, 1) := by decide +kernel
set_option maxRecDepth 20000 in
theorem ggX3_isAhead_X1_number : GoodIn wsX3_isAhead wsX1_number := goodIn_r _ [7, 8, 17, 18] (by decide +kernel) (by decide +kernel)
set_option maxRecDepth 20000 in
theorem gX3_isAhead_X1_number : GoodIn wsX3_isAhead (wsV RX3 63 RX1 yX1_number wsX1_number) := goodIn_app (goodIn_of _ (by decide +kernel)) ggX3_isAhead_X1_number
theorem dX3_isAhead_0 : decode cX3_isAhead 0 = .ok (.aload_n 0, 1) := by decide +kernel
theorem dX3_isAhead_1 : decode cX3_isAhead 1 = .ok (.getfield 9, 3) := by decide +kernel
theorem dX3_isAhead_4 : decode cX3_isAhead 4 = .ok (.iload_n 1, 1) := by decide +kernel
theorem dX3_isAhead_5 : decode cX3_isAhead 5 = .ok (.iaload, 1) := by decide +kernel
theorem dX3_isAhead_6 : decode cX3_isAhead 6 = .ok (.istore_n 3, 1) := by decide +kernel
theorem dX3_isAhead_7 : decode cX3_isAhead 7 = .ok (.iload_n 1, 1) := by decide +kernel
theorem dX3_isAhead_8 : decode cX3_isAhead 8 = .ok (.iload_n 2, 1) := by decide +kernel
theorem dX3_isAhead_9 : decode cX3_isAhead 9 = .ok (.if_icmp .ge 28, 3) := by decide +kernel
theorem dX3_isAhead_12 : decode cX3_isAhead 12 = .ok (.aload_n 0, 1) := by decide +kernel
theorem dX3_isAhead_13 : decode cX3_isAhead 13 = .ok (.getfield 29, 3) := by decide +kernel
theorem dX3_isAhead_16 : decode cX3_isAhead 16 = .ok (.iload_n 2, 1) := by decide +kernel
theorem dX3_isAhead_17 : decode cX3_isAhead 17 = .ok (.iload_n 3, 1) := by decide +kernel
theorem dX3_isAhead_18 : decode cX3_isAhead 18 = .ok (.invokevirtual 63, 3) := by decide +kernel
theorem dX3_isAhead_21 : decode cX3_isAhead 21 = .ok (.aload_n 0, 1) := by decide +kernel
theorem dX3_isAhead_22 : decode cX3_isAhead 22 = .ok (.getfield 29, 3) := by decide +kernel
theorem dX3_isAhead_25 : decode cX3_isAhead 25 = .ok (.iload_n 1, 1) := by decide +kernel
theorem dX3_isAhead_26 : decode cX3_isAhead 26 = .ok (.iload_n 3, 1) := by decide +kernel
theorem dX3_isAhead_27 : decode cX3_isAhead 27 = .ok (.invokevirtual 63, 3) := by decide +kernel
theorem dX3_isAhead_30 : decode cX3_isAhead 30 = .ok (.if_icmp .lt 7, 3) := by decide +kernel
theorem dX3_isAhead_33 : decode cX3_isAhead 33 = .ok (.iconst 1, 1) := by decide +kernel
theorem dX3_isAhead_34 : decode cX3_isAhead 34 = .ok (.goto 4, 3) := by decide +kernel
theorem dX3_isAhead_37 : decode cX3_isAhead 37 = .ok (.iconst 0, 1) := by decide +kernel
theorem dX3_isAhead_38 : decode cX3_isAhead 38 = .ok (.ireturn, 1) := by decide +kernel
theorem dX3_racesOfCell_0 : decode cX3_racesOfCell 0 = .ok (.iconst 0, 1) := by decide +kernel
theorem dX3_racesOfCell_1 : decode cX3_racesOfCell 1 = .ok (.istore_n 2, 1) := by decide +kernel
theorem dX3_racesOfCell_2 : decode cX3_racesOfCell 2 = .ok (.iconst 0, 1) := by decide +kernel
theorem dX3_racesOfCell_3 : decode cX3_racesOfCell 3 = .ok (.istore_n 3, 1) := by decide +kernel
theorem dX3_racesOfCell_4 : decode cX3_racesOfCell 4 = .ok (.iload_n 3, 1) := by decide +kernel
theorem dX3_racesOfCell_5 : decode cX3_racesOfCell 5 = .ok (.iconst 3, 1) := by decide +kernel
theorem dX3_racesOfCell_6 : decode cX3_racesOfCell 6 = .ok (.if_icmp .ge 22, 3) := by decide +kernel
theorem dX3_racesOfCell_9 : decode cX3_racesOfCell 9 = .ok (.iload_n 2, 1) := by decide +kernel
theorem dX3_racesOfCell_10 : decode cX3_racesOfCell 10 = .ok (.aload_n 0, 1) := by decide +kernel
theorem dX3_racesOfCell_11 : decode cX3_racesOfCell 11 = .ok (.getfield 36, 3) := by decide +kernel
theorem dX3_racesOfCell_14 : decode cX3_racesOfCell 14 = .ok (.iload_n 1, 1) := by decide +kernel
theorem dX3_racesOfCell_15 : decode cX3_racesOfCell 15 = .ok (.iconst 3, 1) := by decide +kernel
theorem dX3_racesOfCell_16 : decode cX3_racesOfCell 16 = .ok (.imul, 1) := by decide +kernel
theorem dX3_racesOfCell_17 : decode cX3_racesOfCell 17 = .ok (.iload_n 3, 1) := by decide +kernel
theorem dX3_racesOfCell_18 : decode cX3_racesOfCell 18 = .ok (.iadd, 1) := by decide +kernel
theorem dX3_racesOfCell_19 : decode cX3_racesOfCell 19 = .ok (.iaload, 1) := by decide +kernel
theorem dX3_racesOfCell_20 : decode cX3_racesOfCell 20 = .ok (.iadd, 1) := by decide +kernel
theorem dX3_racesOfCell_21 : decode cX3_racesOfCell 21 = .ok (.istore_n 2, 1) := by decide +kernel
theorem dX3_racesOfCell_22 : decode cX3_racesOfCell 22 = .ok (.iinc 3 1, 3) := by decide +kernel
theorem dX3_racesOfCell_25 : decode cX3_racesOfCell 25 = .ok (.goto (-21), 3) := by decide +kernel
theorem dX3_racesOfCell_28 : decode cX3_racesOfCell 28 = .ok (.iload_n 2, 1) := by decide +kernel
theorem dX3_racesOfCell_29 : decode cX3_racesOfCell 29 = .ok (.ireturn, 1) := by decide +kernel
set_option maxRecDepth 20000 in
theorem ggX3_racesOfAll_X3_racesOfCell : GoodIn wsX3_racesOfAll wsX3_racesOfCell := goodIn_r _ [5, 6, 7, 8, 9, 10, 11, 12, 13, 14] (by decide +kernel) (by decide +kernel)
set_option maxRecDepth 20000 in
theorem gX3_racesOfAll_X3_racesOfCell : GoodIn wsX3_racesOfAll (wsV RX3 67 RX3 yX3_racesOfCell wsX3_racesOfCell) := goodIn_app (goodIn_of _ (by decide +kernel)) ggX3_racesOfAll_X3_racesOfCell
theorem dX3_racesOfAll_0 : decode cX3_racesOfAll 0 = .ok (.iconst 0, 1) := by decide +kernel
theorem dX3_racesOfAll_1 : decode cX3_racesOfAll 1 = .ok (.istore_n 1, 1) := by decide +kernel
theorem dX3_racesOfAll_2 : decode cX3_racesOfAll 2 = .ok (.iconst 0, 1) := by decide +kernel
theorem dX3_racesOfAll_3 : decode cX3_racesOfAll 3 = .ok (.istore_n 2, 1) := by decide +kernel
theorem dX3_racesOfAll_4 : decode cX3_racesOfAll 4 = .ok (.iload_n 2, 1) := by decide +kernel
theorem dX3_racesOfAll_5 : decode cX3_racesOfAll 5 = .ok (.iconst 4, 1) := by decide +kernel
theorem dX3_racesOfAll_6 : decode cX3_racesOfAll 6 = .ok (.if_icmp .ge 17, 3) := by decide +kernel
theorem dX3_racesOfAll_9 : decode cX3_racesOfAll 9 = .ok (.iload_n 1, 1) := by decide +kernel
theorem dX3_racesOfAll_10 : decode cX3_racesOfAll 10 = .ok (.aload_n 0, 1) := by decide +kernel
theorem dX3_racesOfAll_11 : decode cX3_racesOfAll 11 = .ok (.iload_n 2, 1) := by decide +kernel
theorem dX3_racesOfAll_12 : decode cX3_racesOfAll 12 = .ok (.invokevirtual 67, 3) := by decide +kernel
theorem dX3_racesOfAll_15 : decode cX3_racesOfAll 15 = .ok (.iadd, 1) := by decide +kernel
theorem dX3_racesOfAll_16 : decode cX3_racesOfAll 16 = .ok (.istore_n 1, 1) := by decide +kernel
theorem dX3_racesOfAll_17 : decode cX3_racesOfAll 17 = .ok (.iinc 2 1, 3) := by decide +kernel
theorem dX3_racesOfAll_20 : decode cX3_racesOfAll 20 = .ok (.goto (-16), 3) := by decide +kernel
theorem dX3_racesOfAll_23 : decode cX3_racesOfAll 23 = .ok (.iload_n 1, 1) := by decide +kernel
theorem dX3_racesOfAll_24 : decode cX3_racesOfAll 24 = .ok (.ireturn, 1) := by decide +kernel
set_option maxRecDepth 20000 in
theorem ggX3_cellsWithRace_X3_racesOfCell : GoodIn wsX3_cellsWithRace wsX3_racesOfCell := goodIn_r _ [5, 6, 7, 8, 9, 10, 11, 12, 13, 14] (by decide +kernel) (by decide +kernel)
set_option maxRecDepth 20000 in
theorem gX3_cellsWithRace_X3_racesOfCell : GoodIn wsX3_cellsWithRace (wsV RX3 67 RX3 yX3_racesOfCell wsX3_racesOfCell) := goodIn_app (goodIn_of _ (by decide +kernel)) ggX3_cellsWithRace_X3_racesOfCell
theorem dX3_cellsWithRace_0 : decode cX3_cellsWithRace 0 = .ok (.iconst 0, 1) := by decide +kernel
theorem dX3_cellsWithRace_1 : decode cX3_cellsWithRace 1 = .ok (.istore_n 1, 1) := by decide +kernel
theorem dX3_cellsWithRace_2 : decode cX3_cellsWithRace 2 = .ok (.iconst 0, 1) := by decide +kernel
theorem dX3_cellsWithRace_3 : decode cX3_cellsWithRace 3 = .ok (.istore_n 2, 1) := by decide +kernel
theorem dX3_cellsWithRace_4 : decode cX3_cellsWithRace 4 = .ok (.iload_n 2, 1) := by decide +kernel
theorem dX3_cellsWithRace_5 : decode cX3_cellsWithRace 5 = .ok (.iconst 4, 1) := by decide +kernel
theorem dX3_cellsWithRace_6 : decode cX3_cellsWithRace 6 = .ok (.if_icmp .ge 23, 3) := by decide +kernel
theorem dX3_cellsWithRace_9 : decode cX3_cellsWithRace 9 = .ok (.aload_n 0, 1) := by decide +kernel
theorem dX3_cellsWithRace_10 : decode cX3_cellsWithRace 10 = .ok (.iload_n 2, 1) := by decide +kernel
theorem dX3_cellsWithRace_11 : decode cX3_cellsWithRace 11 = .ok (.invokevirtual 67, 3) := by decide +kernel
theorem dX3_cellsWithRace_14 : decode cX3_cellsWithRace 14 = .ok (.ifCond .le 9, 3) := by decide +kernel
theorem dX3_cellsWithRace_17 : decode cX3_cellsWithRace 17 = .ok (.iload_n 1, 1) := by decide +kernel
theorem dX3_cellsWithRace_18 : decode cX3_cellsWithRace 18 = .ok (.iconst 1, 1) := by decide +kernel
theorem dX3_cellsWithRace_19 : decode cX3_cellsWithRace 19 = .ok (.iload_n 2, 1) := by decide +kernel
theorem dX3_cellsWithRace_20 : decode cX3_cellsWithRace 20 = .ok (.ishl, 1) := by decide +kernel
theorem dX3_cellsWithRace_21 : decode cX3_cellsWithRace 21 = .ok (.ior, 1) := by decide +kernel
theorem dX3_cellsWithRace_22 : decode cX3_cellsWithRace 22 = .ok (.istore_n 1, 1) := by decide +kernel
theorem dX3_cellsWithRace_23 : decode cX3_cellsWithRace 23 = .ok (.iinc 2 1, 3) := by decide +kernel
theorem dX3_cellsWithRace_26 : decode cX3_cellsWithRace 26 = .ok (.goto (-22), 3) := by decide +kernel
theorem dX3_cellsWithRace_29 : decode cX3_cellsWithRace 29 = .ok (.iload_n 1, 1) := by decide +kernel
theorem dX3_cellsWithRace_30 : decode cX3_cellsWithRace 30 = .ok (.ireturn, 1) := by decide +kernel
set_option maxRecDepth 20000 in
theorem ggX3_partOfRace_X3_isAccess : GoodIn wsX3_partOfRace wsX3_isAccess := goodIn_r _ [8, 9, 30, 31, 32, 33, 34, 35, 36, 37] (by decide +kernel) (by decide +kernel)
set_option maxRecDepth 20000 in
theorem gX3_partOfRace_X3_isAccess : GoodIn wsX3_partOfRace (wsV RX3 71 RX3 yX3_isAccess wsX3_isAccess) := goodIn_app (goodIn_of _ (by decide +kernel)) ggX3_partOfRace_X3_isAccess
set_option maxRecDepth 20000 in
theorem ggX3_partOfRace_X3_earlierOf : GoodIn wsX3_partOfRace wsX3_earlierOf := goodIn_r _ [13, 14, 15, 16, 7, 17, 2, 18, 9, 4, 5, 6, 8, 19, 20, 21, 22, 23, 24, 25, 26, 27, 28, 29, 30, 31, 32, 33, 34, 35, 36, 37, 38, 39] (by decide +kernel) (by decide +kernel)
set_option maxRecDepth 20000 in
theorem gX3_partOfRace_X3_earlierOf : GoodIn wsX3_partOfRace (wsV RX3 75 RX3 yX3_earlierOf wsX3_earlierOf) := goodIn_app (goodIn_of _ (by decide +kernel)) ggX3_partOfRace_X3_earlierOf
set_option maxRecDepth 20000 in
theorem ggX3_partOfRace_X3_kindOfPair : GoodIn wsX3_partOfRace wsX3_kindOfPair := goodIn_r _ [17, 2, 18, 9, 4, 5, 6, 7, 8, 19, 20, 21, 22, 23, 24, 25, 26, 27, 28, 29, 30, 31, 32, 33, 34, 35, 36, 37, 38, 39] (by decide +kernel) (by decide +kernel)
set_option maxRecDepth 20000 in
theorem gX3_partOfRace_X3_kindOfPair : GoodIn wsX3_partOfRace (wsV RX3 78 RX3 yX3_kindOfPair wsX3_kindOfPair) := goodIn_app (goodIn_of _ (by decide +kernel)) ggX3_partOfRace_X3_kindOfPair
theorem dX3_partOfRace_0 : decode cX3_partOfRace 0 = .ok (.iload_n 2, 1) := by decide +kernel
theorem dX3_partOfRace_1 : decode cX3_partOfRace 1 = .ok (.istore 4, 2) := by decide +kernel
theorem dX3_partOfRace_3 : decode cX3_partOfRace 3 = .ok (.iconst 0, 1) := by decide +kernel
theorem dX3_partOfRace_4 : decode cX3_partOfRace 4 = .ok (.istore 5, 2) := by decide +kernel
theorem dX3_partOfRace_6 : decode cX3_partOfRace 6 = .ok (.iload 5, 2) := by decide +kernel
theorem dX3_partOfRace_8 : decode cX3_partOfRace 8 = .ok (.aload_n 0, 1) := by decide +kernel
theorem dX3_partOfRace_9 : decode cX3_partOfRace 9 = .ok (.getfield 39, 3) := by decide +kernel
theorem dX3_partOfRace_12 : decode cX3_partOfRace 12 = .ok (.if_icmp .ge 91, 3) := by decide +kernel
theorem dX3_partOfRace_15 : decode cX3_partOfRace 15 = .ok (.aload_n 0, 1) := by decide +kernel
theorem dX3_partOfRace_16 : decode cX3_partOfRace 16 = .ok (.iload 5, 2) := by decide +kernel
theorem dX3_partOfRace_18 : decode cX3_partOfRace 18 = .ok (.invokevirtual 71, 3) := by decide +kernel
theorem dX3_partOfRace_21 : decode cX3_partOfRace 21 = .ok (.ifCond .eq 76, 3) := by decide +kernel
theorem dX3_partOfRace_24 : decode cX3_partOfRace 24 = .ok (.aload_n 0, 1) := by decide +kernel
theorem dX3_partOfRace_25 : decode cX3_partOfRace 25 = .ok (.getfield 18, 3) := by decide +kernel
theorem dX3_partOfRace_28 : decode cX3_partOfRace 28 = .ok (.iload 5, 2) := by decide +kernel
theorem dX3_partOfRace_30 : decode cX3_partOfRace 30 = .ok (.iaload, 1) := by decide +kernel
theorem dX3_partOfRace_31 : decode cX3_partOfRace 31 = .ok (.iload_n 1, 1) := by decide +kernel
theorem dX3_partOfRace_32 : decode cX3_partOfRace 32 = .ok (.if_icmp .ne 65, 3) := by decide +kernel
theorem dX3_partOfRace_35 : decode cX3_partOfRace 35 = .ok (.iload 4, 2) := by decide +kernel
theorem dX3_partOfRace_37 : decode cX3_partOfRace 37 = .ok (.aload_n 0, 1) := by decide +kernel
theorem dX3_partOfRace_38 : decode cX3_partOfRace 38 = .ok (.getfield 33, 3) := by decide +kernel
theorem dX3_partOfRace_41 : decode cX3_partOfRace 41 = .ok (.iload 5, 2) := by decide +kernel
theorem dX3_partOfRace_43 : decode cX3_partOfRace 43 = .ok (.iaload, 1) := by decide +kernel
theorem dX3_partOfRace_44 : decode cX3_partOfRace 44 = .ok (.if_icmp .ge 41, 3) := by decide +kernel
theorem dX3_partOfRace_47 : decode cX3_partOfRace 47 = .ok (.aload_n 0, 1) := by decide +kernel
theorem dX3_partOfRace_48 : decode cX3_partOfRace 48 = .ok (.iload 5, 2) := by decide +kernel
theorem dX3_partOfRace_50 : decode cX3_partOfRace 50 = .ok (.iload 4, 2) := by decide +kernel
theorem dX3_partOfRace_52 : decode cX3_partOfRace 52 = .ok (.invokevirtual 75, 3) := by decide +kernel
theorem dX3_partOfRace_55 : decode cX3_partOfRace 55 = .ok (.istore 6, 2) := by decide +kernel
theorem dX3_partOfRace_57 : decode cX3_partOfRace 57 = .ok (.iload_n 3, 1) := by decide +kernel
theorem dX3_partOfRace_58 : decode cX3_partOfRace 58 = .ok (.ifCond .ne 8, 3) := by decide +kernel
theorem dX3_partOfRace_61 : decode cX3_partOfRace 61 = .ok (.iload 6, 2) := by decide +kernel
theorem dX3_partOfRace_63 : decode cX3_partOfRace 63 = .ok (.goto 21, 3) := by decide +kernel
theorem dX3_partOfRace_66 : decode cX3_partOfRace 66 = .ok (.iload_n 3, 1) := by decide +kernel
theorem dX3_partOfRace_67 : decode cX3_partOfRace 67 = .ok (.iconst 1, 1) := by decide +kernel
theorem dX3_partOfRace_68 : decode cX3_partOfRace 68 = .ok (.if_icmp .ne 8, 3) := by decide +kernel
theorem dX3_partOfRace_71 : decode cX3_partOfRace 71 = .ok (.iload 5, 2) := by decide +kernel
theorem dX3_partOfRace_73 : decode cX3_partOfRace 73 = .ok (.goto 11, 3) := by decide +kernel
theorem dX3_partOfRace_76 : decode cX3_partOfRace 76 = .ok (.aload_n 0, 1) := by decide +kernel
theorem dX3_partOfRace_77 : decode cX3_partOfRace 77 = .ok (.iload 6, 2) := by decide +kernel
theorem dX3_partOfRace_79 : decode cX3_partOfRace 79 = .ok (.iload 5, 2) := by decide +kernel
theorem dX3_partOfRace_81 : decode cX3_partOfRace 81 = .ok (.invokevirtual 78, 3) := by decide +kernel
theorem dX3_partOfRace_84 : decode cX3_partOfRace 84 = .ok (.ireturn, 1) := by decide +kernel
theorem dX3_partOfRace_85 : decode cX3_partOfRace 85 = .ok (.iload 4, 2) := by decide +kernel
theorem dX3_partOfRace_87 : decode cX3_partOfRace 87 = .ok (.aload_n 0, 1) := by decide +kernel
theorem dX3_partOfRace_88 : decode cX3_partOfRace 88 = .ok (.getfield 33, 3) := by decide +kernel
theorem dX3_partOfRace_91 : decode cX3_partOfRace 91 = .ok (.iload 5, 2) := by decide +kernel
theorem dX3_partOfRace_93 : decode cX3_partOfRace 93 = .ok (.iaload, 1) := by decide +kernel
theorem dX3_partOfRace_94 : decode cX3_partOfRace 94 = .ok (.isub, 1) := by decide +kernel
theorem dX3_partOfRace_95 : decode cX3_partOfRace 95 = .ok (.istore 4, 2) := by decide +kernel
theorem dX3_partOfRace_97 : decode cX3_partOfRace 97 = .ok (.iinc 5 1, 3) := by decide +kernel
theorem dX3_partOfRace_100 : decode cX3_partOfRace 100 = .ok (.goto (-94), 3) := by decide +kernel
theorem dX3_partOfRace_103 : decode cX3_partOfRace 103 = .ok (.iconst (-1), 1) := by decide +kernel
theorem dX3_partOfRace_104 : decode cX3_partOfRace 104 = .ok (.ireturn, 1) := by decide +kernel
set_option maxRecDepth 20000 in
theorem ggX3_earlierOf_X3_kindOfPair : GoodIn wsX3_earlierOf wsX3_kindOfPair := goodIn_r _ [5, 6, 7, 8, 9, 10, 11, 4, 12, 13, 14, 15, 16, 17, 18, 19, 20, 21, 22, 23, 24, 25, 26, 27, 28, 29, 30, 31, 32, 33] (by decide +kernel) (by decide +kernel)
set_option maxRecDepth 20000 in
theorem gX3_earlierOf_X3_kindOfPair : GoodIn wsX3_earlierOf (wsV RX3 78 RX3 yX3_kindOfPair wsX3_kindOfPair) := goodIn_app (goodIn_of _ (by decide +kernel)) ggX3_earlierOf_X3_kindOfPair
theorem dX3_earlierOf_0 : decode cX3_earlierOf 0 = .ok (.iload_n 2, 1) := by decide +kernel
theorem dX3_earlierOf_1 : decode cX3_earlierOf 1 = .ok (.istore_n 3, 1) := by decide +kernel
theorem dX3_earlierOf_2 : decode cX3_earlierOf 2 = .ok (.iconst 0, 1) := by decide +kernel
theorem dX3_earlierOf_3 : decode cX3_earlierOf 3 = .ok (.istore 4, 2) := by decide +kernel
theorem dX3_earlierOf_5 : decode cX3_earlierOf 5 = .ok (.iload 4, 2) := by decide +kernel
theorem dX3_earlierOf_7 : decode cX3_earlierOf 7 = .ok (.iload_n 1, 1) := by decide +kernel
theorem dX3_earlierOf_8 : decode cX3_earlierOf 8 = .ok (.if_icmp .ge 30, 3) := by decide +kernel
theorem dX3_earlierOf_11 : decode cX3_earlierOf 11 = .ok (.aload_n 0, 1) := by decide +kernel
theorem dX3_earlierOf_12 : decode cX3_earlierOf 12 = .ok (.iload 4, 2) := by decide +kernel
theorem dX3_earlierOf_14 : decode cX3_earlierOf 14 = .ok (.iload_n 1, 1) := by decide +kernel
theorem dX3_earlierOf_15 : decode cX3_earlierOf 15 = .ok (.invokevirtual 78, 3) := by decide +kernel
theorem dX3_earlierOf_18 : decode cX3_earlierOf 18 = .ok (.iconst (-1), 1) := by decide +kernel
theorem dX3_earlierOf_19 : decode cX3_earlierOf 19 = .ok (.if_icmp .eq 13, 3) := by decide +kernel
theorem dX3_earlierOf_22 : decode cX3_earlierOf 22 = .ok (.iload_n 3, 1) := by decide +kernel
theorem dX3_earlierOf_23 : decode cX3_earlierOf 23 = .ok (.ifCond .ne 6, 3) := by decide +kernel
theorem dX3_earlierOf_26 : decode cX3_earlierOf 26 = .ok (.iload 4, 2) := by decide +kernel
theorem dX3_earlierOf_28 : decode cX3_earlierOf 28 = .ok (.ireturn, 1) := by decide +kernel
theorem dX3_earlierOf_29 : decode cX3_earlierOf 29 = .ok (.iinc 3 (-1), 3) := by decide +kernel
theorem dX3_earlierOf_32 : decode cX3_earlierOf 32 = .ok (.iinc 4 1, 3) := by decide +kernel
theorem dX3_earlierOf_35 : decode cX3_earlierOf 35 = .ok (.goto (-30), 3) := by decide +kernel
theorem dX3_earlierOf_38 : decode cX3_earlierOf 38 = .ok (.iconst (-1), 1) := by decide +kernel
theorem dX3_earlierOf_39 : decode cX3_earlierOf 39 = .ok (.ireturn, 1) := by decide +kernel
set_option maxRecDepth 20000 in
theorem ggX3_countRaces_X3_kindOfPair : GoodIn wsX3_countRaces wsX3_kindOfPair := goodIn_r _ [8, 2, 9, 10, 11, 12, 13, 7, 14, 15, 16, 17, 18, 19, 20, 21, 22, 23, 24, 25, 26, 27, 28, 29, 30, 31, 32, 33, 34, 35] (by decide +kernel) (by decide +kernel)
set_option maxRecDepth 20000 in
theorem gX3_countRaces_X3_kindOfPair : GoodIn wsX3_countRaces (wsV RX3 78 RX3 yX3_kindOfPair wsX3_kindOfPair) := goodIn_app (goodIn_of _ (by decide +kernel)) ggX3_countRaces_X3_kindOfPair
theorem dX3_countRaces_0 : decode cX3_countRaces 0 = .ok (.iconst 0, 1) := by decide +kernel
theorem dX3_countRaces_1 : decode cX3_countRaces 1 = .ok (.istore_n 2, 1) := by decide +kernel
theorem dX3_countRaces_2 : decode cX3_countRaces 2 = .ok (.iconst 0, 1) := by decide +kernel
theorem dX3_countRaces_3 : decode cX3_countRaces 3 = .ok (.istore_n 3, 1) := by decide +kernel
theorem dX3_countRaces_4 : decode cX3_countRaces 4 = .ok (.iload_n 3, 1) := by decide +kernel
theorem dX3_countRaces_5 : decode cX3_countRaces 5 = .ok (.iload_n 1, 1) := by decide +kernel
theorem dX3_countRaces_6 : decode cX3_countRaces 6 = .ok (.if_icmp .ge 46, 3) := by decide +kernel
theorem dX3_countRaces_9 : decode cX3_countRaces 9 = .ok (.aload_n 0, 1) := by decide +kernel
theorem dX3_countRaces_10 : decode cX3_countRaces 10 = .ok (.iload_n 3, 1) := by decide +kernel
theorem dX3_countRaces_11 : decode cX3_countRaces 11 = .ok (.iload_n 1, 1) := by decide +kernel
theorem dX3_countRaces_12 : decode cX3_countRaces 12 = .ok (.invokevirtual 78, 3) := by decide +kernel
theorem dX3_countRaces_15 : decode cX3_countRaces 15 = .ok (.istore 4, 2) := by decide +kernel
theorem dX3_countRaces_17 : decode cX3_countRaces 17 = .ok (.iload 4, 2) := by decide +kernel
theorem dX3_countRaces_19 : decode cX3_countRaces 19 = .ok (.iconst (-1), 1) := by decide +kernel
theorem dX3_countRaces_20 : decode cX3_countRaces 20 = .ok (.if_icmp .eq 26, 3) := by decide +kernel
theorem dX3_countRaces_23 : decode cX3_countRaces 23 = .ok (.aload_n 0, 1) := by decide +kernel
theorem dX3_countRaces_24 : decode cX3_countRaces 24 = .ok (.getfield 36, 3) := by decide +kernel
theorem dX3_countRaces_27 : decode cX3_countRaces 27 = .ok (.aload_n 0, 1) := by decide +kernel
theorem dX3_countRaces_28 : decode cX3_countRaces 28 = .ok (.getfield 18, 3) := by decide +kernel
theorem dX3_countRaces_31 : decode cX3_countRaces 31 = .ok (.iload_n 1, 1) := by decide +kernel
theorem dX3_countRaces_32 : decode cX3_countRaces 32 = .ok (.iaload, 1) := by decide +kernel
theorem dX3_countRaces_33 : decode cX3_countRaces 33 = .ok (.iconst 3, 1) := by decide +kernel
theorem dX3_countRaces_34 : decode cX3_countRaces 34 = .ok (.imul, 1) := by decide +kernel
theorem dX3_countRaces_35 : decode cX3_countRaces 35 = .ok (.iload 4, 2) := by decide +kernel
theorem dX3_countRaces_37 : decode cX3_countRaces 37 = .ok (.iadd, 1) := by decide +kernel
theorem dX3_countRaces_38 : decode cX3_countRaces 38 = .ok (.dup2, 1) := by decide +kernel
theorem dX3_countRaces_39 : decode cX3_countRaces 39 = .ok (.iaload, 1) := by decide +kernel
theorem dX3_countRaces_40 : decode cX3_countRaces 40 = .ok (.iconst 1, 1) := by decide +kernel
theorem dX3_countRaces_41 : decode cX3_countRaces 41 = .ok (.iadd, 1) := by decide +kernel
theorem dX3_countRaces_42 : decode cX3_countRaces 42 = .ok (.iastore, 1) := by decide +kernel
theorem dX3_countRaces_43 : decode cX3_countRaces 43 = .ok (.iinc 2 1, 3) := by decide +kernel
theorem dX3_countRaces_46 : decode cX3_countRaces 46 = .ok (.iinc 3 1, 3) := by decide +kernel
theorem dX3_countRaces_49 : decode cX3_countRaces 49 = .ok (.goto (-45), 3) := by decide +kernel
theorem dX3_countRaces_52 : decode cX3_countRaces 52 = .ok (.aload_n 0, 1) := by decide +kernel
theorem dX3_countRaces_53 : decode cX3_countRaces 53 = .ok (.getfield 33, 3) := by decide +kernel
theorem dX3_countRaces_56 : decode cX3_countRaces 56 = .ok (.iload_n 1, 1) := by decide +kernel
theorem dX3_countRaces_57 : decode cX3_countRaces 57 = .ok (.iload_n 2, 1) := by decide +kernel
theorem dX3_countRaces_58 : decode cX3_countRaces 58 = .ok (.iastore, 1) := by decide +kernel
theorem dX3_countRaces_59 : decode cX3_countRaces 59 = .ok (.return_, 1) := by decide +kernel
theorem dX3_isAccess_0 : decode cX3_isAccess 0 = .ok (.aload_n 0, 1) := by decide +kernel
theorem dX3_isAccess_1 : decode cX3_isAccess 1 = .ok (.getfield 15, 3) := by decide +kernel
theorem dX3_isAccess_4 : decode cX3_isAccess 4 = .ok (.iload_n 1, 1) := by decide +kernel
theorem dX3_isAccess_5 : decode cX3_isAccess 5 = .ok (.iaload, 1) := by decide +kernel
theorem dX3_isAccess_6 : decode cX3_isAccess 6 = .ok (.ifCond .eq 13, 3) := by decide +kernel
theorem dX3_isAccess_9 : decode cX3_isAccess 9 = .ok (.aload_n 0, 1) := by decide +kernel
theorem dX3_isAccess_10 : decode cX3_isAccess 10 = .ok (.getfield 15, 3) := by decide +kernel
theorem dX3_isAccess_13 : decode cX3_isAccess 13 = .ok (.iload_n 1, 1) := by decide +kernel
theorem dX3_isAccess_14 : decode cX3_isAccess 14 = .ok (.iaload, 1) := by decide +kernel
theorem dX3_isAccess_15 : decode cX3_isAccess 15 = .ok (.iconst 1, 1) := by decide +kernel
theorem dX3_isAccess_16 : decode cX3_isAccess 16 = .ok (.if_icmp .ne 7, 3) := by decide +kernel
theorem dX3_isAccess_19 : decode cX3_isAccess 19 = .ok (.iconst 1, 1) := by decide +kernel
theorem dX3_isAccess_20 : decode cX3_isAccess 20 = .ok (.goto 4, 3) := by decide +kernel
theorem dX3_isAccess_23 : decode cX3_isAccess 23 = .ok (.iconst 0, 1) := by decide +kernel
theorem dX3_isAccess_24 : decode cX3_isAccess 24 = .ok (.ireturn, 1) := by decide +kernel
set_option maxRecDepth 20000 in
theorem ggX3_kindOfPair_X3_isAccess : GoodIn wsX3_kindOfPair wsX3_isAccess := goodIn_r _ [8, 3, 20, 21, 22, 23, 24, 25, 26, 27] (by decide +kernel) (by decide +kernel)
set_option maxRecDepth 20000 in
theorem gX3_kindOfPair_X3_isAccess : GoodIn wsX3_kindOfPair (wsV RX3 71 RX3 yX3_isAccess wsX3_isAccess) := goodIn_app (goodIn_of _ (by decide +kernel)) ggX3_kindOfPair_X3_isAccess
set_option maxRecDepth 20000 in
theorem ggX3_kindOfPair_X3_isAhead : GoodIn wsX3_kindOfPair wsX3_isAhead := goodIn_r _ [12, 2, 13, 14, 15, 16, 17, 18, 19, 20, 21, 22, 23, 24, 25, 26, 27, 28, 29] (by decide +kernel) (by decide +kernel)
set_option maxRecDepth 20000 in
theorem gX3_kindOfPair_X3_isAhead : GoodIn wsX3_kindOfPair (wsV RX3 81 RX3 yX3_isAhead wsX3_isAhead) := goodIn_app (goodIn_of _ (by decide +kernel)) ggX3_kindOfPair_X3_isAhead
theorem dX3_kindOfPair_0 : decode cX3_kindOfPair 0 = .ok (.aload_n 0, 1) := by decide +kernel
theorem dX3_kindOfPair_1 : decode cX3_kindOfPair 1 = .ok (.iload_n 1, 1) := by decide +kernel
theorem dX3_kindOfPair_2 : decode cX3_kindOfPair 2 = .ok (.invokevirtual 71, 3) := by decide +kernel
theorem dX3_kindOfPair_5 : decode cX3_kindOfPair 5 = .ok (.ifCond .eq 26, 3) := by decide +kernel
theorem dX3_kindOfPair_8 : decode cX3_kindOfPair 8 = .ok (.aload_n 0, 1) := by decide +kernel
theorem dX3_kindOfPair_9 : decode cX3_kindOfPair 9 = .ok (.iload_n 2, 1) := by decide +kernel
theorem dX3_kindOfPair_10 : decode cX3_kindOfPair 10 = .ok (.invokevirtual 71, 3) := by decide +kernel
theorem dX3_kindOfPair_13 : decode cX3_kindOfPair 13 = .ok (.ifCond .eq 18, 3) := by decide +kernel
theorem dX3_kindOfPair_16 : decode cX3_kindOfPair 16 = .ok (.aload_n 0, 1) := by decide +kernel
theorem dX3_kindOfPair_17 : decode cX3_kindOfPair 17 = .ok (.getfield 18, 3) := by decide +kernel
theorem dX3_kindOfPair_20 : decode cX3_kindOfPair 20 = .ok (.iload_n 1, 1) := by decide +kernel
theorem dX3_kindOfPair_21 : decode cX3_kindOfPair 21 = .ok (.iaload, 1) := by decide +kernel
theorem dX3_kindOfPair_22 : decode cX3_kindOfPair 22 = .ok (.aload_n 0, 1) := by decide +kernel
theorem dX3_kindOfPair_23 : decode cX3_kindOfPair 23 = .ok (.getfield 18, 3) := by decide +kernel
theorem dX3_kindOfPair_26 : decode cX3_kindOfPair 26 = .ok (.iload_n 2, 1) := by decide +kernel
theorem dX3_kindOfPair_27 : decode cX3_kindOfPair 27 = .ok (.iaload, 1) := by decide +kernel
theorem dX3_kindOfPair_28 : decode cX3_kindOfPair 28 = .ok (.if_icmp .eq 5, 3) := by decide +kernel
theorem dX3_kindOfPair_31 : decode cX3_kindOfPair 31 = .ok (.iconst (-1), 1) := by decide +kernel
theorem dX3_kindOfPair_32 : decode cX3_kindOfPair 32 = .ok (.ireturn, 1) := by decide +kernel
theorem dX3_kindOfPair_33 : decode cX3_kindOfPair 33 = .ok (.aload_n 0, 1) := by decide +kernel
theorem dX3_kindOfPair_34 : decode cX3_kindOfPair 34 = .ok (.getfield 9, 3) := by decide +kernel
theorem dX3_kindOfPair_37 : decode cX3_kindOfPair 37 = .ok (.iload_n 1, 1) := by decide +kernel
theorem dX3_kindOfPair_38 : decode cX3_kindOfPair 38 = .ok (.iaload, 1) := by decide +kernel
theorem dX3_kindOfPair_39 : decode cX3_kindOfPair 39 = .ok (.aload_n 0, 1) := by decide +kernel
theorem dX3_kindOfPair_40 : decode cX3_kindOfPair 40 = .ok (.getfield 9, 3) := by decide +kernel
theorem dX3_kindOfPair_43 : decode cX3_kindOfPair 43 = .ok (.iload_n 2, 1) := by decide +kernel
theorem dX3_kindOfPair_44 : decode cX3_kindOfPair 44 = .ok (.iaload, 1) := by decide +kernel
theorem dX3_kindOfPair_45 : decode cX3_kindOfPair 45 = .ok (.if_icmp .eq 12, 3) := by decide +kernel
theorem dX3_kindOfPair_48 : decode cX3_kindOfPair 48 = .ok (.aload_n 0, 1) := by decide +kernel
theorem dX3_kindOfPair_49 : decode cX3_kindOfPair 49 = .ok (.iload_n 1, 1) := by decide +kernel
theorem dX3_kindOfPair_50 : decode cX3_kindOfPair 50 = .ok (.iload_n 2, 1) := by decide +kernel
theorem dX3_kindOfPair_51 : decode cX3_kindOfPair 51 = .ok (.invokevirtual 81, 3) := by decide +kernel
theorem dX3_kindOfPair_54 : decode cX3_kindOfPair 54 = .ok (.ifCond .eq 5, 3) := by decide +kernel
theorem dX3_kindOfPair_57 : decode cX3_kindOfPair 57 = .ok (.iconst (-1), 1) := by decide +kernel
theorem dX3_kindOfPair_58 : decode cX3_kindOfPair 58 = .ok (.ireturn, 1) := by decide +kernel
theorem dX3_kindOfPair_59 : decode cX3_kindOfPair 59 = .ok (.aload_n 0, 1) := by decide +kernel
theorem dX3_kindOfPair_60 : decode cX3_kindOfPair 60 = .ok (.getfield 15, 3) := by decide +kernel
theorem dX3_kindOfPair_63 : decode cX3_kindOfPair 63 = .ok (.iload_n 1, 1) := by decide +kernel
theorem dX3_kindOfPair_64 : decode cX3_kindOfPair 64 = .ok (.iaload, 1) := by decide +kernel
theorem dX3_kindOfPair_65 : decode cX3_kindOfPair 65 = .ok (.iconst 1, 1) := by decide +kernel
theorem dX3_kindOfPair_66 : decode cX3_kindOfPair 66 = .ok (.if_icmp .ne 19, 3) := by decide +kernel
theorem dX3_kindOfPair_69 : decode cX3_kindOfPair 69 = .ok (.aload_n 0, 1) := by decide +kernel
theorem dX3_kindOfPair_70 : decode cX3_kindOfPair 70 = .ok (.getfield 15, 3) := by decide +kernel
theorem dX3_kindOfPair_73 : decode cX3_kindOfPair 73 = .ok (.iload_n 2, 1) := by decide +kernel
theorem dX3_kindOfPair_74 : decode cX3_kindOfPair 74 = .ok (.iaload, 1) := by decide +kernel
theorem dX3_kindOfPair_75 : decode cX3_kindOfPair 75 = .ok (.iconst 1, 1) := by decide +kernel
theorem dX3_kindOfPair_76 : decode cX3_kindOfPair 76 = .ok (.if_icmp .ne 7, 3) := by decide +kernel
theorem dX3_kindOfPair_79 : decode cX3_kindOfPair 79 = .ok (.iconst 0, 1) := by decide +kernel
theorem dX3_kindOfPair_80 : decode cX3_kindOfPair 80 = .ok (.goto 4, 3) := by decide +kernel
theorem dX3_kindOfPair_83 : decode cX3_kindOfPair 83 = .ok (.iconst 1, 1) := by decide +kernel
theorem dX3_kindOfPair_84 : decode cX3_kindOfPair 84 = .ok (.ireturn, 1) := by decide +kernel
theorem dX3_kindOfPair_85 : decode cX3_kindOfPair 85 = .ok (.aload_n 0, 1) := by decide +kernel
theorem dX3_kindOfPair_86 : decode cX3_kindOfPair 86 = .ok (.getfield 15, 3) := by decide +kernel
theorem dX3_kindOfPair_89 : decode cX3_kindOfPair 89 = .ok (.iload_n 2, 1) := by decide +kernel
theorem dX3_kindOfPair_90 : decode cX3_kindOfPair 90 = .ok (.iaload, 1) := by decide +kernel
theorem dX3_kindOfPair_91 : decode cX3_kindOfPair 91 = .ok (.iconst 1, 1) := by decide +kernel
theorem dX3_kindOfPair_92 : decode cX3_kindOfPair 92 = .ok (.if_icmp .ne 7, 3) := by decide +kernel
theorem dX3_kindOfPair_95 : decode cX3_kindOfPair 95 = .ok (.iconst 2, 1) := by decide +kernel
theorem dX3_kindOfPair_96 : decode cX3_kindOfPair 96 = .ok (.goto 4, 3) := by decide +kernel
theorem dX3_kindOfPair_99 : decode cX3_kindOfPair 99 = .ok (.iconst (-1), 1) := by decide +kernel
theorem dX3_kindOfPair_100 : decode cX3_kindOfPair 100 = .ok (.ireturn, 1) := by decide +kernel
