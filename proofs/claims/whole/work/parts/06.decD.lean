set_option maxRecDepth 20000 in
theorem ggX7_init_X7_clear : GoodIn wsX7_init wsX7_clear := goodIn_r _ [15, 5, 16, 17, 14, 18, 19, 20, 21, 22, 23, 24, 25, 26, 27, 28, 29, 30, 31, 32] (by decide +kernel) (by decide +kernel)
set_option maxRecDepth 20000 in
theorem gX7_init_X7_clear : GoodIn wsX7_init (wsV RX7 26 RX7 yX7_clear wsX7_clear) := goodIn_app (goodIn_of _ (by decide +kernel)) ggX7_init_X7_clear
theorem dX7_init_0 : decode cX7_init 0 = .ok (.aload_n 0, 1) := by decide +kernel
theorem dX7_init_1 : decode cX7_init 1 = .ok (.invokespecial 1, 3) := by decide +kernel
theorem dX7_init_4 : decode cX7_init 4 = .ok (.aload_n 0, 1) := by decide +kernel
theorem dX7_init_5 : decode cX7_init 5 = .ok (.sipush 4358, 3) := by decide +kernel
theorem dX7_init_8 : decode cX7_init 8 = .ok (.newarray .int, 2) := by decide +kernel
theorem dX7_init_10 : decode cX7_init 10 = .ok (.putfield 7, 3) := by decide +kernel
theorem dX7_init_13 : decode cX7_init 13 = .ok (.aload_n 0, 1) := by decide +kernel
theorem dX7_init_14 : decode cX7_init 14 = .ok (.iconst 2, 1) := by decide +kernel
theorem dX7_init_15 : decode cX7_init 15 = .ok (.newarray .boolean, 2) := by decide +kernel
theorem dX7_init_17 : decode cX7_init 17 = .ok (.putfield 13, 3) := by decide +kernel
theorem dX7_init_20 : decode cX7_init 20 = .ok (.aload_n 0, 1) := by decide +kernel
theorem dX7_init_21 : decode cX7_init 21 = .ok (.bipush 24, 2) := by decide +kernel
theorem dX7_init_23 : decode cX7_init 23 = .ok (.newarray .int, 2) := by decide +kernel
theorem dX7_init_25 : decode cX7_init 25 = .ok (.putfield 17, 3) := by decide +kernel
theorem dX7_init_28 : decode cX7_init 28 = .ok (.aload_n 0, 1) := by decide +kernel
theorem dX7_init_29 : decode cX7_init 29 = .ok (.sipush 240, 3) := by decide +kernel
theorem dX7_init_32 : decode cX7_init 32 = .ok (.newarray .int, 2) := by decide +kernel
theorem dX7_init_34 : decode cX7_init 34 = .ok (.putfield 20, 3) := by decide +kernel
theorem dX7_init_37 : decode cX7_init 37 = .ok (.aload_n 0, 1) := by decide +kernel
theorem dX7_init_38 : decode cX7_init 38 = .ok (.sipush 240, 3) := by decide +kernel
theorem dX7_init_41 : decode cX7_init 41 = .ok (.newarray .int, 2) := by decide +kernel
theorem dX7_init_43 : decode cX7_init 43 = .ok (.putfield 23, 3) := by decide +kernel
theorem dX7_init_46 : decode cX7_init 46 = .ok (.aload_n 0, 1) := by decide +kernel
theorem dX7_init_47 : decode cX7_init 47 = .ok (.invokevirtual 26, 3) := by decide +kernel
theorem dX7_init_50 : decode cX7_init 50 = .ok (.aload_n 0, 1) := by decide +kernel
theorem dX7_init_51 : decode cX7_init 51 = .ok (.getfield 7, 3) := by decide +kernel
theorem dX7_init_54 : decode cX7_init 54 = .ok (.sipush 1613, 3) := by decide +kernel
theorem dX7_init_57 : decode cX7_init 57 = .ok (.iconst (-1), 1) := by decide +kernel
theorem dX7_init_58 : decode cX7_init 58 = .ok (.iastore, 1) := by decide +kernel
theorem dX7_init_59 : decode cX7_init 59 = .ok (.return_, 1) := by decide +kernel
theorem dX7_in_0 : decode cX7_in 0 = .ok (.lload_n 0, 1) := by decide +kernel
theorem dX7_in_1 : decode cX7_in 1 = .ok (.lload_n 2, 1) := by decide +kernel
theorem dX7_in_2 : decode cX7_in 2 = .ok (.lcmp, 1) := by decide +kernel
theorem dX7_in_3 : decode cX7_in 3 = .ok (.ifCond .lt 14, 3) := by decide +kernel
theorem dX7_in_6 : decode cX7_in 6 = .ok (.lload_n 0, 1) := by decide +kernel
theorem dX7_in_7 : decode cX7_in 7 = .ok (.lload 4, 2) := by decide +kernel
theorem dX7_in_9 : decode cX7_in 9 = .ok (.lcmp, 1) := by decide +kernel
theorem dX7_in_10 : decode cX7_in 10 = .ok (.ifCond .gt 7, 3) := by decide +kernel
theorem dX7_in_13 : decode cX7_in 13 = .ok (.iconst 1, 1) := by decide +kernel
theorem dX7_in_14 : decode cX7_in 14 = .ok (.goto 4, 3) := by decide +kernel
theorem dX7_in_17 : decode cX7_in 17 = .ok (.iconst 0, 1) := by decide +kernel
theorem dX7_in_18 : decode cX7_in 18 = .ok (.ireturn, 1) := by decide +kernel
set_option maxRecDepth 20000 in
theorem ggX7_isThread_X7_in : GoodIn wsX7_isThread wsX7_in := goodIn_r _ [5] (by decide +kernel) (by decide +kernel)
set_option maxRecDepth 20000 in
theorem gX7_isThread_X7_in : GoodIn wsX7_isThread (va_wsS RX7 31 yX7_in wsX7_in) := goodIn_app (goodIn_of _ (by decide +kernel)) ggX7_isThread_X7_in
theorem dX7_isThread_0 : decode cX7_isThread 0 = .ok (.iload_n 0, 1) := by decide +kernel
theorem dX7_isThread_1 : decode cX7_isThread 1 = .ok (.i2l, 1) := by decide +kernel
theorem dX7_isThread_2 : decode cX7_isThread 2 = .ok (.lconst 0, 1) := by decide +kernel
theorem dX7_isThread_3 : decode cX7_isThread 3 = .ok (.ldc2_w 29, 3) := by decide +kernel
theorem dX7_isThread_6 : decode cX7_isThread 6 = .ok (.invokestatic 31, 3) := by decide +kernel
theorem dX7_isThread_9 : decode cX7_isThread 9 = .ok (.ireturn, 1) := by decide +kernel
set_option maxRecDepth 20000 in
theorem ggX7_isLock_X7_in : GoodIn wsX7_isLock wsX7_in := goodIn_r _ [5] (by decide +kernel) (by decide +kernel)
set_option maxRecDepth 20000 in
theorem gX7_isLock_X7_in : GoodIn wsX7_isLock (va_wsS RX7 31 yX7_in wsX7_in) := goodIn_app (goodIn_of _ (by decide +kernel)) ggX7_isLock_X7_in
theorem dX7_isLock_0 : decode cX7_isLock 0 = .ok (.iload_n 0, 1) := by decide +kernel
theorem dX7_isLock_1 : decode cX7_isLock 1 = .ok (.i2l, 1) := by decide +kernel
theorem dX7_isLock_2 : decode cX7_isLock 2 = .ok (.lconst 0, 1) := by decide +kernel
theorem dX7_isLock_3 : decode cX7_isLock 3 = .ok (.ldc2_w 35, 3) := by decide +kernel
theorem dX7_isLock_6 : decode cX7_isLock 6 = .ok (.invokestatic 31, 3) := by decide +kernel
theorem dX7_isLock_9 : decode cX7_isLock 9 = .ok (.ireturn, 1) := by decide +kernel
set_option maxRecDepth 20000 in
theorem ggX7_isCell_X7_in : GoodIn wsX7_isCell wsX7_in := goodIn_r _ [5] (by decide +kernel) (by decide +kernel)
set_option maxRecDepth 20000 in
theorem gX7_isCell_X7_in : GoodIn wsX7_isCell (va_wsS RX7 31 yX7_in wsX7_in) := goodIn_app (goodIn_of _ (by decide +kernel)) ggX7_isCell_X7_in
theorem dX7_isCell_0 : decode cX7_isCell 0 = .ok (.iload_n 0, 1) := by decide +kernel
theorem dX7_isCell_1 : decode cX7_isCell 1 = .ok (.i2l, 1) := by decide +kernel
theorem dX7_isCell_2 : decode cX7_isCell 2 = .ok (.lconst 0, 1) := by decide +kernel
theorem dX7_isCell_3 : decode cX7_isCell 3 = .ok (.ldc2_w 29, 3) := by decide +kernel
theorem dX7_isCell_6 : decode cX7_isCell 6 = .ok (.invokestatic 31, 3) := by decide +kernel
theorem dX7_isCell_9 : decode cX7_isCell 9 = .ok (.ireturn, 1) := by decide +kernel
set_option maxRecDepth 20000 in
theorem ggX7_isSeen_X7_in : GoodIn wsX7_isSeen wsX7_in := goodIn_r _ [4] (by decide +kernel) (by decide +kernel)
set_option maxRecDepth 20000 in
theorem gX7_isSeen_X7_in : GoodIn wsX7_isSeen (va_wsS RX7 31 yX7_in wsX7_in) := goodIn_app (goodIn_of _ (by decide +kernel)) ggX7_isSeen_X7_in
theorem dX7_isSeen_0 : decode cX7_isSeen 0 = .ok (.iload_n 0, 1) := by decide +kernel
theorem dX7_isSeen_1 : decode cX7_isSeen 1 = .ok (.i2l, 1) := by decide +kernel
theorem dX7_isSeen_2 : decode cX7_isSeen 2 = .ok (.lconst 0, 1) := by decide +kernel
theorem dX7_isSeen_3 : decode cX7_isSeen 3 = .ok (.lconst 1, 1) := by decide +kernel
theorem dX7_isSeen_4 : decode cX7_isSeen 4 = .ok (.invokestatic 31, 3) := by decide +kernel
theorem dX7_isSeen_7 : decode cX7_isSeen 7 = .ok (.ireturn, 1) := by decide +kernel
set_option maxRecDepth 20000 in
theorem ggX7_clear_X7_of : GoodIn wsX7_clear wsX7_of := goodIn_r _ [5] (by decide +kernel) (by decide +kernel)
set_option maxRecDepth 20000 in
theorem gX7_clear_X7_of : GoodIn wsX7_clear (va_wsS RX7 37 yX7_of wsX7_of) := goodIn_app (goodIn_of _ (by decide +kernel)) ggX7_clear_X7_of
theorem dX7_clear_0 : decode cX7_clear 0 = .ok (.iconst 0, 1) := by decide +kernel
theorem dX7_clear_1 : decode cX7_clear 1 = .ok (.istore_n 1, 1) := by decide +kernel
theorem dX7_clear_2 : decode cX7_clear 2 = .ok (.iload_n 1, 1) := by decide +kernel
theorem dX7_clear_3 : decode cX7_clear 3 = .ok (.sipush 1372, 3) := by decide +kernel
theorem dX7_clear_6 : decode cX7_clear 6 = .ok (.if_icmp .ge 16, 3) := by decide +kernel
theorem dX7_clear_9 : decode cX7_clear 9 = .ok (.aload_n 0, 1) := by decide +kernel
theorem dX7_clear_10 : decode cX7_clear 10 = .ok (.getfield 7, 3) := by decide +kernel
theorem dX7_clear_13 : decode cX7_clear 13 = .ok (.iload_n 1, 1) := by decide +kernel
theorem dX7_clear_14 : decode cX7_clear 14 = .ok (.iconst 0, 1) := by decide +kernel
theorem dX7_clear_15 : decode cX7_clear 15 = .ok (.iastore, 1) := by decide +kernel
theorem dX7_clear_16 : decode cX7_clear 16 = .ok (.iinc 1 1, 3) := by decide +kernel
theorem dX7_clear_19 : decode cX7_clear 19 = .ok (.goto (-17), 3) := by decide +kernel
theorem dX7_clear_22 : decode cX7_clear 22 = .ok (.aload_n 0, 1) := by decide +kernel
theorem dX7_clear_23 : decode cX7_clear 23 = .ok (.getfield 7, 3) := by decide +kernel
theorem dX7_clear_26 : decode cX7_clear 26 = .ok (.iconst 0, 1) := by decide +kernel
theorem dX7_clear_27 : decode cX7_clear 27 = .ok (.iconst 1, 1) := by decide +kernel
theorem dX7_clear_28 : decode cX7_clear 28 = .ok (.iastore, 1) := by decide +kernel
theorem dX7_clear_29 : decode cX7_clear 29 = .ok (.iconst 0, 1) := by decide +kernel
theorem dX7_clear_30 : decode cX7_clear 30 = .ok (.istore_n 1, 1) := by decide +kernel
theorem dX7_clear_31 : decode cX7_clear 31 = .ok (.iload_n 1, 1) := by decide +kernel
theorem dX7_clear_32 : decode cX7_clear 32 = .ok (.iconst 4, 1) := by decide +kernel
theorem dX7_clear_33 : decode cX7_clear 33 = .ok (.if_icmp .ge 20, 3) := by decide +kernel
theorem dX7_clear_36 : decode cX7_clear 36 = .ok (.aload_n 0, 1) := by decide +kernel
theorem dX7_clear_37 : decode cX7_clear 37 = .ok (.getfield 7, 3) := by decide +kernel
theorem dX7_clear_40 : decode cX7_clear 40 = .ok (.iconst 4, 1) := by decide +kernel
theorem dX7_clear_41 : decode cX7_clear 41 = .ok (.iconst 5, 1) := by decide +kernel
theorem dX7_clear_42 : decode cX7_clear 42 = .ok (.iload_n 1, 1) := by decide +kernel
theorem dX7_clear_43 : decode cX7_clear 43 = .ok (.imul, 1) := by decide +kernel
theorem dX7_clear_44 : decode cX7_clear 44 = .ok (.iadd, 1) := by decide +kernel
theorem dX7_clear_45 : decode cX7_clear 45 = .ok (.iconst 1, 1) := by decide +kernel
theorem dX7_clear_46 : decode cX7_clear 46 = .ok (.iastore, 1) := by decide +kernel
theorem dX7_clear_47 : decode cX7_clear 47 = .ok (.iinc 1 1, 3) := by decide +kernel
theorem dX7_clear_50 : decode cX7_clear 50 = .ok (.goto (-19), 3) := by decide +kernel
theorem dX7_clear_53 : decode cX7_clear 53 = .ok (.iconst 0, 1) := by decide +kernel
theorem dX7_clear_54 : decode cX7_clear 54 = .ok (.istore_n 1, 1) := by decide +kernel
theorem dX7_clear_55 : decode cX7_clear 55 = .ok (.iload_n 1, 1) := by decide +kernel
theorem dX7_clear_56 : decode cX7_clear 56 = .ok (.iconst 3, 1) := by decide +kernel
theorem dX7_clear_57 : decode cX7_clear 57 = .ok (.if_icmp .ge 19, 3) := by decide +kernel
theorem dX7_clear_60 : decode cX7_clear 60 = .ok (.aload_n 0, 1) := by decide +kernel
theorem dX7_clear_61 : decode cX7_clear 61 = .ok (.getfield 7, 3) := by decide +kernel
theorem dX7_clear_64 : decode cX7_clear 64 = .ok (.bipush 40, 2) := by decide +kernel
theorem dX7_clear_66 : decode cX7_clear 66 = .ok (.iload_n 1, 1) := by decide +kernel
theorem dX7_clear_67 : decode cX7_clear 67 = .ok (.iadd, 1) := by decide +kernel
theorem dX7_clear_68 : decode cX7_clear 68 = .ok (.iconst (-1), 1) := by decide +kernel
theorem dX7_clear_69 : decode cX7_clear 69 = .ok (.iastore, 1) := by decide +kernel
theorem dX7_clear_70 : decode cX7_clear 70 = .ok (.iinc 1 1, 3) := by decide +kernel
theorem dX7_clear_73 : decode cX7_clear 73 = .ok (.goto (-18), 3) := by decide +kernel
theorem dX7_clear_76 : decode cX7_clear 76 = .ok (.iconst 0, 1) := by decide +kernel
theorem dX7_clear_77 : decode cX7_clear 77 = .ok (.istore_n 1, 1) := by decide +kernel
theorem dX7_clear_78 : decode cX7_clear 78 = .ok (.iload_n 1, 1) := by decide +kernel
theorem dX7_clear_79 : decode cX7_clear 79 = .ok (.iconst 4, 1) := by decide +kernel
theorem dX7_clear_80 : decode cX7_clear 80 = .ok (.if_icmp .ge 59, 3) := by decide +kernel
theorem dX7_clear_83 : decode cX7_clear 83 = .ok (.aload_n 0, 1) := by decide +kernel
theorem dX7_clear_84 : decode cX7_clear 84 = .ok (.getfield 7, 3) := by decide +kernel
theorem dX7_clear_87 : decode cX7_clear 87 = .ok (.iload_n 1, 1) := by decide +kernel
theorem dX7_clear_88 : decode cX7_clear 88 = .ok (.invokestatic 37, 3) := by decide +kernel
theorem dX7_clear_91 : decode cX7_clear 91 = .ok (.iconst 0, 1) := by decide +kernel
theorem dX7_clear_92 : decode cX7_clear 92 = .ok (.iadd, 1) := by decide +kernel
theorem dX7_clear_93 : decode cX7_clear 93 = .ok (.iconst (-1), 1) := by decide +kernel
theorem dX7_clear_94 : decode cX7_clear 94 = .ok (.iastore, 1) := by decide +kernel
theorem dX7_clear_95 : decode cX7_clear 95 = .ok (.aload_n 0, 1) := by decide +kernel
theorem dX7_clear_96 : decode cX7_clear 96 = .ok (.getfield 7, 3) := by decide +kernel
theorem dX7_clear_99 : decode cX7_clear 99 = .ok (.iload_n 1, 1) := by decide +kernel
theorem dX7_clear_100 : decode cX7_clear 100 = .ok (.invokestatic 37, 3) := by decide +kernel
theorem dX7_clear_103 : decode cX7_clear 103 = .ok (.iconst 2, 1) := by decide +kernel
theorem dX7_clear_104 : decode cX7_clear 104 = .ok (.iadd, 1) := by decide +kernel
theorem dX7_clear_105 : decode cX7_clear 105 = .ok (.iconst (-1), 1) := by decide +kernel
theorem dX7_clear_106 : decode cX7_clear 106 = .ok (.iastore, 1) := by decide +kernel
theorem dX7_clear_107 : decode cX7_clear 107 = .ok (.aload_n 0, 1) := by decide +kernel
theorem dX7_clear_108 : decode cX7_clear 108 = .ok (.getfield 7, 3) := by decide +kernel
theorem dX7_clear_111 : decode cX7_clear 111 = .ok (.iload_n 1, 1) := by decide +kernel
theorem dX7_clear_112 : decode cX7_clear 112 = .ok (.invokestatic 37, 3) := by decide +kernel
theorem dX7_clear_115 : decode cX7_clear 115 = .ok (.bipush 10, 2) := by decide +kernel
theorem dX7_clear_117 : decode cX7_clear 117 = .ok (.iadd, 1) := by decide +kernel
theorem dX7_clear_118 : decode cX7_clear 118 = .ok (.iconst (-1), 1) := by decide +kernel
theorem dX7_clear_119 : decode cX7_clear 119 = .ok (.iastore, 1) := by decide +kernel
theorem dX7_clear_120 : decode cX7_clear 120 = .ok (.aload_n 0, 1) := by decide +kernel
theorem dX7_clear_121 : decode cX7_clear 121 = .ok (.getfield 7, 3) := by decide +kernel
theorem dX7_clear_124 : decode cX7_clear 124 = .ok (.iload_n 1, 1) := by decide +kernel
theorem dX7_clear_125 : decode cX7_clear 125 = .ok (.invokestatic 37, 3) := by decide +kernel
theorem dX7_clear_128 : decode cX7_clear 128 = .ok (.bipush 11, 2) := by decide +kernel
theorem dX7_clear_130 : decode cX7_clear 130 = .ok (.iadd, 1) := by decide +kernel
theorem dX7_clear_131 : decode cX7_clear 131 = .ok (.iconst (-1), 1) := by decide +kernel
theorem dX7_clear_132 : decode cX7_clear 132 = .ok (.iastore, 1) := by decide +kernel
theorem dX7_clear_133 : decode cX7_clear 133 = .ok (.iinc 1 1, 3) := by decide +kernel
theorem dX7_clear_136 : decode cX7_clear 136 = .ok (.goto (-58), 3) := by decide +kernel
theorem dX7_clear_139 : decode cX7_clear 139 = .ok (.return_, 1) := by decide +kernel
theorem dX7_of_0 : decode cX7_of 0 = .ok (.bipush 43, 2) := by decide +kernel
theorem dX7_of_2 : decode cX7_of 2 = .ok (.bipush 12, 2) := by decide +kernel
theorem dX7_of_4 : decode cX7_of 4 = .ok (.iload_n 0, 1) := by decide +kernel
theorem dX7_of_5 : decode cX7_of 5 = .ok (.imul, 1) := by decide +kernel
theorem dX7_of_6 : decode cX7_of 6 = .ok (.iadd, 1) := by decide +kernel
theorem dX7_of_7 : decode cX7_of 7 = .ok (.ireturn, 1) := by decide +kernel
set_option maxRecDepth 20000 in
theorem ggX7_anew_X7_clear : GoodIn wsX7_anew wsX7_clear := goodIn_r _ [6, 1, 7, 8, 5, 9, 10, 11, 12, 13, 14, 15, 16, 17, 18, 19, 20, 21, 22, 23] (by decide +kernel) (by decide +kernel)
set_option maxRecDepth 20000 in
theorem gX7_anew_X7_clear : GoodIn wsX7_anew (wsV RX7 26 RX7 yX7_clear wsX7_clear) := goodIn_app (goodIn_of _ (by decide +kernel)) ggX7_anew_X7_clear
theorem dX7_anew_0 : decode cX7_anew 0 = .ok (.aload_n 0, 1) := by decide +kernel
theorem dX7_anew_1 : decode cX7_anew 1 = .ok (.getfield 7, 3) := by decide +kernel
theorem dX7_anew_4 : decode cX7_anew 4 = .ok (.bipush 91, 2) := by decide +kernel
theorem dX7_anew_6 : decode cX7_anew 6 = .ok (.iaload, 1) := by decide +kernel
theorem dX7_anew_7 : decode cX7_anew 7 = .ok (.istore_n 1, 1) := by decide +kernel
theorem dX7_anew_8 : decode cX7_anew 8 = .ok (.aload_n 0, 1) := by decide +kernel
theorem dX7_anew_9 : decode cX7_anew 9 = .ok (.invokevirtual 26, 3) := by decide +kernel
theorem dX7_anew_12 : decode cX7_anew 12 = .ok (.iload_n 1, 1) := by decide +kernel
theorem dX7_anew_13 : decode cX7_anew 13 = .ok (.ireturn, 1) := by decide +kernel
theorem dX7_held_0 : decode cX7_held 0 = .ok (.iconst 0, 1) := by decide +kernel
theorem dX7_held_1 : decode cX7_held 1 = .ok (.istore_n 2, 1) := by decide +kernel
theorem dX7_held_2 : decode cX7_held 2 = .ok (.iconst 0, 1) := by decide +kernel
theorem dX7_held_3 : decode cX7_held 3 = .ok (.istore_n 3, 1) := by decide +kernel
theorem dX7_held_4 : decode cX7_held 4 = .ok (.iload_n 3, 1) := by decide +kernel
theorem dX7_held_5 : decode cX7_held 5 = .ok (.iconst 3, 1) := by decide +kernel
theorem dX7_held_6 : decode cX7_held 6 = .ok (.if_icmp .ge 32, 3) := by decide +kernel
theorem dX7_held_9 : decode cX7_held 9 = .ok (.iload_n 2, 1) := by decide +kernel
theorem dX7_held_10 : decode cX7_held 10 = .ok (.aload_n 0, 1) := by decide +kernel
theorem dX7_held_11 : decode cX7_held 11 = .ok (.getfield 7, 3) := by decide +kernel
theorem dX7_held_14 : decode cX7_held 14 = .ok (.bipush 40, 2) := by decide +kernel
theorem dX7_held_16 : decode cX7_held 16 = .ok (.iload_n 3, 1) := by decide +kernel
theorem dX7_held_17 : decode cX7_held 17 = .ok (.iadd, 1) := by decide +kernel
theorem dX7_held_18 : decode cX7_held 18 = .ok (.iaload, 1) := by decide +kernel
theorem dX7_held_19 : decode cX7_held 19 = .ok (.iload_n 1, 1) := by decide +kernel
theorem dX7_held_20 : decode cX7_held 20 = .ok (.if_icmp .ne 9, 3) := by decide +kernel
theorem dX7_held_23 : decode cX7_held 23 = .ok (.iconst 1, 1) := by decide +kernel
theorem dX7_held_24 : decode cX7_held 24 = .ok (.iload_n 3, 1) := by decide +kernel
theorem dX7_held_25 : decode cX7_held 25 = .ok (.ishl, 1) := by decide +kernel
theorem dX7_held_26 : decode cX7_held 26 = .ok (.goto 4, 3) := by decide +kernel
theorem dX7_held_29 : decode cX7_held 29 = .ok (.iconst 0, 1) := by decide +kernel
theorem dX7_held_30 : decode cX7_held 30 = .ok (.ior, 1) := by decide +kernel
theorem dX7_held_31 : decode cX7_held 31 = .ok (.istore_n 2, 1) := by decide +kernel
theorem dX7_held_32 : decode cX7_held 32 = .ok (.iinc 3 1, 3) := by decide +kernel
theorem dX7_held_35 : decode cX7_held 35 = .ok (.goto (-31), 3) := by decide +kernel
theorem dX7_held_38 : decode cX7_held 38 = .ok (.iload_n 2, 1) := by decide +kernel
theorem dX7_held_39 : decode cX7_held 39 = .ok (.ireturn, 1) := by decide +kernel
theorem dX7_number_0 : decode cX7_number 0 = .ok (.aload_n 0, 1) := by decide +kernel
theorem dX7_number_1 : decode cX7_number 1 = .ok (.getfield 7, 3) := by decide +kernel
theorem dX7_number_4 : decode cX7_number 4 = .ok (.iconst 4, 1) := by decide +kernel
theorem dX7_number_5 : decode cX7_number 5 = .ok (.iconst 4, 1) := by decide +kernel
theorem dX7_number_6 : decode cX7_number 6 = .ok (.iload_n 1, 1) := by decide +kernel
theorem dX7_number_7 : decode cX7_number 7 = .ok (.imul, 1) := by decide +kernel
theorem dX7_number_8 : decode cX7_number 8 = .ok (.iadd, 1) := by decide +kernel
theorem dX7_number_9 : decode cX7_number 9 = .ok (.iload_n 2, 1) := by decide +kernel
theorem dX7_number_10 : decode cX7_number 10 = .ok (.iadd, 1) := by decide +kernel
theorem dX7_number_11 : decode cX7_number 11 = .ok (.iaload, 1) := by decide +kernel
theorem dX7_number_12 : decode cX7_number 12 = .ok (.ireturn, 1) := by decide +kernel
theorem dX7_joins_0 : decode cX7_joins 0 = .ok (.iconst 0, 1) := by decide +kernel
theorem dX7_joins_1 : decode cX7_joins 1 = .ok (.istore_n 3, 1) := by decide +kernel
theorem dX7_joins_2 : decode cX7_joins 2 = .ok (.iload_n 3, 1) := by decide +kernel
theorem dX7_joins_3 : decode cX7_joins 3 = .ok (.iconst 4, 1) := by decide +kernel
theorem dX7_joins_4 : decode cX7_joins 4 = .ok (.if_icmp .ge 55, 3) := by decide +kernel
theorem dX7_joins_7 : decode cX7_joins 7 = .ok (.aload_n 0, 1) := by decide +kernel
theorem dX7_joins_8 : decode cX7_joins 8 = .ok (.getfield 7, 3) := by decide +kernel
theorem dX7_joins_11 : decode cX7_joins 11 = .ok (.iload_n 1, 1) := by decide +kernel
theorem dX7_joins_12 : decode cX7_joins 12 = .ok (.iload_n 3, 1) := by decide +kernel
theorem dX7_joins_13 : decode cX7_joins 13 = .ok (.iadd, 1) := by decide +kernel
theorem dX7_joins_14 : decode cX7_joins 14 = .ok (.aload_n 0, 1) := by decide +kernel
theorem dX7_joins_15 : decode cX7_joins 15 = .ok (.getfield 7, 3) := by decide +kernel
theorem dX7_joins_18 : decode cX7_joins 18 = .ok (.iload_n 2, 1) := by decide +kernel
theorem dX7_joins_19 : decode cX7_joins 19 = .ok (.iload_n 3, 1) := by decide +kernel
theorem dX7_joins_20 : decode cX7_joins 20 = .ok (.iadd, 1) := by decide +kernel
theorem dX7_joins_21 : decode cX7_joins 21 = .ok (.iaload, 1) := by decide +kernel
theorem dX7_joins_22 : decode cX7_joins 22 = .ok (.aload_n 0, 1) := by decide +kernel
theorem dX7_joins_23 : decode cX7_joins 23 = .ok (.getfield 7, 3) := by decide +kernel
theorem dX7_joins_26 : decode cX7_joins 26 = .ok (.iload_n 1, 1) := by decide +kernel
theorem dX7_joins_27 : decode cX7_joins 27 = .ok (.iload_n 3, 1) := by decide +kernel
theorem dX7_joins_28 : decode cX7_joins 28 = .ok (.iadd, 1) := by decide +kernel
theorem dX7_joins_29 : decode cX7_joins 29 = .ok (.iaload, 1) := by decide +kernel
theorem dX7_joins_30 : decode cX7_joins 30 = .ok (.if_icmp .le 14, 3) := by decide +kernel
theorem dX7_joins_33 : decode cX7_joins 33 = .ok (.aload_n 0, 1) := by decide +kernel
theorem dX7_joins_34 : decode cX7_joins 34 = .ok (.getfield 7, 3) := by decide +kernel
theorem dX7_joins_37 : decode cX7_joins 37 = .ok (.iload_n 2, 1) := by decide +kernel
theorem dX7_joins_38 : decode cX7_joins 38 = .ok (.iload_n 3, 1) := by decide +kernel
theorem dX7_joins_39 : decode cX7_joins 39 = .ok (.iadd, 1) := by decide +kernel
theorem dX7_joins_40 : decode cX7_joins 40 = .ok (.iaload, 1) := by decide +kernel
theorem dX7_joins_41 : decode cX7_joins 41 = .ok (.goto 11, 3) := by decide +kernel
theorem dX7_joins_44 : decode cX7_joins 44 = .ok (.aload_n 0, 1) := by decide +kernel
theorem dX7_joins_45 : decode cX7_joins 45 = .ok (.getfield 7, 3) := by decide +kernel
theorem dX7_joins_48 : decode cX7_joins 48 = .ok (.iload_n 1, 1) := by decide +kernel
theorem dX7_joins_49 : decode cX7_joins 49 = .ok (.iload_n 3, 1) := by decide +kernel
theorem dX7_joins_50 : decode cX7_joins 50 = .ok (.iadd, 1) := by decide +kernel
theorem dX7_joins_51 : decode cX7_joins 51 = .ok (.iaload, 1) := by decide +kernel
theorem dX7_joins_52 : decode cX7_joins 52 = .ok (.iastore, 1) := by decide +kernel
theorem dX7_joins_53 : decode cX7_joins 53 = .ok (.iinc 3 1, 3) := by decide +kernel
theorem dX7_joins_56 : decode cX7_joins 56 = .ok (.goto (-54), 3) := by decide +kernel
theorem dX7_joins_59 : decode cX7_joins 59 = .ok (.return_, 1) := by decide +kernel
set_option maxRecDepth 20000 in
theorem ggX7_isMuch_X7_number : GoodIn wsX7_isMuch wsX7_number := goodIn_r _ [6, 7, 8, 9, 10, 11, 12, 13, 14, 15, 16, 17, 18, 19, 20, 21] (by decide +kernel) (by decide +kernel)
set_option maxRecDepth 20000 in
theorem gX7_isMuch_X7_number : GoodIn wsX7_isMuch (wsV RX7 41 RX7 yX7_number wsX7_number) := goodIn_app (goodIn_of _ (by decide +kernel)) ggX7_isMuch_X7_number
theorem dX7_isMuch_0 : decode cX7_isMuch 0 = .ok (.aload_n 0, 1) := by decide +kernel
theorem dX7_isMuch_1 : decode cX7_isMuch 1 = .ok (.iload_n 1, 1) := by decide +kernel
theorem dX7_isMuch_2 : decode cX7_isMuch 2 = .ok (.iload_n 1, 1) := by decide +kernel
theorem dX7_isMuch_3 : decode cX7_isMuch 3 = .ok (.invokevirtual 41, 3) := by decide +kernel
theorem dX7_isMuch_6 : decode cX7_isMuch 6 = .ok (.ldc 45, 2) := by decide +kernel
theorem dX7_isMuch_8 : decode cX7_isMuch 8 = .ok (.if_icmp .ne 7, 3) := by decide +kernel
theorem dX7_isMuch_11 : decode cX7_isMuch 11 = .ok (.iconst 1, 1) := by decide +kernel
theorem dX7_isMuch_12 : decode cX7_isMuch 12 = .ok (.goto 4, 3) := by decide +kernel
theorem dX7_isMuch_15 : decode cX7_isMuch 15 = .ok (.iconst 0, 1) := by decide +kernel
theorem dX7_isMuch_16 : decode cX7_isMuch 16 = .ok (.ireturn, 1) := by decide +kernel
theorem dX7_steps_0 : decode cX7_steps 0 = .ok (.aload_n 0, 1) := by decide +kernel
theorem dX7_steps_1 : decode cX7_steps 1 = .ok (.getfield 7, 3) := by decide +kernel
theorem dX7_steps_4 : decode cX7_steps 4 = .ok (.iconst 4, 1) := by decide +kernel
theorem dX7_steps_5 : decode cX7_steps 5 = .ok (.iconst 5, 1) := by decide +kernel
theorem dX7_steps_6 : decode cX7_steps 6 = .ok (.iload_n 1, 1) := by decide +kernel
theorem dX7_steps_7 : decode cX7_steps 7 = .ok (.imul, 1) := by decide +kernel
theorem dX7_steps_8 : decode cX7_steps 8 = .ok (.iadd, 1) := by decide +kernel
theorem dX7_steps_9 : decode cX7_steps 9 = .ok (.dup2, 1) := by decide +kernel
theorem dX7_steps_10 : decode cX7_steps 10 = .ok (.iaload, 1) := by decide +kernel
theorem dX7_steps_11 : decode cX7_steps 11 = .ok (.iconst 1, 1) := by decide +kernel
theorem dX7_steps_12 : decode cX7_steps 12 = .ok (.iadd, 1) := by decide +kernel
theorem dX7_steps_13 : decode cX7_steps 13 = .ok (.iastore, 1) := by decide +kernel
theorem dX7_steps_14 : decode cX7_steps 14 = .ok (.return_, 1) := by decide +kernel
set_option maxRecDepth 20000 in
theorem ggX7_isWith_X7_isCell : GoodIn wsX7_isWith wsX7_isCell := goodIn_r _ [4, 5, 6, 7, 3, 8] (by decide +kernel) (by decide +kernel)
set_option maxRecDepth 20000 in
theorem gX7_isWith_X7_isCell : GoodIn wsX7_isWith (va_wsS RX7 46 yX7_isCell wsX7_isCell) := goodIn_app (goodIn_of _ (by decide +kernel)) ggX7_isWith_X7_isCell
set_option maxRecDepth 20000 in
theorem ggX7_isWith_X7_isLock : GoodIn wsX7_isWith wsX7_isLock := goodIn_r _ [11, 12, 6, 7, 3, 8] (by decide +kernel) (by decide +kernel)
set_option maxRecDepth 20000 in
theorem gX7_isWith_X7_isLock : GoodIn wsX7_isWith (va_wsS RX7 50 yX7_isLock wsX7_isLock) := goodIn_app (goodIn_of _ (by decide +kernel)) ggX7_isWith_X7_isLock
set_option maxRecDepth 20000 in
theorem ggX7_isWith_X7_isSeen : GoodIn wsX7_isWith wsX7_isSeen := goodIn_r _ [15, 6, 7, 3, 8] (by decide +kernel) (by decide +kernel)
set_option maxRecDepth 20000 in
theorem gX7_isWith_X7_isSeen : GoodIn wsX7_isWith (va_wsS RX7 53 yX7_isSeen wsX7_isSeen) := goodIn_app (goodIn_of _ (by decide +kernel)) ggX7_isWith_X7_isSeen
set_option maxRecDepth 20000 in
theorem ggX7_isWith_X7_isThread : GoodIn wsX7_isWith wsX7_isThread := goodIn_r _ [18, 5, 6, 7, 3, 8] (by decide +kernel) (by decide +kernel)
set_option maxRecDepth 20000 in
theorem gX7_isWith_X7_isThread : GoodIn wsX7_isWith (va_wsS RX7 56 yX7_isThread wsX7_isThread) := goodIn_app (goodIn_of _ (by decide +kernel)) ggX7_isWith_X7_isThread
theorem dX7_isWith_0 : decode cX7_isWith 0 = .ok (.iload_n 1, 1) := by decide +kernel
theorem dX7_isWith_1 : decode cX7_isWith 1 = .ok (.tableswitch 54 0 5 #[39, 39, 44, 44, 49, 49], 39) := by decide +kernel
theorem dX7_isWith_40 : decode cX7_isWith 40 = .ok (.iload_n 2, 1) := by decide +kernel
theorem dX7_isWith_41 : decode cX7_isWith 41 = .ok (.invokestatic 46, 3) := by decide +kernel
theorem dX7_isWith_44 : decode cX7_isWith 44 = .ok (.ireturn, 1) := by decide +kernel
theorem dX7_isWith_45 : decode cX7_isWith 45 = .ok (.iload_n 2, 1) := by decide +kernel
theorem dX7_isWith_46 : decode cX7_isWith 46 = .ok (.invokestatic 50, 3) := by decide +kernel
theorem dX7_isWith_49 : decode cX7_isWith 49 = .ok (.ireturn, 1) := by decide +kernel
theorem dX7_isWith_50 : decode cX7_isWith 50 = .ok (.iload_n 2, 1) := by decide +kernel
theorem dX7_isWith_51 : decode cX7_isWith 51 = .ok (.invokestatic 53, 3) := by decide +kernel
theorem dX7_isWith_54 : decode cX7_isWith 54 = .ok (.ireturn, 1) := by decide +kernel
theorem dX7_isWith_55 : decode cX7_isWith 55 = .ok (.iload_n 2, 1) := by decide +kernel
theorem dX7_isWith_56 : decode cX7_isWith 56 = .ok (.invokestatic 56, 3) := by decide +kernel
theorem dX7_isWith_59 : decode cX7_isWith 59 = .ok (.ifCond .eq 12, 3) := by decide +kernel
theorem dX7_isWith_62 : decode cX7_isWith 62 = .ok (.iload_n 2, 1) := by decide +kernel
theorem dX7_isWith_63 : decode cX7_isWith 63 = .ok (.iload_n 0, 1) := by decide +kernel
theorem dX7_isWith_64 : decode cX7_isWith 64 = .ok (.if_icmp .eq 7, 3) := by decide +kernel
theorem dX7_isWith_67 : decode cX7_isWith 67 = .ok (.iconst 1, 1) := by decide +kernel
theorem dX7_isWith_68 : decode cX7_isWith 68 = .ok (.goto 4, 3) := by decide +kernel
theorem dX7_isWith_71 : decode cX7_isWith 71 = .ok (.iconst 0, 1) := by decide +kernel
theorem dX7_isWith_72 : decode cX7_isWith 72 = .ok (.ireturn, 1) := by decide +kernel
set_option maxRecDepth 20000 in
theorem ggX7_can_X7_held : GoodIn wsX7_can wsX7_held := goodIn_r _ [6, 1, 7, 8, 9, 10, 11, 12, 13, 14, 15, 16, 17, 18, 19, 20] (by decide +kernel) (by decide +kernel)
set_option maxRecDepth 20000 in
theorem gX7_can_X7_held : GoodIn wsX7_can (wsV RX7 59 RX7 yX7_held wsX7_held) := goodIn_app (goodIn_of _ (by decide +kernel)) ggX7_can_X7_held
theorem dX7_can_0 : decode cX7_can 0 = .ok (.aload_n 0, 1) := by decide +kernel
theorem dX7_can_1 : decode cX7_can 1 = .ok (.getfield 7, 3) := by decide +kernel
theorem dX7_can_4 : decode cX7_can 4 = .ok (.iconst 0, 1) := by decide +kernel
theorem dX7_can_5 : decode cX7_can 5 = .ok (.iload_n 1, 1) := by decide +kernel
theorem dX7_can_6 : decode cX7_can 6 = .ok (.iadd, 1) := by decide +kernel
theorem dX7_can_7 : decode cX7_can 7 = .ok (.iaload, 1) := by decide +kernel
theorem dX7_can_8 : decode cX7_can 8 = .ok (.iconst 1, 1) := by decide +kernel
theorem dX7_can_9 : decode cX7_can 9 = .ok (.if_icmp .eq 5, 3) := by decide +kernel
theorem dX7_can_12 : decode cX7_can 12 = .ok (.iconst 0, 1) := by decide +kernel
theorem dX7_can_13 : decode cX7_can 13 = .ok (.ireturn, 1) := by decide +kernel
theorem dX7_can_14 : decode cX7_can 14 = .ok (.iload_n 2, 1) := by decide +kernel
theorem dX7_can_15 : decode cX7_can 15 = .ok (.tableswitch 118 2 7 #[37, 56, 118, 118, 75, 92], 37) := by decide +kernel
theorem dX7_can_52 : decode cX7_can 52 = .ok (.aload_n 0, 1) := by decide +kernel
theorem dX7_can_53 : decode cX7_can 53 = .ok (.getfield 7, 3) := by decide +kernel
theorem dX7_can_56 : decode cX7_can 56 = .ok (.bipush 40, 2) := by decide +kernel
theorem dX7_can_58 : decode cX7_can 58 = .ok (.iload_n 3, 1) := by decide +kernel
theorem dX7_can_59 : decode cX7_can 59 = .ok (.iadd, 1) := by decide +kernel
theorem dX7_can_60 : decode cX7_can 60 = .ok (.iaload, 1) := by decide +kernel
theorem dX7_can_61 : decode cX7_can 61 = .ok (.iconst (-1), 1) := by decide +kernel
theorem dX7_can_62 : decode cX7_can 62 = .ok (.if_icmp .ne 7, 3) := by decide +kernel
theorem dX7_can_65 : decode cX7_can 65 = .ok (.iconst 1, 1) := by decide +kernel
theorem dX7_can_66 : decode cX7_can 66 = .ok (.goto 4, 3) := by decide +kernel
theorem dX7_can_69 : decode cX7_can 69 = .ok (.iconst 0, 1) := by decide +kernel
theorem dX7_can_70 : decode cX7_can 70 = .ok (.ireturn, 1) := by decide +kernel
theorem dX7_can_71 : decode cX7_can 71 = .ok (.aload_n 0, 1) := by decide +kernel
theorem dX7_can_72 : decode cX7_can 72 = .ok (.getfield 7, 3) := by decide +kernel
theorem dX7_can_75 : decode cX7_can 75 = .ok (.bipush 40, 2) := by decide +kernel
theorem dX7_can_77 : decode cX7_can 77 = .ok (.iload_n 3, 1) := by decide +kernel
theorem dX7_can_78 : decode cX7_can 78 = .ok (.iadd, 1) := by decide +kernel
theorem dX7_can_79 : decode cX7_can 79 = .ok (.iaload, 1) := by decide +kernel
theorem dX7_can_80 : decode cX7_can 80 = .ok (.iload_n 1, 1) := by decide +kernel
theorem dX7_can_81 : decode cX7_can 81 = .ok (.if_icmp .ne 7, 3) := by decide +kernel
theorem dX7_can_84 : decode cX7_can 84 = .ok (.iconst 1, 1) := by decide +kernel
theorem dX7_can_85 : decode cX7_can 85 = .ok (.goto 4, 3) := by decide +kernel
theorem dX7_can_88 : decode cX7_can 88 = .ok (.iconst 0, 1) := by decide +kernel
theorem dX7_can_89 : decode cX7_can 89 = .ok (.ireturn, 1) := by decide +kernel
theorem dX7_can_90 : decode cX7_can 90 = .ok (.aload_n 0, 1) := by decide +kernel
theorem dX7_can_91 : decode cX7_can 91 = .ok (.getfield 7, 3) := by decide +kernel
theorem dX7_can_94 : decode cX7_can 94 = .ok (.iconst 0, 1) := by decide +kernel
theorem dX7_can_95 : decode cX7_can 95 = .ok (.iload_n 3, 1) := by decide +kernel
theorem dX7_can_96 : decode cX7_can 96 = .ok (.iadd, 1) := by decide +kernel
theorem dX7_can_97 : decode cX7_can 97 = .ok (.iaload, 1) := by decide +kernel
theorem dX7_can_98 : decode cX7_can 98 = .ok (.ifCond .ne 7, 3) := by decide +kernel
theorem dX7_can_101 : decode cX7_can 101 = .ok (.iconst 1, 1) := by decide +kernel
theorem dX7_can_102 : decode cX7_can 102 = .ok (.goto 4, 3) := by decide +kernel
theorem dX7_can_105 : decode cX7_can 105 = .ok (.iconst 0, 1) := by decide +kernel
theorem dX7_can_106 : decode cX7_can 106 = .ok (.ireturn, 1) := by decide +kernel
theorem dX7_can_107 : decode cX7_can 107 = .ok (.aload_n 0, 1) := by decide +kernel
theorem dX7_can_108 : decode cX7_can 108 = .ok (.getfield 7, 3) := by decide +kernel
theorem dX7_can_111 : decode cX7_can 111 = .ok (.iconst 0, 1) := by decide +kernel
theorem dX7_can_112 : decode cX7_can 112 = .ok (.iload_n 3, 1) := by decide +kernel
theorem dX7_can_113 : decode cX7_can 113 = .ok (.iadd, 1) := by decide +kernel
theorem dX7_can_114 : decode cX7_can 114 = .ok (.iaload, 1) := by decide +kernel
theorem dX7_can_115 : decode cX7_can 115 = .ok (.iconst 1, 1) := by decide +kernel
theorem dX7_can_116 : decode cX7_can 116 = .ok (.if_icmp .ne 15, 3) := by decide +kernel
theorem dX7_can_119 : decode cX7_can 119 = .ok (.aload_n 0, 1) := by decide +kernel
theorem dX7_can_120 : decode cX7_can 120 = .ok (.iload_n 3, 1) := by decide +kernel
theorem dX7_can_121 : decode cX7_can 121 = .ok (.invokevirtual 59, 3) := by decide +kernel
theorem dX7_can_124 : decode cX7_can 124 = .ok (.ifCond .ne 7, 3) := by decide +kernel
theorem dX7_can_127 : decode cX7_can 127 = .ok (.iconst 1, 1) := by decide +kernel
theorem dX7_can_128 : decode cX7_can 128 = .ok (.goto 4, 3) := by decide +kernel
theorem dX7_can_131 : decode cX7_can 131 = .ok (.iconst 0, 1) := by decide +kernel
theorem dX7_can_132 : decode cX7_can 132 = .ok (.ireturn, 1) := by decide +kernel
theorem dX7_can_133 : decode cX7_can 133 = .ok (.iconst 1, 1) := by decide +kernel
theorem dX7_can_134 : decode cX7_can 134 = .ok (.ireturn, 1) := by decide +kernel
theorem dX7_hasStep_0 : decode cX7_hasStep 0 = .ok (.iload_n 0, 1) := by decide +kernel
theorem dX7_hasStep_1 : decode cX7_hasStep 1 = .ok (.iconst 3, 1) := by decide +kernel
theorem dX7_hasStep_2 : decode cX7_hasStep 2 = .ok (.if_icmp .eq 14, 3) := by decide +kernel
theorem dX7_hasStep_5 : decode cX7_hasStep 5 = .ok (.iload_n 0, 1) := by decide +kernel
theorem dX7_hasStep_6 : decode cX7_hasStep 6 = .ok (.iconst 4, 1) := by decide +kernel
theorem dX7_hasStep_7 : decode cX7_hasStep 7 = .ok (.if_icmp .eq 9, 3) := by decide +kernel
theorem dX7_hasStep_10 : decode cX7_hasStep 10 = .ok (.iload_n 0, 1) := by decide +kernel
theorem dX7_hasStep_11 : decode cX7_hasStep 11 = .ok (.bipush 6, 2) := by decide +kernel
theorem dX7_hasStep_13 : decode cX7_hasStep 13 = .ok (.if_icmp .ne 7, 3) := by decide +kernel
theorem dX7_hasStep_16 : decode cX7_hasStep 16 = .ok (.iconst 1, 1) := by decide +kernel
theorem dX7_hasStep_17 : decode cX7_hasStep 17 = .ok (.goto 4, 3) := by decide +kernel
theorem dX7_hasStep_20 : decode cX7_hasStep 20 = .ok (.iconst 0, 1) := by decide +kernel
theorem dX7_hasStep_21 : decode cX7_hasStep 21 = .ok (.ireturn, 1) := by decide +kernel
set_option maxRecDepth 20000 in
theorem ggX7_writes_X7_number : GoodIn wsX7_writes wsX7_number := goodIn_r _ [6, 1, 11, 12, 13, 14, 15, 16, 17, 18, 19, 20, 21, 22, 23, 24] (by decide +kernel) (by decide +kernel)
set_option maxRecDepth 20000 in
theorem gX7_writes_X7_number : GoodIn wsX7_writes (wsV RX7 41 RX7 yX7_number wsX7_number) := goodIn_app (goodIn_of _ (by decide +kernel)) ggX7_writes_X7_number
set_option maxRecDepth 20000 in
theorem ggX7_writes_X7_held : GoodIn wsX7_writes wsX7_held := goodIn_r _ [10, 1, 11, 12, 13, 14, 15, 16, 17, 18, 19, 20, 21, 22, 23, 24] (by decide +kernel) (by decide +kernel)
set_option maxRecDepth 20000 in
theorem gX7_writes_X7_held : GoodIn wsX7_writes (wsV RX7 59 RX7 yX7_held wsX7_held) := goodIn_app (goodIn_of _ (by decide +kernel)) ggX7_writes_X7_held
theorem dX7_writes_0 : decode cX7_writes 0 = .ok (.bipush 92, 2) := by decide +kernel
theorem dX7_writes_2 : decode cX7_writes 2 = .ok (.bipush 8, 2) := by decide +kernel
theorem dX7_writes_4 : decode cX7_writes 4 = .ok (.aload_n 0, 1) := by decide +kernel
theorem dX7_writes_5 : decode cX7_writes 5 = .ok (.getfield 7, 3) := by decide +kernel
theorem dX7_writes_8 : decode cX7_writes 8 = .ok (.bipush 91, 2) := by decide +kernel
theorem dX7_writes_10 : decode cX7_writes 10 = .ok (.iaload, 1) := by decide +kernel
theorem dX7_writes_11 : decode cX7_writes 11 = .ok (.imul, 1) := by decide +kernel
theorem dX7_writes_12 : decode cX7_writes 12 = .ok (.iadd, 1) := by decide +kernel
theorem dX7_writes_13 : decode cX7_writes 13 = .ok (.istore 4, 2) := by decide +kernel
theorem dX7_writes_15 : decode cX7_writes 15 = .ok (.aload_n 0, 1) := by decide +kernel
theorem dX7_writes_16 : decode cX7_writes 16 = .ok (.getfield 7, 3) := by decide +kernel
theorem dX7_writes_19 : decode cX7_writes 19 = .ok (.iload 4, 2) := by decide +kernel
theorem dX7_writes_21 : decode cX7_writes 21 = .ok (.iload_n 1, 1) := by decide +kernel
theorem dX7_writes_22 : decode cX7_writes 22 = .ok (.iastore, 1) := by decide +kernel
theorem dX7_writes_23 : decode cX7_writes 23 = .ok (.aload_n 0, 1) := by decide +kernel
theorem dX7_writes_24 : decode cX7_writes 24 = .ok (.getfield 7, 3) := by decide +kernel
theorem dX7_writes_27 : decode cX7_writes 27 = .ok (.iload 4, 2) := by decide +kernel
theorem dX7_writes_29 : decode cX7_writes 29 = .ok (.iconst 1, 1) := by decide +kernel
theorem dX7_writes_30 : decode cX7_writes 30 = .ok (.iadd, 1) := by decide +kernel
theorem dX7_writes_31 : decode cX7_writes 31 = .ok (.iload_n 2, 1) := by decide +kernel
theorem dX7_writes_32 : decode cX7_writes 32 = .ok (.iastore, 1) := by decide +kernel
theorem dX7_writes_33 : decode cX7_writes 33 = .ok (.aload_n 0, 1) := by decide +kernel
theorem dX7_writes_34 : decode cX7_writes 34 = .ok (.getfield 7, 3) := by decide +kernel
theorem dX7_writes_37 : decode cX7_writes 37 = .ok (.iload 4, 2) := by decide +kernel
theorem dX7_writes_39 : decode cX7_writes 39 = .ok (.iconst 2, 1) := by decide +kernel
theorem dX7_writes_40 : decode cX7_writes 40 = .ok (.iadd, 1) := by decide +kernel
theorem dX7_writes_41 : decode cX7_writes 41 = .ok (.iload_n 3, 1) := by decide +kernel
theorem dX7_writes_42 : decode cX7_writes 42 = .ok (.iastore, 1) := by decide +kernel
theorem dX7_writes_43 : decode cX7_writes 43 = .ok (.iconst 0, 1) := by decide +kernel
theorem dX7_writes_44 : decode cX7_writes 44 = .ok (.istore 5, 2) := by decide +kernel
theorem dX7_writes_46 : decode cX7_writes 46 = .ok (.iload 5, 2) := by decide +kernel
theorem dX7_writes_48 : decode cX7_writes 48 = .ok (.iconst 4, 1) := by decide +kernel
theorem dX7_writes_49 : decode cX7_writes 49 = .ok (.if_icmp .ge 28, 3) := by decide +kernel
theorem dX7_writes_52 : decode cX7_writes 52 = .ok (.aload_n 0, 1) := by decide +kernel
theorem dX7_writes_53 : decode cX7_writes 53 = .ok (.getfield 7, 3) := by decide +kernel
theorem dX7_writes_56 : decode cX7_writes 56 = .ok (.iload 4, 2) := by decide +kernel
theorem dX7_writes_58 : decode cX7_writes 58 = .ok (.iconst 3, 1) := by decide +kernel
theorem dX7_writes_59 : decode cX7_writes 59 = .ok (.iadd, 1) := by decide +kernel
theorem dX7_writes_60 : decode cX7_writes 60 = .ok (.iload 5, 2) := by decide +kernel
theorem dX7_writes_62 : decode cX7_writes 62 = .ok (.iadd, 1) := by decide +kernel
theorem dX7_writes_63 : decode cX7_writes 63 = .ok (.aload_n 0, 1) := by decide +kernel
theorem dX7_writes_64 : decode cX7_writes 64 = .ok (.iload_n 1, 1) := by decide +kernel
theorem dX7_writes_65 : decode cX7_writes 65 = .ok (.iload 5, 2) := by decide +kernel
theorem dX7_writes_67 : decode cX7_writes 67 = .ok (.invokevirtual 41, 3) := by decide +kernel
theorem dX7_writes_70 : decode cX7_writes 70 = .ok (.iastore, 1) := by decide +kernel
theorem dX7_writes_71 : decode cX7_writes 71 = .ok (.iinc 5 1, 3) := by decide +kernel
theorem dX7_writes_74 : decode cX7_writes 74 = .ok (.goto (-28), 3) := by decide +kernel
theorem dX7_writes_77 : decode cX7_writes 77 = .ok (.aload_n 0, 1) := by decide +kernel
theorem dX7_writes_78 : decode cX7_writes 78 = .ok (.getfield 7, 3) := by decide +kernel
theorem dX7_writes_81 : decode cX7_writes 81 = .ok (.iload 4, 2) := by decide +kernel
theorem dX7_writes_83 : decode cX7_writes 83 = .ok (.bipush 7, 2) := by decide +kernel
theorem dX7_writes_85 : decode cX7_writes 85 = .ok (.iadd, 1) := by decide +kernel
theorem dX7_writes_86 : decode cX7_writes 86 = .ok (.aload_n 0, 1) := by decide +kernel
theorem dX7_writes_87 : decode cX7_writes 87 = .ok (.iload_n 1, 1) := by decide +kernel
theorem dX7_writes_88 : decode cX7_writes 88 = .ok (.invokevirtual 59, 3) := by decide +kernel
theorem dX7_writes_91 : decode cX7_writes 91 = .ok (.iastore, 1) := by decide +kernel
theorem dX7_writes_92 : decode cX7_writes 92 = .ok (.aload_n 0, 1) := by decide +kernel
theorem dX7_writes_93 : decode cX7_writes 93 = .ok (.getfield 7, 3) := by decide +kernel
theorem dX7_writes_96 : decode cX7_writes 96 = .ok (.bipush 91, 2) := by decide +kernel
theorem dX7_writes_98 : decode cX7_writes 98 = .ok (.dup2, 1) := by decide +kernel
theorem dX7_writes_99 : decode cX7_writes 99 = .ok (.iaload, 1) := by decide +kernel
theorem dX7_writes_100 : decode cX7_writes 100 = .ok (.iconst 1, 1) := by decide +kernel
theorem dX7_writes_101 : decode cX7_writes 101 = .ok (.iadd, 1) := by decide +kernel
theorem dX7_writes_102 : decode cX7_writes 102 = .ok (.iastore, 1) := by decide +kernel
theorem dX7_writes_103 : decode cX7_writes 103 = .ok (.return_, 1) := by decide +kernel
set_option maxRecDepth 20000 in
theorem ggX7_kindOf_X7_of : GoodIn wsX7_kindOf wsX7_of := goodIn_r _ [5] (by decide +kernel) (by decide +kernel)
set_option maxRecDepth 20000 in
theorem gX7_kindOf_X7_of : GoodIn wsX7_kindOf (va_wsS RX7 37 yX7_of wsX7_of) := goodIn_app (goodIn_of _ (by decide +kernel)) ggX7_kindOf_X7_of
set_option maxRecDepth 20000 in
theorem ggX7_kindOf_X7_number : GoodIn wsX7_kindOf wsX7_number := goodIn_r _ [9, 1, 10, 11, 12, 13, 14, 15, 16, 17, 18, 19, 20, 21, 22, 23] (by decide +kernel) (by decide +kernel)
set_option maxRecDepth 20000 in
theorem gX7_kindOf_X7_number : GoodIn wsX7_kindOf (wsV RX7 41 RX7 yX7_number wsX7_number) := goodIn_app (goodIn_of _ (by decide +kernel)) ggX7_kindOf_X7_number
theorem dX7_kindOf_0 : decode cX7_kindOf 0 = .ok (.iload_n 2, 1) := by decide +kernel
theorem dX7_kindOf_1 : decode cX7_kindOf 1 = .ok (.invokestatic 37, 3) := by decide +kernel
theorem dX7_kindOf_4 : decode cX7_kindOf 4 = .ok (.istore 4, 2) := by decide +kernel
theorem dX7_kindOf_6 : decode cX7_kindOf 6 = .ok (.aload_n 0, 1) := by decide +kernel
theorem dX7_kindOf_7 : decode cX7_kindOf 7 = .ok (.getfield 7, 3) := by decide +kernel
theorem dX7_kindOf_10 : decode cX7_kindOf 10 = .ok (.iload 4, 2) := by decide +kernel
theorem dX7_kindOf_12 : decode cX7_kindOf 12 = .ok (.iconst 0, 1) := by decide +kernel
theorem dX7_kindOf_13 : decode cX7_kindOf 13 = .ok (.iadd, 1) := by decide +kernel
theorem dX7_kindOf_14 : decode cX7_kindOf 14 = .ok (.iaload, 1) := by decide +kernel
theorem dX7_kindOf_15 : decode cX7_kindOf 15 = .ok (.istore 5, 2) := by decide +kernel
theorem dX7_kindOf_17 : decode cX7_kindOf 17 = .ok (.iload 5, 2) := by decide +kernel
theorem dX7_kindOf_19 : decode cX7_kindOf 19 = .ok (.iconst (-1), 1) := by decide +kernel
theorem dX7_kindOf_20 : decode cX7_kindOf 20 = .ok (.if_icmp .eq 32, 3) := by decide +kernel
theorem dX7_kindOf_23 : decode cX7_kindOf 23 = .ok (.aload_n 0, 1) := by decide +kernel
theorem dX7_kindOf_24 : decode cX7_kindOf 24 = .ok (.iload_n 1, 1) := by decide +kernel
theorem dX7_kindOf_25 : decode cX7_kindOf 25 = .ok (.iload 5, 2) := by decide +kernel
theorem dX7_kindOf_27 : decode cX7_kindOf 27 = .ok (.invokevirtual 41, 3) := by decide +kernel
theorem dX7_kindOf_30 : decode cX7_kindOf 30 = .ok (.aload_n 0, 1) := by decide +kernel
theorem dX7_kindOf_31 : decode cX7_kindOf 31 = .ok (.getfield 7, 3) := by decide +kernel
theorem dX7_kindOf_34 : decode cX7_kindOf 34 = .ok (.iload 4, 2) := by decide +kernel
theorem dX7_kindOf_36 : decode cX7_kindOf 36 = .ok (.iconst 1, 1) := by decide +kernel
theorem dX7_kindOf_37 : decode cX7_kindOf 37 = .ok (.iadd, 1) := by decide +kernel
theorem dX7_kindOf_38 : decode cX7_kindOf 38 = .ok (.iaload, 1) := by decide +kernel
theorem dX7_kindOf_39 : decode cX7_kindOf 39 = .ok (.if_icmp .ge 13, 3) := by decide +kernel
theorem dX7_kindOf_42 : decode cX7_kindOf 42 = .ok (.iload_n 3, 1) := by decide +kernel
theorem dX7_kindOf_43 : decode cX7_kindOf 43 = .ok (.ifCond .eq 7, 3) := by decide +kernel
theorem dX7_kindOf_46 : decode cX7_kindOf 46 = .ok (.iconst 0, 1) := by decide +kernel
theorem dX7_kindOf_47 : decode cX7_kindOf 47 = .ok (.goto 4, 3) := by decide +kernel
theorem dX7_kindOf_50 : decode cX7_kindOf 50 = .ok (.iconst 1, 1) := by decide +kernel
theorem dX7_kindOf_51 : decode cX7_kindOf 51 = .ok (.ireturn, 1) := by decide +kernel
theorem dX7_kindOf_52 : decode cX7_kindOf 52 = .ok (.iload_n 3, 1) := by decide +kernel
theorem dX7_kindOf_53 : decode cX7_kindOf 53 = .ok (.ifCond .ne 5, 3) := by decide +kernel
theorem dX7_kindOf_56 : decode cX7_kindOf 56 = .ok (.iconst (-1), 1) := by decide +kernel
theorem dX7_kindOf_57 : decode cX7_kindOf 57 = .ok (.ireturn, 1) := by decide +kernel
theorem dX7_kindOf_58 : decode cX7_kindOf 58 = .ok (.aload_n 0, 1) := by decide +kernel
theorem dX7_kindOf_59 : decode cX7_kindOf 59 = .ok (.getfield 7, 3) := by decide +kernel
theorem dX7_kindOf_62 : decode cX7_kindOf 62 = .ok (.iload 4, 2) := by decide +kernel
theorem dX7_kindOf_64 : decode cX7_kindOf 64 = .ok (.iconst 2, 1) := by decide +kernel
theorem dX7_kindOf_65 : decode cX7_kindOf 65 = .ok (.iadd, 1) := by decide +kernel
theorem dX7_kindOf_66 : decode cX7_kindOf 66 = .ok (.iaload, 1) := by decide +kernel
theorem dX7_kindOf_67 : decode cX7_kindOf 67 = .ok (.istore 6, 2) := by decide +kernel
theorem dX7_kindOf_69 : decode cX7_kindOf 69 = .ok (.iload 6, 2) := by decide +kernel
theorem dX7_kindOf_71 : decode cX7_kindOf 71 = .ok (.iconst (-1), 1) := by decide +kernel
theorem dX7_kindOf_72 : decode cX7_kindOf 72 = .ok (.if_icmp .eq 26, 3) := by decide +kernel
theorem dX7_kindOf_75 : decode cX7_kindOf 75 = .ok (.aload_n 0, 1) := by decide +kernel
theorem dX7_kindOf_76 : decode cX7_kindOf 76 = .ok (.iload_n 1, 1) := by decide +kernel
theorem dX7_kindOf_77 : decode cX7_kindOf 77 = .ok (.iload 6, 2) := by decide +kernel
theorem dX7_kindOf_79 : decode cX7_kindOf 79 = .ok (.invokevirtual 41, 3) := by decide +kernel
theorem dX7_kindOf_82 : decode cX7_kindOf 82 = .ok (.aload_n 0, 1) := by decide +kernel
theorem dX7_kindOf_83 : decode cX7_kindOf 83 = .ok (.getfield 7, 3) := by decide +kernel
theorem dX7_kindOf_86 : decode cX7_kindOf 86 = .ok (.iload 4, 2) := by decide +kernel
theorem dX7_kindOf_88 : decode cX7_kindOf 88 = .ok (.iconst 3, 1) := by decide +kernel
theorem dX7_kindOf_89 : decode cX7_kindOf 89 = .ok (.iadd, 1) := by decide +kernel
theorem dX7_kindOf_90 : decode cX7_kindOf 90 = .ok (.iaload, 1) := by decide +kernel
theorem dX7_kindOf_91 : decode cX7_kindOf 91 = .ok (.if_icmp .ge 7, 3) := by decide +kernel
theorem dX7_kindOf_94 : decode cX7_kindOf 94 = .ok (.iconst 1, 1) := by decide +kernel
theorem dX7_kindOf_95 : decode cX7_kindOf 95 = .ok (.goto 4, 3) := by decide +kernel
theorem dX7_kindOf_98 : decode cX7_kindOf 98 = .ok (.iconst 0, 1) := by decide +kernel
theorem dX7_kindOf_99 : decode cX7_kindOf 99 = .ok (.istore 7, 2) := by decide +kernel
theorem dX7_kindOf_101 : decode cX7_kindOf 101 = .ok (.iconst 0, 1) := by decide +kernel
theorem dX7_kindOf_102 : decode cX7_kindOf 102 = .ok (.istore 8, 2) := by decide +kernel
theorem dX7_kindOf_104 : decode cX7_kindOf 104 = .ok (.iload 8, 2) := by decide +kernel
theorem dX7_kindOf_106 : decode cX7_kindOf 106 = .ok (.iconst 4, 1) := by decide +kernel
theorem dX7_kindOf_107 : decode cX7_kindOf 107 = .ok (.if_icmp .ge 56, 3) := by decide +kernel
theorem dX7_kindOf_110 : decode cX7_kindOf 110 = .ok (.iload 7, 2) := by decide +kernel
theorem dX7_kindOf_112 : decode cX7_kindOf 112 = .ok (.ifCond .ne 38, 3) := by decide +kernel
theorem dX7_kindOf_115 : decode cX7_kindOf 115 = .ok (.aload_n 0, 1) := by decide +kernel
theorem dX7_kindOf_116 : decode cX7_kindOf 116 = .ok (.getfield 7, 3) := by decide +kernel
theorem dX7_kindOf_119 : decode cX7_kindOf 119 = .ok (.iload 4, 2) := by decide +kernel
theorem dX7_kindOf_121 : decode cX7_kindOf 121 = .ok (.iconst 4, 1) := by decide +kernel
theorem dX7_kindOf_122 : decode cX7_kindOf 122 = .ok (.iadd, 1) := by decide +kernel
theorem dX7_kindOf_123 : decode cX7_kindOf 123 = .ok (.iaload, 1) := by decide +kernel
theorem dX7_kindOf_124 : decode cX7_kindOf 124 = .ok (.iconst 1, 1) := by decide +kernel
theorem dX7_kindOf_125 : decode cX7_kindOf 125 = .ok (.if_icmp .ne 29, 3) := by decide +kernel
theorem dX7_kindOf_128 : decode cX7_kindOf 128 = .ok (.aload_n 0, 1) := by decide +kernel
theorem dX7_kindOf_129 : decode cX7_kindOf 129 = .ok (.iload_n 1, 1) := by decide +kernel
theorem dX7_kindOf_130 : decode cX7_kindOf 130 = .ok (.iload 8, 2) := by decide +kernel
theorem dX7_kindOf_132 : decode cX7_kindOf 132 = .ok (.invokevirtual 41, 3) := by decide +kernel
theorem dX7_kindOf_135 : decode cX7_kindOf 135 = .ok (.aload_n 0, 1) := by decide +kernel
theorem dX7_kindOf_136 : decode cX7_kindOf 136 = .ok (.getfield 7, 3) := by decide +kernel
theorem dX7_kindOf_139 : decode cX7_kindOf 139 = .ok (.iload 4, 2) := by decide +kernel
theorem dX7_kindOf_141 : decode cX7_kindOf 141 = .ok (.iconst 5, 1) := by decide +kernel
theorem dX7_kindOf_142 : decode cX7_kindOf 142 = .ok (.iadd, 1) := by decide +kernel
theorem dX7_kindOf_143 : decode cX7_kindOf 143 = .ok (.iload 8, 2) := by decide +kernel
theorem dX7_kindOf_145 : decode cX7_kindOf 145 = .ok (.iadd, 1) := by decide +kernel
theorem dX7_kindOf_146 : decode cX7_kindOf 146 = .ok (.iaload, 1) := by decide +kernel
theorem dX7_kindOf_147 : decode cX7_kindOf 147 = .ok (.if_icmp .ge 7, 3) := by decide +kernel
theorem dX7_kindOf_150 : decode cX7_kindOf 150 = .ok (.iconst 1, 1) := by decide +kernel
theorem dX7_kindOf_151 : decode cX7_kindOf 151 = .ok (.goto 4, 3) := by decide +kernel
theorem dX7_kindOf_154 : decode cX7_kindOf 154 = .ok (.iconst 0, 1) := by decide +kernel
theorem dX7_kindOf_155 : decode cX7_kindOf 155 = .ok (.istore 7, 2) := by decide +kernel
theorem dX7_kindOf_157 : decode cX7_kindOf 157 = .ok (.iinc 8 1, 3) := by decide +kernel
theorem dX7_kindOf_160 : decode cX7_kindOf 160 = .ok (.goto (-56), 3) := by decide +kernel
theorem dX7_kindOf_163 : decode cX7_kindOf 163 = .ok (.iload 7, 2) := by decide +kernel
theorem dX7_kindOf_165 : decode cX7_kindOf 165 = .ok (.ifCond .eq 7, 3) := by decide +kernel
theorem dX7_kindOf_168 : decode cX7_kindOf 168 = .ok (.iconst 2, 1) := by decide +kernel
theorem dX7_kindOf_169 : decode cX7_kindOf 169 = .ok (.goto 4, 3) := by decide +kernel
theorem dX7_kindOf_172 : decode cX7_kindOf 172 = .ok (.iconst (-1), 1) := by decide +kernel
theorem dX7_kindOf_173 : decode cX7_kindOf 173 = .ok (.ireturn, 1) := by decide +kernel
set_option maxRecDepth 20000 in
theorem ggX7_accesses_X7_of : GoodIn wsX7_accesses wsX7_of := goodIn_r _ [5] (by decide +kernel) (by decide +kernel)
set_option maxRecDepth 20000 in
theorem gX7_accesses_X7_of : GoodIn wsX7_accesses (va_wsS RX7 37 yX7_of wsX7_of) := goodIn_app (goodIn_of _ (by decide +kernel)) ggX7_accesses_X7_of
set_option maxRecDepth 20000 in
theorem ggX7_accesses_X7_kindOf : GoodIn wsX7_accesses wsX7_kindOf := goodIn_r _ [9, 1, 2, 3, 4, 5, 10, 11, 12, 13, 18, 19, 20, 21, 22, 23, 24, 25, 26, 27, 28, 29, 30, 31] (by decide +kernel) (by decide +kernel)
set_option maxRecDepth 20000 in
theorem gX7_accesses_X7_kindOf : GoodIn wsX7_accesses (wsV RX7 62 RX7 yX7_kindOf wsX7_kindOf) := goodIn_app (goodIn_of _ (by decide +kernel)) ggX7_accesses_X7_kindOf
set_option maxRecDepth 20000 in
theorem ggX7_accesses_X7_number : GoodIn wsX7_accesses wsX7_number := goodIn_r _ [13, 1, 18, 19, 20, 21, 22, 23, 24, 25, 26, 27, 28, 29, 30, 31] (by decide +kernel) (by decide +kernel)
set_option maxRecDepth 20000 in
theorem gX7_accesses_X7_number : GoodIn wsX7_accesses (wsV RX7 41 RX7 yX7_number wsX7_number) := goodIn_app (goodIn_of _ (by decide +kernel)) ggX7_accesses_X7_number
set_option maxRecDepth 20000 in
theorem ggX7_accesses_X7_reads : GoodIn wsX7_accesses wsX7_reads := goodIn_r _ [17, 1, 10, 11, 12, 4, 13, 18, 19, 20, 21, 22, 23, 24, 25, 26, 27, 28, 29, 30, 31] (by decide +kernel) (by decide +kernel)
set_option maxRecDepth 20000 in
theorem gX7_accesses_X7_reads : GoodIn wsX7_accesses (wsV RX7 66 RX7 yX7_reads wsX7_reads) := goodIn_app (goodIn_of _ (by decide +kernel)) ggX7_accesses_X7_reads
theorem dX7_accesses_0 : decode cX7_accesses 0 = .ok (.iload_n 2, 1) := by decide +kernel
theorem dX7_accesses_1 : decode cX7_accesses 1 = .ok (.invokestatic 37, 3) := by decide +kernel
theorem dX7_accesses_4 : decode cX7_accesses 4 = .ok (.istore 4, 2) := by decide +kernel
theorem dX7_accesses_6 : decode cX7_accesses 6 = .ok (.aload_n 0, 1) := by decide +kernel
theorem dX7_accesses_7 : decode cX7_accesses 7 = .ok (.iload_n 1, 1) := by decide +kernel
theorem dX7_accesses_8 : decode cX7_accesses 8 = .ok (.iload_n 2, 1) := by decide +kernel
theorem dX7_accesses_9 : decode cX7_accesses 9 = .ok (.iload_n 3, 1) := by decide +kernel
theorem dX7_accesses_10 : decode cX7_accesses 10 = .ok (.invokevirtual 62, 3) := by decide +kernel
theorem dX7_accesses_13 : decode cX7_accesses 13 = .ok (.istore 5, 2) := by decide +kernel
theorem dX7_accesses_15 : decode cX7_accesses 15 = .ok (.iload 5, 2) := by decide +kernel
theorem dX7_accesses_17 : decode cX7_accesses 17 = .ok (.iconst (-1), 1) := by decide +kernel
theorem dX7_accesses_18 : decode cX7_accesses 18 = .ok (.if_icmp .eq 46, 3) := by decide +kernel
theorem dX7_accesses_21 : decode cX7_accesses 21 = .ok (.aload_n 0, 1) := by decide +kernel
theorem dX7_accesses_22 : decode cX7_accesses 22 = .ok (.getfield 7, 3) := by decide +kernel
theorem dX7_accesses_25 : decode cX7_accesses 25 = .ok (.iload 4, 2) := by decide +kernel
theorem dX7_accesses_27 : decode cX7_accesses 27 = .ok (.bipush 10, 2) := by decide +kernel
theorem dX7_accesses_29 : decode cX7_accesses 29 = .ok (.iadd, 1) := by decide +kernel
theorem dX7_accesses_30 : decode cX7_accesses 30 = .ok (.iaload, 1) := by decide +kernel
theorem dX7_accesses_31 : decode cX7_accesses 31 = .ok (.iconst (-1), 1) := by decide +kernel
theorem dX7_accesses_32 : decode cX7_accesses 32 = .ok (.if_icmp .ne 32, 3) := by decide +kernel
theorem dX7_accesses_35 : decode cX7_accesses 35 = .ok (.aload_n 0, 1) := by decide +kernel
theorem dX7_accesses_36 : decode cX7_accesses 36 = .ok (.getfield 7, 3) := by decide +kernel
theorem dX7_accesses_39 : decode cX7_accesses 39 = .ok (.iload 4, 2) := by decide +kernel
theorem dX7_accesses_41 : decode cX7_accesses 41 = .ok (.bipush 10, 2) := by decide +kernel
theorem dX7_accesses_43 : decode cX7_accesses 43 = .ok (.iadd, 1) := by decide +kernel
theorem dX7_accesses_44 : decode cX7_accesses 44 = .ok (.aload_n 0, 1) := by decide +kernel
theorem dX7_accesses_45 : decode cX7_accesses 45 = .ok (.getfield 7, 3) := by decide +kernel
theorem dX7_accesses_48 : decode cX7_accesses 48 = .ok (.bipush 91, 2) := by decide +kernel
theorem dX7_accesses_50 : decode cX7_accesses 50 = .ok (.iaload, 1) := by decide +kernel
theorem dX7_accesses_51 : decode cX7_accesses 51 = .ok (.iastore, 1) := by decide +kernel
theorem dX7_accesses_52 : decode cX7_accesses 52 = .ok (.aload_n 0, 1) := by decide +kernel
theorem dX7_accesses_53 : decode cX7_accesses 53 = .ok (.getfield 7, 3) := by decide +kernel
theorem dX7_accesses_56 : decode cX7_accesses 56 = .ok (.iload 4, 2) := by decide +kernel
theorem dX7_accesses_58 : decode cX7_accesses 58 = .ok (.bipush 11, 2) := by decide +kernel
theorem dX7_accesses_60 : decode cX7_accesses 60 = .ok (.iadd, 1) := by decide +kernel
theorem dX7_accesses_61 : decode cX7_accesses 61 = .ok (.iload 5, 2) := by decide +kernel
theorem dX7_accesses_63 : decode cX7_accesses 63 = .ok (.iastore, 1) := by decide +kernel
theorem dX7_accesses_64 : decode cX7_accesses 64 = .ok (.iload_n 3, 1) := by decide +kernel
theorem dX7_accesses_65 : decode cX7_accesses 65 = .ok (.ifCond .eq 89, 3) := by decide +kernel
theorem dX7_accesses_68 : decode cX7_accesses 68 = .ok (.aload_n 0, 1) := by decide +kernel
theorem dX7_accesses_69 : decode cX7_accesses 69 = .ok (.getfield 7, 3) := by decide +kernel
theorem dX7_accesses_72 : decode cX7_accesses 72 = .ok (.iload 4, 2) := by decide +kernel
theorem dX7_accesses_74 : decode cX7_accesses 74 = .ok (.iconst 0, 1) := by decide +kernel
theorem dX7_accesses_75 : decode cX7_accesses 75 = .ok (.iadd, 1) := by decide +kernel
theorem dX7_accesses_76 : decode cX7_accesses 76 = .ok (.iload_n 1, 1) := by decide +kernel
theorem dX7_accesses_77 : decode cX7_accesses 77 = .ok (.iastore, 1) := by decide +kernel
theorem dX7_accesses_78 : decode cX7_accesses 78 = .ok (.aload_n 0, 1) := by decide +kernel
theorem dX7_accesses_79 : decode cX7_accesses 79 = .ok (.getfield 7, 3) := by decide +kernel
theorem dX7_accesses_82 : decode cX7_accesses 82 = .ok (.iload 4, 2) := by decide +kernel
theorem dX7_accesses_84 : decode cX7_accesses 84 = .ok (.iconst 1, 1) := by decide +kernel
theorem dX7_accesses_85 : decode cX7_accesses 85 = .ok (.iadd, 1) := by decide +kernel
theorem dX7_accesses_86 : decode cX7_accesses 86 = .ok (.aload_n 0, 1) := by decide +kernel
theorem dX7_accesses_87 : decode cX7_accesses 87 = .ok (.iload_n 1, 1) := by decide +kernel
theorem dX7_accesses_88 : decode cX7_accesses 88 = .ok (.iload_n 1, 1) := by decide +kernel
theorem dX7_accesses_89 : decode cX7_accesses 89 = .ok (.invokevirtual 41, 3) := by decide +kernel
theorem dX7_accesses_92 : decode cX7_accesses 92 = .ok (.iastore, 1) := by decide +kernel
theorem dX7_accesses_93 : decode cX7_accesses 93 = .ok (.aload_n 0, 1) := by decide +kernel
theorem dX7_accesses_94 : decode cX7_accesses 94 = .ok (.getfield 7, 3) := by decide +kernel
theorem dX7_accesses_97 : decode cX7_accesses 97 = .ok (.iload 4, 2) := by decide +kernel
theorem dX7_accesses_99 : decode cX7_accesses 99 = .ok (.iconst 2, 1) := by decide +kernel
theorem dX7_accesses_100 : decode cX7_accesses 100 = .ok (.iadd, 1) := by decide +kernel
theorem dX7_accesses_101 : decode cX7_accesses 101 = .ok (.iconst (-1), 1) := by decide +kernel
theorem dX7_accesses_102 : decode cX7_accesses 102 = .ok (.iastore, 1) := by decide +kernel
theorem dX7_accesses_103 : decode cX7_accesses 103 = .ok (.aload_n 0, 1) := by decide +kernel
theorem dX7_accesses_104 : decode cX7_accesses 104 = .ok (.getfield 7, 3) := by decide +kernel
theorem dX7_accesses_107 : decode cX7_accesses 107 = .ok (.iload 4, 2) := by decide +kernel
theorem dX7_accesses_109 : decode cX7_accesses 109 = .ok (.iconst 3, 1) := by decide +kernel
theorem dX7_accesses_110 : decode cX7_accesses 110 = .ok (.iadd, 1) := by decide +kernel
theorem dX7_accesses_111 : decode cX7_accesses 111 = .ok (.iconst 0, 1) := by decide +kernel
theorem dX7_accesses_112 : decode cX7_accesses 112 = .ok (.iastore, 1) := by decide +kernel
theorem dX7_accesses_113 : decode cX7_accesses 113 = .ok (.aload_n 0, 1) := by decide +kernel
theorem dX7_accesses_114 : decode cX7_accesses 114 = .ok (.getfield 7, 3) := by decide +kernel
theorem dX7_accesses_117 : decode cX7_accesses 117 = .ok (.iload 4, 2) := by decide +kernel
theorem dX7_accesses_119 : decode cX7_accesses 119 = .ok (.iconst 4, 1) := by decide +kernel
theorem dX7_accesses_120 : decode cX7_accesses 120 = .ok (.iadd, 1) := by decide +kernel
theorem dX7_accesses_121 : decode cX7_accesses 121 = .ok (.iconst 0, 1) := by decide +kernel
theorem dX7_accesses_122 : decode cX7_accesses 122 = .ok (.iastore, 1) := by decide +kernel
theorem dX7_accesses_123 : decode cX7_accesses 123 = .ok (.iconst 0, 1) := by decide +kernel
theorem dX7_accesses_124 : decode cX7_accesses 124 = .ok (.istore 6, 2) := by decide +kernel
theorem dX7_accesses_126 : decode cX7_accesses 126 = .ok (.iload 6, 2) := by decide +kernel
theorem dX7_accesses_128 : decode cX7_accesses 128 = .ok (.iconst 4, 1) := by decide +kernel
theorem dX7_accesses_129 : decode cX7_accesses 129 = .ok (.if_icmp .ge 22, 3) := by decide +kernel
theorem dX7_accesses_132 : decode cX7_accesses 132 = .ok (.aload_n 0, 1) := by decide +kernel
theorem dX7_accesses_133 : decode cX7_accesses 133 = .ok (.getfield 7, 3) := by decide +kernel
theorem dX7_accesses_136 : decode cX7_accesses 136 = .ok (.iload 4, 2) := by decide +kernel
theorem dX7_accesses_138 : decode cX7_accesses 138 = .ok (.iconst 5, 1) := by decide +kernel
theorem dX7_accesses_139 : decode cX7_accesses 139 = .ok (.iadd, 1) := by decide +kernel
theorem dX7_accesses_140 : decode cX7_accesses 140 = .ok (.iload 6, 2) := by decide +kernel
theorem dX7_accesses_142 : decode cX7_accesses 142 = .ok (.iadd, 1) := by decide +kernel
theorem dX7_accesses_143 : decode cX7_accesses 143 = .ok (.iconst 0, 1) := by decide +kernel
theorem dX7_accesses_144 : decode cX7_accesses 144 = .ok (.iastore, 1) := by decide +kernel
theorem dX7_accesses_145 : decode cX7_accesses 145 = .ok (.iinc 6 1, 3) := by decide +kernel
theorem dX7_accesses_148 : decode cX7_accesses 148 = .ok (.goto (-22), 3) := by decide +kernel
theorem dX7_accesses_151 : decode cX7_accesses 151 = .ok (.goto 10, 3) := by decide +kernel
theorem dX7_accesses_154 : decode cX7_accesses 154 = .ok (.aload_n 0, 1) := by decide +kernel
theorem dX7_accesses_155 : decode cX7_accesses 155 = .ok (.iload_n 1, 1) := by decide +kernel
theorem dX7_accesses_156 : decode cX7_accesses 156 = .ok (.iload 4, 2) := by decide +kernel
theorem dX7_accesses_158 : decode cX7_accesses 158 = .ok (.invokevirtual 66, 3) := by decide +kernel
theorem dX7_accesses_161 : decode cX7_accesses 161 = .ok (.return_, 1) := by decide +kernel
set_option maxRecDepth 20000 in
theorem ggX7_reads_X7_number : GoodIn wsX7_reads wsX7_number := goodIn_r _ [6, 1, 7, 8, 9, 10, 11, 12, 13, 14, 15, 16, 17, 18, 19, 20] (by decide +kernel) (by decide +kernel)
set_option maxRecDepth 20000 in
theorem gX7_reads_X7_number : GoodIn wsX7_reads (wsV RX7 41 RX7 yX7_number wsX7_number) := goodIn_app (goodIn_of _ (by decide +kernel)) ggX7_reads_X7_number
theorem dX7_reads_0 : decode cX7_reads 0 = .ok (.aload_n 0, 1) := by decide +kernel
theorem dX7_reads_1 : decode cX7_reads 1 = .ok (.getfield 7, 3) := by decide +kernel
theorem dX7_reads_4 : decode cX7_reads 4 = .ok (.iload_n 2, 1) := by decide +kernel
theorem dX7_reads_5 : decode cX7_reads 5 = .ok (.iconst 2, 1) := by decide +kernel
theorem dX7_reads_6 : decode cX7_reads 6 = .ok (.iadd, 1) := by decide +kernel
theorem dX7_reads_7 : decode cX7_reads 7 = .ok (.iaload, 1) := by decide +kernel
theorem dX7_reads_8 : decode cX7_reads 8 = .ok (.istore_n 3, 1) := by decide +kernel
theorem dX7_reads_9 : decode cX7_reads 9 = .ok (.aload_n 0, 1) := by decide +kernel
theorem dX7_reads_10 : decode cX7_reads 10 = .ok (.getfield 7, 3) := by decide +kernel
theorem dX7_reads_13 : decode cX7_reads 13 = .ok (.iload_n 2, 1) := by decide +kernel
theorem dX7_reads_14 : decode cX7_reads 14 = .ok (.iconst 4, 1) := by decide +kernel
theorem dX7_reads_15 : decode cX7_reads 15 = .ok (.iadd, 1) := by decide +kernel
theorem dX7_reads_16 : decode cX7_reads 16 = .ok (.iaload, 1) := by decide +kernel
theorem dX7_reads_17 : decode cX7_reads 17 = .ok (.iconst 1, 1) := by decide +kernel
theorem dX7_reads_18 : decode cX7_reads 18 = .ok (.if_icmp .ne 22, 3) := by decide +kernel
theorem dX7_reads_21 : decode cX7_reads 21 = .ok (.aload_n 0, 1) := by decide +kernel
theorem dX7_reads_22 : decode cX7_reads 22 = .ok (.getfield 7, 3) := by decide +kernel
theorem dX7_reads_25 : decode cX7_reads 25 = .ok (.iload_n 2, 1) := by decide +kernel
theorem dX7_reads_26 : decode cX7_reads 26 = .ok (.iconst 5, 1) := by decide +kernel
theorem dX7_reads_27 : decode cX7_reads 27 = .ok (.iadd, 1) := by decide +kernel
theorem dX7_reads_28 : decode cX7_reads 28 = .ok (.iload_n 1, 1) := by decide +kernel
theorem dX7_reads_29 : decode cX7_reads 29 = .ok (.iadd, 1) := by decide +kernel
theorem dX7_reads_30 : decode cX7_reads 30 = .ok (.aload_n 0, 1) := by decide +kernel
theorem dX7_reads_31 : decode cX7_reads 31 = .ok (.iload_n 1, 1) := by decide +kernel
theorem dX7_reads_32 : decode cX7_reads 32 = .ok (.iload_n 1, 1) := by decide +kernel
theorem dX7_reads_33 : decode cX7_reads 33 = .ok (.invokevirtual 41, 3) := by decide +kernel
theorem dX7_reads_36 : decode cX7_reads 36 = .ok (.iastore, 1) := by decide +kernel
theorem dX7_reads_37 : decode cX7_reads 37 = .ok (.goto 125, 3) := by decide +kernel
theorem dX7_reads_40 : decode cX7_reads 40 = .ok (.iload_n 3, 1) := by decide +kernel
theorem dX7_reads_41 : decode cX7_reads 41 = .ok (.iconst (-1), 1) := by decide +kernel
theorem dX7_reads_42 : decode cX7_reads 42 = .ok (.if_icmp .eq 20, 3) := by decide +kernel
theorem dX7_reads_45 : decode cX7_reads 45 = .ok (.aload_n 0, 1) := by decide +kernel
theorem dX7_reads_46 : decode cX7_reads 46 = .ok (.iload_n 1, 1) := by decide +kernel
theorem dX7_reads_47 : decode cX7_reads 47 = .ok (.iload_n 3, 1) := by decide +kernel
theorem dX7_reads_48 : decode cX7_reads 48 = .ok (.invokevirtual 41, 3) := by decide +kernel
theorem dX7_reads_51 : decode cX7_reads 51 = .ok (.aload_n 0, 1) := by decide +kernel
theorem dX7_reads_52 : decode cX7_reads 52 = .ok (.getfield 7, 3) := by decide +kernel
theorem dX7_reads_55 : decode cX7_reads 55 = .ok (.iload_n 2, 1) := by decide +kernel
theorem dX7_reads_56 : decode cX7_reads 56 = .ok (.iconst 3, 1) := by decide +kernel
theorem dX7_reads_57 : decode cX7_reads 57 = .ok (.iadd, 1) := by decide +kernel
theorem dX7_reads_58 : decode cX7_reads 58 = .ok (.iaload, 1) := by decide +kernel
theorem dX7_reads_59 : decode cX7_reads 59 = .ok (.if_icmp .lt 29, 3) := by decide +kernel
theorem dX7_reads_62 : decode cX7_reads 62 = .ok (.aload_n 0, 1) := by decide +kernel
theorem dX7_reads_63 : decode cX7_reads 63 = .ok (.getfield 7, 3) := by decide +kernel
theorem dX7_reads_66 : decode cX7_reads 66 = .ok (.iload_n 2, 1) := by decide +kernel
theorem dX7_reads_67 : decode cX7_reads 67 = .ok (.iconst 2, 1) := by decide +kernel
theorem dX7_reads_68 : decode cX7_reads 68 = .ok (.iadd, 1) := by decide +kernel
theorem dX7_reads_69 : decode cX7_reads 69 = .ok (.iload_n 1, 1) := by decide +kernel
theorem dX7_reads_70 : decode cX7_reads 70 = .ok (.iastore, 1) := by decide +kernel
theorem dX7_reads_71 : decode cX7_reads 71 = .ok (.aload_n 0, 1) := by decide +kernel
theorem dX7_reads_72 : decode cX7_reads 72 = .ok (.getfield 7, 3) := by decide +kernel
theorem dX7_reads_75 : decode cX7_reads 75 = .ok (.iload_n 2, 1) := by decide +kernel
theorem dX7_reads_76 : decode cX7_reads 76 = .ok (.iconst 3, 1) := by decide +kernel
theorem dX7_reads_77 : decode cX7_reads 77 = .ok (.iadd, 1) := by decide +kernel
theorem dX7_reads_78 : decode cX7_reads 78 = .ok (.aload_n 0, 1) := by decide +kernel
theorem dX7_reads_79 : decode cX7_reads 79 = .ok (.iload_n 1, 1) := by decide +kernel
theorem dX7_reads_80 : decode cX7_reads 80 = .ok (.iload_n 1, 1) := by decide +kernel
theorem dX7_reads_81 : decode cX7_reads 81 = .ok (.invokevirtual 41, 3) := by decide +kernel
theorem dX7_reads_84 : decode cX7_reads 84 = .ok (.iastore, 1) := by decide +kernel
theorem dX7_reads_85 : decode cX7_reads 85 = .ok (.goto 77, 3) := by decide +kernel
theorem dX7_reads_88 : decode cX7_reads 88 = .ok (.aload_n 0, 1) := by decide +kernel
theorem dX7_reads_89 : decode cX7_reads 89 = .ok (.getfield 7, 3) := by decide +kernel
theorem dX7_reads_92 : decode cX7_reads 92 = .ok (.iload_n 2, 1) := by decide +kernel
theorem dX7_reads_93 : decode cX7_reads 93 = .ok (.iconst 4, 1) := by decide +kernel
theorem dX7_reads_94 : decode cX7_reads 94 = .ok (.iadd, 1) := by decide +kernel
theorem dX7_reads_95 : decode cX7_reads 95 = .ok (.iconst 1, 1) := by decide +kernel
theorem dX7_reads_96 : decode cX7_reads 96 = .ok (.iastore, 1) := by decide +kernel
theorem dX7_reads_97 : decode cX7_reads 97 = .ok (.aload_n 0, 1) := by decide +kernel
theorem dX7_reads_98 : decode cX7_reads 98 = .ok (.getfield 7, 3) := by decide +kernel
theorem dX7_reads_101 : decode cX7_reads 101 = .ok (.iload_n 2, 1) := by decide +kernel
theorem dX7_reads_102 : decode cX7_reads 102 = .ok (.iconst 5, 1) := by decide +kernel
theorem dX7_reads_103 : decode cX7_reads 103 = .ok (.iadd, 1) := by decide +kernel
theorem dX7_reads_104 : decode cX7_reads 104 = .ok (.iload_n 3, 1) := by decide +kernel
theorem dX7_reads_105 : decode cX7_reads 105 = .ok (.iadd, 1) := by decide +kernel
theorem dX7_reads_106 : decode cX7_reads 106 = .ok (.aload_n 0, 1) := by decide +kernel
theorem dX7_reads_107 : decode cX7_reads 107 = .ok (.getfield 7, 3) := by decide +kernel
theorem dX7_reads_110 : decode cX7_reads 110 = .ok (.iload_n 2, 1) := by decide +kernel
theorem dX7_reads_111 : decode cX7_reads 111 = .ok (.iconst 3, 1) := by decide +kernel
theorem dX7_reads_112 : decode cX7_reads 112 = .ok (.iadd, 1) := by decide +kernel
theorem dX7_reads_113 : decode cX7_reads 113 = .ok (.iaload, 1) := by decide +kernel
theorem dX7_reads_114 : decode cX7_reads 114 = .ok (.iastore, 1) := by decide +kernel
theorem dX7_reads_115 : decode cX7_reads 115 = .ok (.aload_n 0, 1) := by decide +kernel
theorem dX7_reads_116 : decode cX7_reads 116 = .ok (.getfield 7, 3) := by decide +kernel
theorem dX7_reads_119 : decode cX7_reads 119 = .ok (.iload_n 2, 1) := by decide +kernel
theorem dX7_reads_120 : decode cX7_reads 120 = .ok (.iconst 5, 1) := by decide +kernel
theorem dX7_reads_121 : decode cX7_reads 121 = .ok (.iadd, 1) := by decide +kernel
theorem dX7_reads_122 : decode cX7_reads 122 = .ok (.iload_n 1, 1) := by decide +kernel
theorem dX7_reads_123 : decode cX7_reads 123 = .ok (.iadd, 1) := by decide +kernel
theorem dX7_reads_124 : decode cX7_reads 124 = .ok (.aload_n 0, 1) := by decide +kernel
theorem dX7_reads_125 : decode cX7_reads 125 = .ok (.iload_n 1, 1) := by decide +kernel
theorem dX7_reads_126 : decode cX7_reads 126 = .ok (.iload_n 1, 1) := by decide +kernel
theorem dX7_reads_127 : decode cX7_reads 127 = .ok (.invokevirtual 41, 3) := by decide +kernel
theorem dX7_reads_130 : decode cX7_reads 130 = .ok (.iastore, 1) := by decide +kernel
theorem dX7_reads_131 : decode cX7_reads 131 = .ok (.aload_n 0, 1) := by decide +kernel
theorem dX7_reads_132 : decode cX7_reads 132 = .ok (.getfield 7, 3) := by decide +kernel
theorem dX7_reads_135 : decode cX7_reads 135 = .ok (.iload_n 2, 1) := by decide +kernel
theorem dX7_reads_136 : decode cX7_reads 136 = .ok (.iconst 2, 1) := by decide +kernel
theorem dX7_reads_137 : decode cX7_reads 137 = .ok (.iadd, 1) := by decide +kernel
theorem dX7_reads_138 : decode cX7_reads 138 = .ok (.iconst (-1), 1) := by decide +kernel
theorem dX7_reads_139 : decode cX7_reads 139 = .ok (.iastore, 1) := by decide +kernel
theorem dX7_reads_140 : decode cX7_reads 140 = .ok (.aload_n 0, 1) := by decide +kernel
theorem dX7_reads_141 : decode cX7_reads 141 = .ok (.getfield 7, 3) := by decide +kernel
theorem dX7_reads_144 : decode cX7_reads 144 = .ok (.iload_n 2, 1) := by decide +kernel
theorem dX7_reads_145 : decode cX7_reads 145 = .ok (.iconst 3, 1) := by decide +kernel
theorem dX7_reads_146 : decode cX7_reads 146 = .ok (.iadd, 1) := by decide +kernel
theorem dX7_reads_147 : decode cX7_reads 147 = .ok (.iconst 0, 1) := by decide +kernel
theorem dX7_reads_148 : decode cX7_reads 148 = .ok (.iastore, 1) := by decide +kernel
theorem dX7_reads_149 : decode cX7_reads 149 = .ok (.aload_n 0, 1) := by decide +kernel
theorem dX7_reads_150 : decode cX7_reads 150 = .ok (.getfield 7, 3) := by decide +kernel
theorem dX7_reads_153 : decode cX7_reads 153 = .ok (.iload_n 2, 1) := by decide +kernel
theorem dX7_reads_154 : decode cX7_reads 154 = .ok (.bipush 9, 2) := by decide +kernel
theorem dX7_reads_156 : decode cX7_reads 156 = .ok (.iadd, 1) := by decide +kernel
theorem dX7_reads_157 : decode cX7_reads 157 = .ok (.dup2, 1) := by decide +kernel
theorem dX7_reads_158 : decode cX7_reads 158 = .ok (.iaload, 1) := by decide +kernel
theorem dX7_reads_159 : decode cX7_reads 159 = .ok (.iconst 1, 1) := by decide +kernel
theorem dX7_reads_160 : decode cX7_reads 160 = .ok (.iadd, 1) := by decide +kernel
theorem dX7_reads_161 : decode cX7_reads 161 = .ok (.iastore, 1) := by decide +kernel
theorem dX7_reads_162 : decode cX7_reads 162 = .ok (.return_, 1) := by decide +kernel
set_option maxRecDepth 20000 in
theorem ggX7_comes_X7_accesses : GoodIn wsX7_comes wsX7_accesses := goodIn_r _ [6, 1, 7, 8, 5, 9, 10, 11, 12, 13, 14, 15, 16, 17, 18, 19, 20, 21, 46, 47, 48, 49, 50, 51, 52, 53, 54, 55, 56, 57, 58, 59] (by decide +kernel) (by decide +kernel)
set_option maxRecDepth 20000 in
theorem gX7_comes_X7_accesses : GoodIn wsX7_comes (wsV RX7 70 RX7 yX7_accesses wsX7_accesses) := goodIn_app (goodIn_of _ (by decide +kernel)) ggX7_comes_X7_accesses
set_option maxRecDepth 20000 in
theorem ggX7_comes_X7_joins : GoodIn wsX7_comes wsX7_joins := goodIn_r _ [25, 1, 46, 47, 48, 49, 50, 51, 52, 53, 54, 55, 56, 57, 58, 59] (by decide +kernel) (by decide +kernel)
set_option maxRecDepth 20000 in
theorem gX7_comes_X7_joins : GoodIn wsX7_comes (wsV RX7 74 RX7 yX7_joins wsX7_joins) := goodIn_app (goodIn_of _ (by decide +kernel)) ggX7_comes_X7_joins
set_option maxRecDepth 20000 in
theorem ggX7_comes_X7_number : GoodIn wsX7_comes wsX7_number := goodIn_r _ [17, 1, 46, 47, 48, 49, 50, 51, 52, 53, 54, 55, 56, 57, 58, 59] (by decide +kernel) (by decide +kernel)
set_option maxRecDepth 20000 in
theorem gX7_comes_X7_number : GoodIn wsX7_comes (wsV RX7 41 RX7 yX7_number wsX7_number) := goodIn_app (goodIn_of _ (by decide +kernel)) ggX7_comes_X7_number
set_option maxRecDepth 20000 in
theorem ggX7_comes_X7_writes : GoodIn wsX7_comes wsX7_writes := goodIn_r _ [29, 1, 14, 15, 16, 5, 17, 30, 31, 32, 33, 46, 47, 48, 49, 50, 51, 52, 53, 54, 55, 56, 57, 58, 59] (by decide +kernel) (by decide +kernel)
set_option maxRecDepth 20000 in
theorem gX7_comes_X7_writes : GoodIn wsX7_comes (wsV RX7 77 RX7 yX7_writes wsX7_writes) := goodIn_app (goodIn_of _ (by decide +kernel)) ggX7_comes_X7_writes
set_option maxRecDepth 20000 in
theorem ggX7_comes_X7_hasStep : GoodIn wsX7_comes wsX7_hasStep := goodIn_r _ [36] (by decide +kernel) (by decide +kernel)
set_option maxRecDepth 20000 in
theorem gX7_comes_X7_hasStep : GoodIn wsX7_comes (va_wsS RX7 81 yX7_hasStep wsX7_hasStep) := goodIn_app (goodIn_of _ (by decide +kernel)) ggX7_comes_X7_hasStep
set_option maxRecDepth 20000 in
theorem ggX7_comes_X7_isMuch : GoodIn wsX7_comes wsX7_isMuch := goodIn_r _ [40, 41, 14, 15, 16, 5, 17, 1, 46, 47, 48, 49, 50, 51, 52, 53, 54, 55, 56, 57, 58, 59] (by decide +kernel) (by decide +kernel)
set_option maxRecDepth 20000 in
theorem gX7_comes_X7_isMuch : GoodIn wsX7_comes (wsV RX7 84 RX7 yX7_isMuch wsX7_isMuch) := goodIn_app (goodIn_of _ (by decide +kernel)) ggX7_comes_X7_isMuch
set_option maxRecDepth 20000 in
theorem ggX7_comes_X7_steps : GoodIn wsX7_comes wsX7_steps := goodIn_r _ [45, 1, 46, 47, 48, 49, 50, 51, 52, 53, 54, 55, 56, 57, 58, 59] (by decide +kernel) (by decide +kernel)
set_option maxRecDepth 20000 in
theorem gX7_comes_X7_steps : GoodIn wsX7_comes (wsV RX7 87 RX7 yX7_steps wsX7_steps) := goodIn_app (goodIn_of _ (by decide +kernel)) ggX7_comes_X7_steps
theorem dX7_comes_0 : decode cX7_comes 0 = .ok (.iconst 4, 1) := by decide +kernel
theorem dX7_comes_1 : decode cX7_comes 1 = .ok (.iconst 4, 1) := by decide +kernel
theorem dX7_comes_2 : decode cX7_comes 2 = .ok (.iload_n 1, 1) := by decide +kernel
theorem dX7_comes_3 : decode cX7_comes 3 = .ok (.imul, 1) := by decide +kernel
theorem dX7_comes_4 : decode cX7_comes 4 = .ok (.iadd, 1) := by decide +kernel
theorem dX7_comes_5 : decode cX7_comes 5 = .ok (.istore 4, 2) := by decide +kernel
theorem dX7_comes_7 : decode cX7_comes 7 = .ok (.iload_n 2, 1) := by decide +kernel
theorem dX7_comes_8 : decode cX7_comes 8 = .ok (.tableswitch 190 0 6 #[44, 44, 63, 88, 137, 152, 167], 44) := by decide +kernel
theorem dX7_comes_52 : decode cX7_comes 52 = .ok (.aload_n 0, 1) := by decide +kernel
theorem dX7_comes_53 : decode cX7_comes 53 = .ok (.iload_n 1, 1) := by decide +kernel
theorem dX7_comes_54 : decode cX7_comes 54 = .ok (.iload_n 3, 1) := by decide +kernel
theorem dX7_comes_55 : decode cX7_comes 55 = .ok (.iload_n 2, 1) := by decide +kernel
theorem dX7_comes_56 : decode cX7_comes 56 = .ok (.iconst 1, 1) := by decide +kernel
theorem dX7_comes_57 : decode cX7_comes 57 = .ok (.if_icmp .ne 7, 3) := by decide +kernel
theorem dX7_comes_60 : decode cX7_comes 60 = .ok (.iconst 1, 1) := by decide +kernel
theorem dX7_comes_61 : decode cX7_comes 61 = .ok (.goto 4, 3) := by decide +kernel
theorem dX7_comes_64 : decode cX7_comes 64 = .ok (.iconst 0, 1) := by decide +kernel
theorem dX7_comes_65 : decode cX7_comes 65 = .ok (.invokevirtual 70, 3) := by decide +kernel
theorem dX7_comes_68 : decode cX7_comes 68 = .ok (.goto 150, 3) := by decide +kernel
theorem dX7_comes_71 : decode cX7_comes 71 = .ok (.aload_n 0, 1) := by decide +kernel
theorem dX7_comes_72 : decode cX7_comes 72 = .ok (.iload 4, 2) := by decide +kernel
theorem dX7_comes_74 : decode cX7_comes 74 = .ok (.bipush 20, 2) := by decide +kernel
theorem dX7_comes_76 : decode cX7_comes 76 = .ok (.iconst 4, 1) := by decide +kernel
theorem dX7_comes_77 : decode cX7_comes 77 = .ok (.iload_n 3, 1) := by decide +kernel
theorem dX7_comes_78 : decode cX7_comes 78 = .ok (.imul, 1) := by decide +kernel
theorem dX7_comes_79 : decode cX7_comes 79 = .ok (.iadd, 1) := by decide +kernel
theorem dX7_comes_80 : decode cX7_comes 80 = .ok (.invokevirtual 74, 3) := by decide +kernel
theorem dX7_comes_83 : decode cX7_comes 83 = .ok (.aload_n 0, 1) := by decide +kernel
theorem dX7_comes_84 : decode cX7_comes 84 = .ok (.getfield 7, 3) := by decide +kernel
theorem dX7_comes_87 : decode cX7_comes 87 = .ok (.bipush 40, 2) := by decide +kernel
theorem dX7_comes_89 : decode cX7_comes 89 = .ok (.iload_n 3, 1) := by decide +kernel
theorem dX7_comes_90 : decode cX7_comes 90 = .ok (.iadd, 1) := by decide +kernel
theorem dX7_comes_91 : decode cX7_comes 91 = .ok (.iload_n 1, 1) := by decide +kernel
theorem dX7_comes_92 : decode cX7_comes 92 = .ok (.iastore, 1) := by decide +kernel
theorem dX7_comes_93 : decode cX7_comes 93 = .ok (.goto 125, 3) := by decide +kernel
theorem dX7_comes_96 : decode cX7_comes 96 = .ok (.aload_n 0, 1) := by decide +kernel
theorem dX7_comes_97 : decode cX7_comes 97 = .ok (.getfield 7, 3) := by decide +kernel
theorem dX7_comes_100 : decode cX7_comes 100 = .ok (.bipush 40, 2) := by decide +kernel
theorem dX7_comes_102 : decode cX7_comes 102 = .ok (.iload_n 3, 1) := by decide +kernel
theorem dX7_comes_103 : decode cX7_comes 103 = .ok (.iadd, 1) := by decide +kernel
theorem dX7_comes_104 : decode cX7_comes 104 = .ok (.iconst (-1), 1) := by decide +kernel
theorem dX7_comes_105 : decode cX7_comes 105 = .ok (.iastore, 1) := by decide +kernel
theorem dX7_comes_106 : decode cX7_comes 106 = .ok (.iconst 0, 1) := by decide +kernel
theorem dX7_comes_107 : decode cX7_comes 107 = .ok (.istore 5, 2) := by decide +kernel
theorem dX7_comes_109 : decode cX7_comes 109 = .ok (.iload 5, 2) := by decide +kernel
theorem dX7_comes_111 : decode cX7_comes 111 = .ok (.iconst 4, 1) := by decide +kernel
theorem dX7_comes_112 : decode cX7_comes 112 = .ok (.if_icmp .ge 30, 3) := by decide +kernel
theorem dX7_comes_115 : decode cX7_comes 115 = .ok (.aload_n 0, 1) := by decide +kernel
theorem dX7_comes_116 : decode cX7_comes 116 = .ok (.getfield 7, 3) := by decide +kernel
theorem dX7_comes_119 : decode cX7_comes 119 = .ok (.bipush 20, 2) := by decide +kernel
theorem dX7_comes_121 : decode cX7_comes 121 = .ok (.iconst 4, 1) := by decide +kernel
theorem dX7_comes_122 : decode cX7_comes 122 = .ok (.iload_n 3, 1) := by decide +kernel
theorem dX7_comes_123 : decode cX7_comes 123 = .ok (.imul, 1) := by decide +kernel
theorem dX7_comes_124 : decode cX7_comes 124 = .ok (.iadd, 1) := by decide +kernel
theorem dX7_comes_125 : decode cX7_comes 125 = .ok (.iload 5, 2) := by decide +kernel
theorem dX7_comes_127 : decode cX7_comes 127 = .ok (.iadd, 1) := by decide +kernel
theorem dX7_comes_128 : decode cX7_comes 128 = .ok (.aload_n 0, 1) := by decide +kernel
theorem dX7_comes_129 : decode cX7_comes 129 = .ok (.iload_n 1, 1) := by decide +kernel
theorem dX7_comes_130 : decode cX7_comes 130 = .ok (.iload 5, 2) := by decide +kernel
theorem dX7_comes_132 : decode cX7_comes 132 = .ok (.invokevirtual 41, 3) := by decide +kernel
theorem dX7_comes_135 : decode cX7_comes 135 = .ok (.iastore, 1) := by decide +kernel
theorem dX7_comes_136 : decode cX7_comes 136 = .ok (.iinc 5 1, 3) := by decide +kernel
theorem dX7_comes_139 : decode cX7_comes 139 = .ok (.goto (-30), 3) := by decide +kernel
theorem dX7_comes_142 : decode cX7_comes 142 = .ok (.goto 76, 3) := by decide +kernel
theorem dX7_comes_145 : decode cX7_comes 145 = .ok (.aload_n 0, 1) := by decide +kernel
theorem dX7_comes_146 : decode cX7_comes 146 = .ok (.bipush 32, 2) := by decide +kernel
theorem dX7_comes_148 : decode cX7_comes 148 = .ok (.iconst 4, 1) := by decide +kernel
theorem dX7_comes_149 : decode cX7_comes 149 = .ok (.iload_n 3, 1) := by decide +kernel
theorem dX7_comes_150 : decode cX7_comes 150 = .ok (.imul, 1) := by decide +kernel
theorem dX7_comes_151 : decode cX7_comes 151 = .ok (.iadd, 1) := by decide +kernel
theorem dX7_comes_152 : decode cX7_comes 152 = .ok (.iload 4, 2) := by decide +kernel
theorem dX7_comes_154 : decode cX7_comes 154 = .ok (.invokevirtual 74, 3) := by decide +kernel
theorem dX7_comes_157 : decode cX7_comes 157 = .ok (.goto 61, 3) := by decide +kernel
theorem dX7_comes_160 : decode cX7_comes 160 = .ok (.aload_n 0, 1) := by decide +kernel
theorem dX7_comes_161 : decode cX7_comes 161 = .ok (.iload 4, 2) := by decide +kernel
theorem dX7_comes_163 : decode cX7_comes 163 = .ok (.bipush 32, 2) := by decide +kernel
theorem dX7_comes_165 : decode cX7_comes 165 = .ok (.iconst 4, 1) := by decide +kernel
theorem dX7_comes_166 : decode cX7_comes 166 = .ok (.iload_n 3, 1) := by decide +kernel
theorem dX7_comes_167 : decode cX7_comes 167 = .ok (.imul, 1) := by decide +kernel
theorem dX7_comes_168 : decode cX7_comes 168 = .ok (.iadd, 1) := by decide +kernel
theorem dX7_comes_169 : decode cX7_comes 169 = .ok (.invokevirtual 74, 3) := by decide +kernel
theorem dX7_comes_172 : decode cX7_comes 172 = .ok (.goto 46, 3) := by decide +kernel
theorem dX7_comes_175 : decode cX7_comes 175 = .ok (.aload_n 0, 1) := by decide +kernel
theorem dX7_comes_176 : decode cX7_comes 176 = .ok (.iconst 4, 1) := by decide +kernel
theorem dX7_comes_177 : decode cX7_comes 177 = .ok (.iconst 4, 1) := by decide +kernel
theorem dX7_comes_178 : decode cX7_comes 178 = .ok (.iload_n 3, 1) := by decide +kernel
theorem dX7_comes_179 : decode cX7_comes 179 = .ok (.imul, 1) := by decide +kernel
theorem dX7_comes_180 : decode cX7_comes 180 = .ok (.iadd, 1) := by decide +kernel
theorem dX7_comes_181 : decode cX7_comes 181 = .ok (.iload 4, 2) := by decide +kernel
theorem dX7_comes_183 : decode cX7_comes 183 = .ok (.invokevirtual 74, 3) := by decide +kernel
theorem dX7_comes_186 : decode cX7_comes 186 = .ok (.aload_n 0, 1) := by decide +kernel
theorem dX7_comes_187 : decode cX7_comes 187 = .ok (.getfield 7, 3) := by decide +kernel
theorem dX7_comes_190 : decode cX7_comes 190 = .ok (.iconst 0, 1) := by decide +kernel
theorem dX7_comes_191 : decode cX7_comes 191 = .ok (.iload_n 3, 1) := by decide +kernel
theorem dX7_comes_192 : decode cX7_comes 192 = .ok (.iadd, 1) := by decide +kernel
theorem dX7_comes_193 : decode cX7_comes 193 = .ok (.iconst 1, 1) := by decide +kernel
theorem dX7_comes_194 : decode cX7_comes 194 = .ok (.iastore, 1) := by decide +kernel
theorem dX7_comes_195 : decode cX7_comes 195 = .ok (.goto 23, 3) := by decide +kernel
theorem dX7_comes_198 : decode cX7_comes 198 = .ok (.aload_n 0, 1) := by decide +kernel
theorem dX7_comes_199 : decode cX7_comes 199 = .ok (.iload 4, 2) := by decide +kernel
theorem dX7_comes_201 : decode cX7_comes 201 = .ok (.iconst 4, 1) := by decide +kernel
theorem dX7_comes_202 : decode cX7_comes 202 = .ok (.iconst 4, 1) := by decide +kernel
theorem dX7_comes_203 : decode cX7_comes 203 = .ok (.iload_n 3, 1) := by decide +kernel
theorem dX7_comes_204 : decode cX7_comes 204 = .ok (.imul, 1) := by decide +kernel
theorem dX7_comes_205 : decode cX7_comes 205 = .ok (.iadd, 1) := by decide +kernel
theorem dX7_comes_206 : decode cX7_comes 206 = .ok (.invokevirtual 74, 3) := by decide +kernel
theorem dX7_comes_209 : decode cX7_comes 209 = .ok (.aload_n 0, 1) := by decide +kernel
theorem dX7_comes_210 : decode cX7_comes 210 = .ok (.getfield 7, 3) := by decide +kernel
theorem dX7_comes_213 : decode cX7_comes 213 = .ok (.iconst 0, 1) := by decide +kernel
theorem dX7_comes_214 : decode cX7_comes 214 = .ok (.iload_n 3, 1) := by decide +kernel
theorem dX7_comes_215 : decode cX7_comes 215 = .ok (.iadd, 1) := by decide +kernel
theorem dX7_comes_216 : decode cX7_comes 216 = .ok (.iconst 2, 1) := by decide +kernel
theorem dX7_comes_217 : decode cX7_comes 217 = .ok (.iastore, 1) := by decide +kernel
theorem dX7_comes_218 : decode cX7_comes 218 = .ok (.aload_n 0, 1) := by decide +kernel
theorem dX7_comes_219 : decode cX7_comes 219 = .ok (.iload_n 1, 1) := by decide +kernel
theorem dX7_comes_220 : decode cX7_comes 220 = .ok (.iload_n 2, 1) := by decide +kernel
theorem dX7_comes_221 : decode cX7_comes 221 = .ok (.iload_n 3, 1) := by decide +kernel
theorem dX7_comes_222 : decode cX7_comes 222 = .ok (.invokevirtual 77, 3) := by decide +kernel
theorem dX7_comes_225 : decode cX7_comes 225 = .ok (.iload_n 2, 1) := by decide +kernel
theorem dX7_comes_226 : decode cX7_comes 226 = .ok (.invokestatic 81, 3) := by decide +kernel
theorem dX7_comes_229 : decode cX7_comes 229 = .ok (.ifCond .eq 16, 3) := by decide +kernel
theorem dX7_comes_232 : decode cX7_comes 232 = .ok (.aload_n 0, 1) := by decide +kernel
theorem dX7_comes_233 : decode cX7_comes 233 = .ok (.iload_n 1, 1) := by decide +kernel
theorem dX7_comes_234 : decode cX7_comes 234 = .ok (.invokevirtual 84, 3) := by decide +kernel
theorem dX7_comes_237 : decode cX7_comes 237 = .ok (.ifCond .ne 8, 3) := by decide +kernel
theorem dX7_comes_240 : decode cX7_comes 240 = .ok (.aload_n 0, 1) := by decide +kernel
theorem dX7_comes_241 : decode cX7_comes 241 = .ok (.iload_n 1, 1) := by decide +kernel
theorem dX7_comes_242 : decode cX7_comes 242 = .ok (.invokevirtual 87, 3) := by decide +kernel
theorem dX7_comes_245 : decode cX7_comes 245 = .ok (.return_, 1) := by decide +kernel
set_option maxRecDepth 20000 in
theorem ggX7_event_X7_isThread : GoodIn wsX7_event wsX7_isThread := goodIn_r _ [11, 12, 13, 14, 10, 15] (by decide +kernel) (by decide +kernel)
set_option maxRecDepth 20000 in
theorem gX7_event_X7_isThread : GoodIn wsX7_event (va_wsS RX7 56 yX7_isThread wsX7_isThread) := goodIn_app (goodIn_of _ (by decide +kernel)) ggX7_event_X7_isThread
set_option maxRecDepth 20000 in
theorem ggX7_event_X7_in : GoodIn wsX7_event wsX7_in := goodIn_r _ [15] (by decide +kernel) (by decide +kernel)
set_option maxRecDepth 20000 in
theorem gX7_event_X7_in : GoodIn wsX7_event (va_wsS RX7 31 yX7_in wsX7_in) := goodIn_app (goodIn_of _ (by decide +kernel)) ggX7_event_X7_in
set_option maxRecDepth 20000 in
theorem ggX7_event_X7_isWith : GoodIn wsX7_event wsX7_isWith := goodIn_r _ [18, 19, 20, 10, 21, 12, 13, 14, 15, 22, 23, 24, 25, 26, 27, 28, 8, 9, 11] (by decide +kernel) (by decide +kernel)
set_option maxRecDepth 20000 in
theorem gX7_event_X7_isWith : GoodIn wsX7_event (va_wsS RX7 93 yX7_isWith wsX7_isWith) := goodIn_app (goodIn_of _ (by decide +kernel)) ggX7_event_X7_isWith
set_option maxRecDepth 20000 in
theorem ggX7_event_X7_can : GoodIn wsX7_event wsX7_can := goodIn_r _ [32, 5, 33, 34, 35, 10, 36, 80, 81, 82, 83, 84, 85, 86, 87, 88, 89, 90, 91, 92, 93] (by decide +kernel) (by decide +kernel)
set_option maxRecDepth 20000 in
theorem gX7_event_X7_can : GoodIn wsX7_event (wsV RX7 99 RX7 yX7_can wsX7_can) := goodIn_app (goodIn_of _ (by decide +kernel)) ggX7_event_X7_can
set_option maxRecDepth 20000 in
theorem ggX7_event_X7_hasStep : GoodIn wsX7_event wsX7_hasStep := goodIn_r _ [39] (by decide +kernel) (by decide +kernel)
set_option maxRecDepth 20000 in
theorem gX7_event_X7_hasStep : GoodIn wsX7_event (va_wsS RX7 81 yX7_hasStep wsX7_hasStep) := goodIn_app (goodIn_of _ (by decide +kernel)) ggX7_event_X7_hasStep
set_option maxRecDepth 20000 in
theorem ggX7_event_X7_isMuch : GoodIn wsX7_event wsX7_isMuch := goodIn_r _ [43, 44, 45, 46, 47, 10, 48, 5, 80, 81, 82, 83, 84, 85, 86, 87, 88, 89, 90, 91, 92, 93] (by decide +kernel) (by decide +kernel)
set_option maxRecDepth 20000 in
theorem gX7_event_X7_isMuch : GoodIn wsX7_event (wsV RX7 84 RX7 yX7_isMuch wsX7_isMuch) := goodIn_app (goodIn_of _ (by decide +kernel)) ggX7_event_X7_isMuch
set_option maxRecDepth 20000 in
theorem ggX7_event_X7_comes : GoodIn wsX7_event wsX7_comes := goodIn_r _ [52, 5, 53, 54, 55, 10, 56, 57, 58, 59, 60, 61, 62, 63, 45, 46, 47, 48, 64, 65, 66, 67, 68, 69, 70, 71, 72, 73, 74, 75, 33, 34, 35, 36, 37, 38, 39, 40, 41, 42, 43, 44, 76, 77, 78, 79, 80, 81, 82, 83, 84, 85, 86, 87, 88, 89, 90, 91, 92, 93] (by decide +kernel) (by decide +kernel)
set_option maxRecDepth 20000 in
theorem gX7_event_X7_comes : GoodIn wsX7_event (wsV RX7 105 RX7 yX7_comes wsX7_comes) := goodIn_app (goodIn_of _ (by decide +kernel)) ggX7_event_X7_comes
theorem dX7_event_0 : decode cX7_event 0 = .ok (.iload_n 1, 1) := by decide +kernel
theorem dX7_event_1 : decode cX7_event 1 = .ok (.invokestatic 56, 3) := by decide +kernel
theorem dX7_event_4 : decode cX7_event 4 = .ok (.ifCond .eq 24, 3) := by decide +kernel
theorem dX7_event_7 : decode cX7_event 7 = .ok (.iload_n 2, 1) := by decide +kernel
theorem dX7_event_8 : decode cX7_event 8 = .ok (.i2l, 1) := by decide +kernel
theorem dX7_event_9 : decode cX7_event 9 = .ok (.lconst 0, 1) := by decide +kernel
theorem dX7_event_10 : decode cX7_event 10 = .ok (.ldc2_w 91, 3) := by decide +kernel
theorem dX7_event_13 : decode cX7_event 13 = .ok (.invokestatic 31, 3) := by decide +kernel
theorem dX7_event_16 : decode cX7_event 16 = .ok (.ifCond .eq 15, 3) := by decide +kernel
theorem dX7_event_19 : decode cX7_event 19 = .ok (.iload_n 1, 1) := by decide +kernel
theorem dX7_event_20 : decode cX7_event 20 = .ok (.iload_n 2, 1) := by decide +kernel
theorem dX7_event_21 : decode cX7_event 21 = .ok (.iload_n 3, 1) := by decide +kernel
theorem dX7_event_22 : decode cX7_event 22 = .ok (.invokestatic 93, 3) := by decide +kernel
theorem dX7_event_25 : decode cX7_event 25 = .ok (.ifCond .ne 6, 3) := by decide +kernel
theorem dX7_event_28 : decode cX7_event 28 = .ok (.ldc 97, 2) := by decide +kernel
theorem dX7_event_30 : decode cX7_event 30 = .ok (.ireturn, 1) := by decide +kernel
theorem dX7_event_31 : decode cX7_event 31 = .ok (.iload_n 2, 1) := by decide +kernel
theorem dX7_event_32 : decode cX7_event 32 = .ok (.i2l, 1) := by decide +kernel
theorem dX7_event_33 : decode cX7_event 33 = .ok (.lconst 0, 1) := by decide +kernel
theorem dX7_event_34 : decode cX7_event 34 = .ok (.ldc2_w 91, 3) := by decide +kernel
theorem dX7_event_37 : decode cX7_event 37 = .ok (.invokestatic 31, 3) := by decide +kernel
theorem dX7_event_40 : decode cX7_event 40 = .ok (.ifCond .ne 6, 3) := by decide +kernel
theorem dX7_event_43 : decode cX7_event 43 = .ok (.ldc 98, 2) := by decide +kernel
theorem dX7_event_45 : decode cX7_event 45 = .ok (.ireturn, 1) := by decide +kernel
theorem dX7_event_46 : decode cX7_event 46 = .ok (.aload_n 0, 1) := by decide +kernel
theorem dX7_event_47 : decode cX7_event 47 = .ok (.iload_n 1, 1) := by decide +kernel
theorem dX7_event_48 : decode cX7_event 48 = .ok (.iload_n 2, 1) := by decide +kernel
theorem dX7_event_49 : decode cX7_event 49 = .ok (.iload_n 3, 1) := by decide +kernel
theorem dX7_event_50 : decode cX7_event 50 = .ok (.invokevirtual 99, 3) := by decide +kernel
theorem dX7_event_53 : decode cX7_event 53 = .ok (.ifCond .ne 6, 3) := by decide +kernel
theorem dX7_event_56 : decode cX7_event 56 = .ok (.ldc 102, 2) := by decide +kernel
theorem dX7_event_58 : decode cX7_event 58 = .ok (.ireturn, 1) := by decide +kernel
theorem dX7_event_59 : decode cX7_event 59 = .ok (.aload_n 0, 1) := by decide +kernel
theorem dX7_event_60 : decode cX7_event 60 = .ok (.getfield 7, 3) := by decide +kernel
theorem dX7_event_63 : decode cX7_event 63 = .ok (.bipush 91, 2) := by decide +kernel
theorem dX7_event_65 : decode cX7_event 65 = .ok (.iaload, 1) := by decide +kernel
theorem dX7_event_66 : decode cX7_event 66 = .ok (.sipush 160, 3) := by decide +kernel
theorem dX7_event_69 : decode cX7_event 69 = .ok (.if_icmp .ne 6, 3) := by decide +kernel
theorem dX7_event_72 : decode cX7_event 72 = .ok (.ldc 103, 2) := by decide +kernel
theorem dX7_event_74 : decode cX7_event 74 = .ok (.ireturn, 1) := by decide +kernel
theorem dX7_event_75 : decode cX7_event 75 = .ok (.iload_n 2, 1) := by decide +kernel
theorem dX7_event_76 : decode cX7_event 76 = .ok (.invokestatic 81, 3) := by decide +kernel
theorem dX7_event_79 : decode cX7_event 79 = .ok (.ifCond .eq 14, 3) := by decide +kernel
theorem dX7_event_82 : decode cX7_event 82 = .ok (.aload_n 0, 1) := by decide +kernel
theorem dX7_event_83 : decode cX7_event 83 = .ok (.iload_n 1, 1) := by decide +kernel
theorem dX7_event_84 : decode cX7_event 84 = .ok (.invokevirtual 84, 3) := by decide +kernel
theorem dX7_event_87 : decode cX7_event 87 = .ok (.ifCond .eq 6, 3) := by decide +kernel
theorem dX7_event_90 : decode cX7_event 90 = .ok (.ldc 104, 2) := by decide +kernel
theorem dX7_event_92 : decode cX7_event 92 = .ok (.ireturn, 1) := by decide +kernel
theorem dX7_event_93 : decode cX7_event 93 = .ok (.aload_n 0, 1) := by decide +kernel
