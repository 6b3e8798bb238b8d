theorem dX7_event_94 : decode cX7_event 94 = .ok (.iload_n 1, 1) := by decide +kernel
theorem dX7_event_95 : decode cX7_event 95 = .ok (.iload_n 2, 1) := by decide +kernel
theorem dX7_event_96 : decode cX7_event 96 = .ok (.iload_n 3, 1) := by decide +kernel
theorem dX7_event_97 : decode cX7_event 97 = .ok (.invokevirtual 105, 3) := by decide +kernel
theorem dX7_event_100 : decode cX7_event 100 = .ok (.aload_n 0, 1) := by decide +kernel
theorem dX7_event_101 : decode cX7_event 101 = .ok (.getfield 7, 3) := by decide +kernel
theorem dX7_event_104 : decode cX7_event 104 = .ok (.bipush 91, 2) := by decide +kernel
theorem dX7_event_106 : decode cX7_event 106 = .ok (.iaload, 1) := by decide +kernel
theorem dX7_event_107 : decode cX7_event 107 = .ok (.iconst 1, 1) := by decide +kernel
theorem dX7_event_108 : decode cX7_event 108 = .ok (.isub, 1) := by decide +kernel
theorem dX7_event_109 : decode cX7_event 109 = .ok (.ireturn, 1) := by decide +kernel
set_option maxRecDepth 20000 in
theorem ggX7_jump_X7_isThread : GoodIn wsX7_jump wsX7_isThread := goodIn_r _ [10, 11, 12, 13, 9, 14] (by decide +kernel) (by decide +kernel)
set_option maxRecDepth 20000 in
theorem gX7_jump_X7_isThread : GoodIn wsX7_jump (va_wsS RX7 56 yX7_isThread wsX7_isThread) := goodIn_app (goodIn_of _ (by decide +kernel)) ggX7_jump_X7_isThread
set_option maxRecDepth 20000 in
theorem ggX7_jump_X7_number : GoodIn wsX7_jump wsX7_number := goodIn_r _ [18, 3, 19, 20, 21, 22, 23, 24, 25, 26, 27, 28, 29, 30, 31, 32] (by decide +kernel) (by decide +kernel)
set_option maxRecDepth 20000 in
theorem gX7_jump_X7_number : GoodIn wsX7_jump (wsV RX7 41 RX7 yX7_number wsX7_number) := goodIn_app (goodIn_of _ (by decide +kernel)) ggX7_jump_X7_number
theorem dX7_jump_0 : decode cX7_jump 0 = .ok (.iload_n 1, 1) := by decide +kernel
theorem dX7_jump_1 : decode cX7_jump 1 = .ok (.invokestatic 56, 3) := by decide +kernel
theorem dX7_jump_4 : decode cX7_jump 4 = .ok (.ifCond .ne 6, 3) := by decide +kernel
theorem dX7_jump_7 : decode cX7_jump 7 = .ok (.ldc 97, 2) := by decide +kernel
theorem dX7_jump_9 : decode cX7_jump 9 = .ok (.ireturn, 1) := by decide +kernel
theorem dX7_jump_10 : decode cX7_jump 10 = .ok (.iload_n 2, 1) := by decide +kernel
theorem dX7_jump_11 : decode cX7_jump 11 = .ok (.iconst 1, 1) := by decide +kernel
theorem dX7_jump_12 : decode cX7_jump 12 = .ok (.if_icmp .ge 6, 3) := by decide +kernel
theorem dX7_jump_15 : decode cX7_jump 15 = .ok (.ldc 98, 2) := by decide +kernel
theorem dX7_jump_17 : decode cX7_jump 17 = .ok (.ireturn, 1) := by decide +kernel
theorem dX7_jump_18 : decode cX7_jump 18 = .ok (.aload_n 0, 1) := by decide +kernel
theorem dX7_jump_19 : decode cX7_jump 19 = .ok (.getfield 7, 3) := by decide +kernel
theorem dX7_jump_22 : decode cX7_jump 22 = .ok (.iconst 0, 1) := by decide +kernel
theorem dX7_jump_23 : decode cX7_jump 23 = .ok (.iload_n 1, 1) := by decide +kernel
theorem dX7_jump_24 : decode cX7_jump 24 = .ok (.iadd, 1) := by decide +kernel
theorem dX7_jump_25 : decode cX7_jump 25 = .ok (.iaload, 1) := by decide +kernel
theorem dX7_jump_26 : decode cX7_jump 26 = .ok (.iconst 1, 1) := by decide +kernel
theorem dX7_jump_27 : decode cX7_jump 27 = .ok (.if_icmp .eq 6, 3) := by decide +kernel
theorem dX7_jump_30 : decode cX7_jump 30 = .ok (.ldc 102, 2) := by decide +kernel
theorem dX7_jump_32 : decode cX7_jump 32 = .ok (.ireturn, 1) := by decide +kernel
theorem dX7_jump_33 : decode cX7_jump 33 = .ok (.aload_n 0, 1) := by decide +kernel
theorem dX7_jump_34 : decode cX7_jump 34 = .ok (.iload_n 1, 1) := by decide +kernel
theorem dX7_jump_35 : decode cX7_jump 35 = .ok (.iload_n 1, 1) := by decide +kernel
theorem dX7_jump_36 : decode cX7_jump 36 = .ok (.invokevirtual 41, 3) := by decide +kernel
theorem dX7_jump_39 : decode cX7_jump 39 = .ok (.i2l, 1) := by decide +kernel
theorem dX7_jump_40 : decode cX7_jump 40 = .ok (.iload_n 2, 1) := by decide +kernel
theorem dX7_jump_41 : decode cX7_jump 41 = .ok (.i2l, 1) := by decide +kernel
theorem dX7_jump_42 : decode cX7_jump 42 = .ok (.ladd, 1) := by decide +kernel
theorem dX7_jump_43 : decode cX7_jump 43 = .ok (.ldc2_w 108, 3) := by decide +kernel
theorem dX7_jump_46 : decode cX7_jump 46 = .ok (.lcmp, 1) := by decide +kernel
theorem dX7_jump_47 : decode cX7_jump 47 = .ok (.ifCond .le 6, 3) := by decide +kernel
theorem dX7_jump_50 : decode cX7_jump 50 = .ok (.ldc 104, 2) := by decide +kernel
theorem dX7_jump_52 : decode cX7_jump 52 = .ok (.ireturn, 1) := by decide +kernel
theorem dX7_jump_53 : decode cX7_jump 53 = .ok (.aload_n 0, 1) := by decide +kernel
theorem dX7_jump_54 : decode cX7_jump 54 = .ok (.getfield 7, 3) := by decide +kernel
theorem dX7_jump_57 : decode cX7_jump 57 = .ok (.iconst 4, 1) := by decide +kernel
theorem dX7_jump_58 : decode cX7_jump 58 = .ok (.iconst 5, 1) := by decide +kernel
theorem dX7_jump_59 : decode cX7_jump 59 = .ok (.iload_n 1, 1) := by decide +kernel
theorem dX7_jump_60 : decode cX7_jump 60 = .ok (.imul, 1) := by decide +kernel
theorem dX7_jump_61 : decode cX7_jump 61 = .ok (.iadd, 1) := by decide +kernel
theorem dX7_jump_62 : decode cX7_jump 62 = .ok (.dup2, 1) := by decide +kernel
theorem dX7_jump_63 : decode cX7_jump 63 = .ok (.iaload, 1) := by decide +kernel
theorem dX7_jump_64 : decode cX7_jump 64 = .ok (.iload_n 2, 1) := by decide +kernel
theorem dX7_jump_65 : decode cX7_jump 65 = .ok (.iadd, 1) := by decide +kernel
theorem dX7_jump_66 : decode cX7_jump 66 = .ok (.iastore, 1) := by decide +kernel
theorem dX7_jump_67 : decode cX7_jump 67 = .ok (.aload_n 0, 1) := by decide +kernel
theorem dX7_jump_68 : decode cX7_jump 68 = .ok (.iload_n 1, 1) := by decide +kernel
theorem dX7_jump_69 : decode cX7_jump 69 = .ok (.iload_n 1, 1) := by decide +kernel
theorem dX7_jump_70 : decode cX7_jump 70 = .ok (.invokevirtual 41, 3) := by decide +kernel
theorem dX7_jump_73 : decode cX7_jump 73 = .ok (.ireturn, 1) := by decide +kernel
theorem dX7_draw_0 : decode cX7_draw 0 = .ok (.aload_n 0, 1) := by decide +kernel
theorem dX7_draw_1 : decode cX7_draw 1 = .ok (.aload_n 0, 1) := by decide +kernel
theorem dX7_draw_2 : decode cX7_draw 2 = .ok (.getfield 110, 3) := by decide +kernel
theorem dX7_draw_5 : decode cX7_draw 5 = .ok (.ldc2_w 114, 3) := by decide +kernel
theorem dX7_draw_8 : decode cX7_draw 8 = .ok (.lmul, 1) := by decide +kernel
theorem dX7_draw_9 : decode cX7_draw 9 = .ok (.ldc2_w 108, 3) := by decide +kernel
theorem dX7_draw_12 : decode cX7_draw 12 = .ok (.lrem, 1) := by decide +kernel
theorem dX7_draw_13 : decode cX7_draw 13 = .ok (.putfield 110, 3) := by decide +kernel
theorem dX7_draw_16 : decode cX7_draw 16 = .ok (.aload_n 0, 1) := by decide +kernel
theorem dX7_draw_17 : decode cX7_draw 17 = .ok (.getfield 110, 3) := by decide +kernel
theorem dX7_draw_20 : decode cX7_draw 20 = .ok (.iload_n 1, 1) := by decide +kernel
theorem dX7_draw_21 : decode cX7_draw 21 = .ok (.i2l, 1) := by decide +kernel
theorem dX7_draw_22 : decode cX7_draw 22 = .ok (.lrem, 1) := by decide +kernel
theorem dX7_draw_23 : decode cX7_draw 23 = .ok (.l2i, 1) := by decide +kernel
theorem dX7_draw_24 : decode cX7_draw 24 = .ok (.ireturn, 1) := by decide +kernel
set_option maxRecDepth 20000 in
theorem ggX7_drift_X7_in : GoodIn wsX7_drift wsX7_in := goodIn_r _ [8] (by decide +kernel) (by decide +kernel)
set_option maxRecDepth 20000 in
theorem gX7_drift_X7_in : GoodIn wsX7_drift (va_wsS RX7 31 yX7_in wsX7_in) := goodIn_app (goodIn_of _ (by decide +kernel)) ggX7_drift_X7_in
set_option maxRecDepth 20000 in
theorem ggX7_drift_X7_draw : GoodIn wsX7_drift wsX7_draw := goodIn_r _ [12, 4, 13, 14, 93, 94, 95, 96, 97, 98, 99, 100, 101, 102, 103, 104, 105, 106] (by decide +kernel) (by decide +kernel)
set_option maxRecDepth 20000 in
theorem gX7_drift_X7_draw : GoodIn wsX7_drift (wsV RX7 120 RX7 yX7_draw wsX7_draw) := goodIn_app (goodIn_of _ (by decide +kernel)) ggX7_drift_X7_draw
set_option maxRecDepth 20000 in
theorem ggX7_drift_X7_event : GoodIn wsX7_drift wsX7_event := goodIn_r _ [18, 19, 20, 3, 21, 22, 23, 24, 25, 26, 7, 27, 28, 5, 6, 8, 29, 30, 31, 32, 33, 34, 35, 36, 37, 38, 39, 40, 41, 42, 43, 44, 45, 46, 47, 48, 49, 50, 51, 52, 53, 54, 55, 56, 57, 58, 59, 60, 61, 62, 63, 64, 65, 66, 67, 68, 69, 70, 71, 72, 73, 74, 75, 76, 77, 78, 79, 80, 81, 82, 83, 84, 85, 86, 87, 88, 89, 90, 91, 92, 93, 94, 95, 96, 97, 98, 99, 100, 101, 102, 103, 104, 105, 106] (by decide +kernel) (by decide +kernel)
set_option maxRecDepth 20000 in
theorem gX7_drift_X7_event : GoodIn wsX7_drift (wsV RX7 123 RX7 yX7_event wsX7_event) := goodIn_app (goodIn_of _ (by decide +kernel)) ggX7_drift_X7_event
theorem dX7_drift_0 : decode cX7_drift 0 = .ok (.iload_n 1, 1) := by decide +kernel
theorem dX7_drift_1 : decode cX7_drift 1 = .ok (.i2l, 1) := by decide +kernel
theorem dX7_drift_2 : decode cX7_drift 2 = .ok (.lconst 1, 1) := by decide +kernel
theorem dX7_drift_3 : decode cX7_drift 3 = .ok (.ldc2_w 116, 3) := by decide +kernel
theorem dX7_drift_6 : decode cX7_drift 6 = .ok (.invokestatic 31, 3) := by decide +kernel
theorem dX7_drift_9 : decode cX7_drift 9 = .ok (.ifCond .eq 15, 3) := by decide +kernel
theorem dX7_drift_12 : decode cX7_drift 12 = .ok (.iload_n 2, 1) := by decide +kernel
theorem dX7_drift_13 : decode cX7_drift 13 = .ok (.i2l, 1) := by decide +kernel
theorem dX7_drift_14 : decode cX7_drift 14 = .ok (.lconst 1, 1) := by decide +kernel
theorem dX7_drift_15 : decode cX7_drift 15 = .ok (.ldc2_w 118, 3) := by decide +kernel
theorem dX7_drift_18 : decode cX7_drift 18 = .ok (.invokestatic 31, 3) := by decide +kernel
theorem dX7_drift_21 : decode cX7_drift 21 = .ok (.ifCond .ne 6, 3) := by decide +kernel
theorem dX7_drift_24 : decode cX7_drift 24 = .ok (.ldc 98, 2) := by decide +kernel
theorem dX7_drift_26 : decode cX7_drift 26 = .ok (.ireturn, 1) := by decide +kernel
theorem dX7_drift_27 : decode cX7_drift 27 = .ok (.aload_n 0, 1) := by decide +kernel
theorem dX7_drift_28 : decode cX7_drift 28 = .ok (.iload_n 2, 1) := by decide +kernel
theorem dX7_drift_29 : decode cX7_drift 29 = .ok (.i2l, 1) := by decide +kernel
theorem dX7_drift_30 : decode cX7_drift 30 = .ok (.putfield 110, 3) := by decide +kernel
theorem dX7_drift_33 : decode cX7_drift 33 = .ok (.iconst 0, 1) := by decide +kernel
theorem dX7_drift_34 : decode cX7_drift 34 = .ok (.istore_n 3, 1) := by decide +kernel
theorem dX7_drift_35 : decode cX7_drift 35 = .ok (.iconst 0, 1) := by decide +kernel
theorem dX7_drift_36 : decode cX7_drift 36 = .ok (.istore 4, 2) := by decide +kernel
theorem dX7_drift_38 : decode cX7_drift 38 = .ok (.iload 4, 2) := by decide +kernel
theorem dX7_drift_40 : decode cX7_drift 40 = .ok (.iload_n 1, 1) := by decide +kernel
theorem dX7_drift_41 : decode cX7_drift 41 = .ok (.if_icmp .ge 84, 3) := by decide +kernel
theorem dX7_drift_44 : decode cX7_drift 44 = .ok (.aload_n 0, 1) := by decide +kernel
theorem dX7_drift_45 : decode cX7_drift 45 = .ok (.iconst 4, 1) := by decide +kernel
theorem dX7_drift_46 : decode cX7_drift 46 = .ok (.invokevirtual 120, 3) := by decide +kernel
theorem dX7_drift_49 : decode cX7_drift 49 = .ok (.istore 5, 2) := by decide +kernel
theorem dX7_drift_51 : decode cX7_drift 51 = .ok (.aload_n 0, 1) := by decide +kernel
theorem dX7_drift_52 : decode cX7_drift 52 = .ok (.bipush 8, 2) := by decide +kernel
theorem dX7_drift_54 : decode cX7_drift 54 = .ok (.invokevirtual 120, 3) := by decide +kernel
theorem dX7_drift_57 : decode cX7_drift 57 = .ok (.istore 6, 2) := by decide +kernel
theorem dX7_drift_59 : decode cX7_drift 59 = .ok (.aload_n 0, 1) := by decide +kernel
theorem dX7_drift_60 : decode cX7_drift 60 = .ok (.iload 6, 2) := by decide +kernel
theorem dX7_drift_62 : decode cX7_drift 62 = .ok (.iconst 2, 1) := by decide +kernel
theorem dX7_drift_63 : decode cX7_drift 63 = .ok (.if_icmp .eq 9, 3) := by decide +kernel
theorem dX7_drift_66 : decode cX7_drift 66 = .ok (.iload 6, 2) := by decide +kernel
theorem dX7_drift_68 : decode cX7_drift 68 = .ok (.iconst 3, 1) := by decide +kernel
theorem dX7_drift_69 : decode cX7_drift 69 = .ok (.if_icmp .ne 7, 3) := by decide +kernel
theorem dX7_drift_72 : decode cX7_drift 72 = .ok (.iconst 3, 1) := by decide +kernel
theorem dX7_drift_73 : decode cX7_drift 73 = .ok (.goto 20, 3) := by decide +kernel
theorem dX7_drift_76 : decode cX7_drift 76 = .ok (.iload 6, 2) := by decide +kernel
theorem dX7_drift_78 : decode cX7_drift 78 = .ok (.iconst 4, 1) := by decide +kernel
theorem dX7_drift_79 : decode cX7_drift 79 = .ok (.if_icmp .eq 9, 3) := by decide +kernel
theorem dX7_drift_82 : decode cX7_drift 82 = .ok (.iload 6, 2) := by decide +kernel
theorem dX7_drift_84 : decode cX7_drift 84 = .ok (.iconst 5, 1) := by decide +kernel
theorem dX7_drift_85 : decode cX7_drift 85 = .ok (.if_icmp .ne 7, 3) := by decide +kernel
theorem dX7_drift_88 : decode cX7_drift 88 = .ok (.iconst 2, 1) := by decide +kernel
theorem dX7_drift_89 : decode cX7_drift 89 = .ok (.goto 4, 3) := by decide +kernel
theorem dX7_drift_92 : decode cX7_drift 92 = .ok (.iconst 4, 1) := by decide +kernel
theorem dX7_drift_93 : decode cX7_drift 93 = .ok (.invokevirtual 120, 3) := by decide +kernel
theorem dX7_drift_96 : decode cX7_drift 96 = .ok (.istore 7, 2) := by decide +kernel
theorem dX7_drift_98 : decode cX7_drift 98 = .ok (.iload_n 3, 1) := by decide +kernel
theorem dX7_drift_99 : decode cX7_drift 99 = .ok (.aload_n 0, 1) := by decide +kernel
theorem dX7_drift_100 : decode cX7_drift 100 = .ok (.iload 5, 2) := by decide +kernel
theorem dX7_drift_102 : decode cX7_drift 102 = .ok (.iload 6, 2) := by decide +kernel
theorem dX7_drift_104 : decode cX7_drift 104 = .ok (.iload 7, 2) := by decide +kernel
theorem dX7_drift_106 : decode cX7_drift 106 = .ok (.invokevirtual 123, 3) := by decide +kernel
theorem dX7_drift_109 : decode cX7_drift 109 = .ok (.ifCond .lt 7, 3) := by decide +kernel
theorem dX7_drift_112 : decode cX7_drift 112 = .ok (.iconst 1, 1) := by decide +kernel
theorem dX7_drift_113 : decode cX7_drift 113 = .ok (.goto 4, 3) := by decide +kernel
theorem dX7_drift_116 : decode cX7_drift 116 = .ok (.iconst 0, 1) := by decide +kernel
theorem dX7_drift_117 : decode cX7_drift 117 = .ok (.iadd, 1) := by decide +kernel
theorem dX7_drift_118 : decode cX7_drift 118 = .ok (.istore_n 3, 1) := by decide +kernel
theorem dX7_drift_119 : decode cX7_drift 119 = .ok (.iinc 4 1, 3) := by decide +kernel
theorem dX7_drift_122 : decode cX7_drift 122 = .ok (.goto (-84), 3) := by decide +kernel
theorem dX7_drift_125 : decode cX7_drift 125 = .ok (.iload_n 3, 1) := by decide +kernel
theorem dX7_drift_126 : decode cX7_drift 126 = .ok (.ireturn, 1) := by decide +kernel
set_option maxRecDepth 20000 in
theorem ggX7_feed_X7_in : GoodIn wsX7_feed wsX7_in := goodIn_r _ [8] (by decide +kernel) (by decide +kernel)
set_option maxRecDepth 20000 in
theorem gX7_feed_X7_in : GoodIn wsX7_feed (va_wsS RX7 31 yX7_in wsX7_in) := goodIn_app (goodIn_of _ (by decide +kernel)) ggX7_feed_X7_in
theorem dX7_feed_0 : decode cX7_feed 0 = .ok (.iload_n 1, 1) := by decide +kernel
theorem dX7_feed_1 : decode cX7_feed 1 = .ok (.i2l, 1) := by decide +kernel
theorem dX7_feed_2 : decode cX7_feed 2 = .ok (.lconst 0, 1) := by decide +kernel
theorem dX7_feed_3 : decode cX7_feed 3 = .ok (.ldc2_w 127, 3) := by decide +kernel
theorem dX7_feed_6 : decode cX7_feed 6 = .ok (.invokestatic 31, 3) := by decide +kernel
theorem dX7_feed_9 : decode cX7_feed 9 = .ok (.ifCond .ne 6, 3) := by decide +kernel
theorem dX7_feed_12 : decode cX7_feed 12 = .ok (.ldc 98, 2) := by decide +kernel
theorem dX7_feed_14 : decode cX7_feed 14 = .ok (.ireturn, 1) := by decide +kernel
theorem dX7_feed_15 : decode cX7_feed 15 = .ok (.aload_n 0, 1) := by decide +kernel
theorem dX7_feed_16 : decode cX7_feed 16 = .ok (.getfield 7, 3) := by decide +kernel
theorem dX7_feed_19 : decode cX7_feed 19 = .ok (.sipush 1372, 3) := by decide +kernel
theorem dX7_feed_22 : decode cX7_feed 22 = .ok (.iaload, 1) := by decide +kernel
theorem dX7_feed_23 : decode cX7_feed 23 = .ok (.sipush 240, 3) := by decide +kernel
theorem dX7_feed_26 : decode cX7_feed 26 = .ok (.if_icmp .ne 6, 3) := by decide +kernel
theorem dX7_feed_29 : decode cX7_feed 29 = .ok (.ldc 103, 2) := by decide +kernel
theorem dX7_feed_31 : decode cX7_feed 31 = .ok (.ireturn, 1) := by decide +kernel
theorem dX7_feed_32 : decode cX7_feed 32 = .ok (.aload_n 0, 1) := by decide +kernel
theorem dX7_feed_33 : decode cX7_feed 33 = .ok (.getfield 7, 3) := by decide +kernel
theorem dX7_feed_36 : decode cX7_feed 36 = .ok (.sipush 1373, 3) := by decide +kernel
theorem dX7_feed_39 : decode cX7_feed 39 = .ok (.aload_n 0, 1) := by decide +kernel
theorem dX7_feed_40 : decode cX7_feed 40 = .ok (.getfield 7, 3) := by decide +kernel
theorem dX7_feed_43 : decode cX7_feed 43 = .ok (.sipush 1372, 3) := by decide +kernel
theorem dX7_feed_46 : decode cX7_feed 46 = .ok (.iaload, 1) := by decide +kernel
theorem dX7_feed_47 : decode cX7_feed 47 = .ok (.iadd, 1) := by decide +kernel
theorem dX7_feed_48 : decode cX7_feed 48 = .ok (.iload_n 1, 1) := by decide +kernel
theorem dX7_feed_49 : decode cX7_feed 49 = .ok (.iastore, 1) := by decide +kernel
theorem dX7_feed_50 : decode cX7_feed 50 = .ok (.aload_n 0, 1) := by decide +kernel
theorem dX7_feed_51 : decode cX7_feed 51 = .ok (.getfield 7, 3) := by decide +kernel
theorem dX7_feed_54 : decode cX7_feed 54 = .ok (.sipush 1372, 3) := by decide +kernel
theorem dX7_feed_57 : decode cX7_feed 57 = .ok (.dup2, 1) := by decide +kernel
theorem dX7_feed_58 : decode cX7_feed 58 = .ok (.iaload, 1) := by decide +kernel
theorem dX7_feed_59 : decode cX7_feed 59 = .ok (.iconst 1, 1) := by decide +kernel
theorem dX7_feed_60 : decode cX7_feed 60 = .ok (.iadd, 1) := by decide +kernel
theorem dX7_feed_61 : decode cX7_feed 61 = .ok (.iastore, 1) := by decide +kernel
theorem dX7_feed_62 : decode cX7_feed 62 = .ok (.aload_n 0, 1) := by decide +kernel
theorem dX7_feed_63 : decode cX7_feed 63 = .ok (.getfield 7, 3) := by decide +kernel
theorem dX7_feed_66 : decode cX7_feed 66 = .ok (.sipush 1372, 3) := by decide +kernel
theorem dX7_feed_69 : decode cX7_feed 69 = .ok (.iaload, 1) := by decide +kernel
theorem dX7_feed_70 : decode cX7_feed 70 = .ok (.ireturn, 1) := by decide +kernel
theorem dX7_notes_0 : decode cX7_notes 0 = .ok (.aload_n 0, 1) := by decide +kernel
theorem dX7_notes_1 : decode cX7_notes 1 = .ok (.getfield 129, 3) := by decide +kernel
theorem dX7_notes_4 : decode cX7_notes 4 = .ok (.bipush 24, 2) := by decide +kernel
theorem dX7_notes_6 : decode cX7_notes 6 = .ok (.if_icmp .ne 41, 3) := by decide +kernel
theorem dX7_notes_9 : decode cX7_notes 9 = .ok (.iconst 1, 1) := by decide +kernel
theorem dX7_notes_10 : decode cX7_notes 10 = .ok (.istore_n 3, 1) := by decide +kernel
theorem dX7_notes_11 : decode cX7_notes 11 = .ok (.iload_n 3, 1) := by decide +kernel
theorem dX7_notes_12 : decode cX7_notes 12 = .ok (.bipush 24, 2) := by decide +kernel
theorem dX7_notes_14 : decode cX7_notes 14 = .ok (.if_icmp .ge 23, 3) := by decide +kernel
theorem dX7_notes_17 : decode cX7_notes 17 = .ok (.aload_n 0, 1) := by decide +kernel
theorem dX7_notes_18 : decode cX7_notes 18 = .ok (.getfield 17, 3) := by decide +kernel
theorem dX7_notes_21 : decode cX7_notes 21 = .ok (.iload_n 3, 1) := by decide +kernel
theorem dX7_notes_22 : decode cX7_notes 22 = .ok (.iconst 1, 1) := by decide +kernel
theorem dX7_notes_23 : decode cX7_notes 23 = .ok (.isub, 1) := by decide +kernel
theorem dX7_notes_24 : decode cX7_notes 24 = .ok (.aload_n 0, 1) := by decide +kernel
theorem dX7_notes_25 : decode cX7_notes 25 = .ok (.getfield 17, 3) := by decide +kernel
theorem dX7_notes_28 : decode cX7_notes 28 = .ok (.iload_n 3, 1) := by decide +kernel
theorem dX7_notes_29 : decode cX7_notes 29 = .ok (.iaload, 1) := by decide +kernel
theorem dX7_notes_30 : decode cX7_notes 30 = .ok (.iastore, 1) := by decide +kernel
theorem dX7_notes_31 : decode cX7_notes 31 = .ok (.iinc 3 1, 3) := by decide +kernel
theorem dX7_notes_34 : decode cX7_notes 34 = .ok (.goto (-23), 3) := by decide +kernel
theorem dX7_notes_37 : decode cX7_notes 37 = .ok (.aload_n 0, 1) := by decide +kernel
theorem dX7_notes_38 : decode cX7_notes 38 = .ok (.dup, 1) := by decide +kernel
theorem dX7_notes_39 : decode cX7_notes 39 = .ok (.getfield 129, 3) := by decide +kernel
theorem dX7_notes_42 : decode cX7_notes 42 = .ok (.iconst 1, 1) := by decide +kernel
theorem dX7_notes_43 : decode cX7_notes 43 = .ok (.isub, 1) := by decide +kernel
theorem dX7_notes_44 : decode cX7_notes 44 = .ok (.putfield 129, 3) := by decide +kernel
theorem dX7_notes_47 : decode cX7_notes 47 = .ok (.aload_n 0, 1) := by decide +kernel
theorem dX7_notes_48 : decode cX7_notes 48 = .ok (.getfield 17, 3) := by decide +kernel
theorem dX7_notes_51 : decode cX7_notes 51 = .ok (.aload_n 0, 1) := by decide +kernel
theorem dX7_notes_52 : decode cX7_notes 52 = .ok (.getfield 129, 3) := by decide +kernel
theorem dX7_notes_55 : decode cX7_notes 55 = .ok (.iconst 2, 1) := by decide +kernel
theorem dX7_notes_56 : decode cX7_notes 56 = .ok (.iload_n 1, 1) := by decide +kernel
theorem dX7_notes_57 : decode cX7_notes 57 = .ok (.imul, 1) := by decide +kernel
theorem dX7_notes_58 : decode cX7_notes 58 = .ok (.iload_n 2, 1) := by decide +kernel
theorem dX7_notes_59 : decode cX7_notes 59 = .ok (.iadd, 1) := by decide +kernel
theorem dX7_notes_60 : decode cX7_notes 60 = .ok (.iastore, 1) := by decide +kernel
theorem dX7_notes_61 : decode cX7_notes 61 = .ok (.aload_n 0, 1) := by decide +kernel
theorem dX7_notes_62 : decode cX7_notes 62 = .ok (.dup, 1) := by decide +kernel
theorem dX7_notes_63 : decode cX7_notes 63 = .ok (.getfield 129, 3) := by decide +kernel
theorem dX7_notes_66 : decode cX7_notes 66 = .ok (.iconst 1, 1) := by decide +kernel
theorem dX7_notes_67 : decode cX7_notes 67 = .ok (.iadd, 1) := by decide +kernel
theorem dX7_notes_68 : decode cX7_notes 68 = .ok (.putfield 129, 3) := by decide +kernel
theorem dX7_notes_71 : decode cX7_notes 71 = .ok (.return_, 1) := by decide +kernel
theorem dX7_here_0 : decode cX7_here 0 = .ok (.aload_n 0, 1) := by decide +kernel
theorem dX7_here_1 : decode cX7_here 1 = .ok (.getfield 133, 3) := by decide +kernel
theorem dX7_here_4 : decode cX7_here 4 = .ok (.aload_n 0, 1) := by decide +kernel
theorem dX7_here_5 : decode cX7_here 5 = .ok (.getfield 7, 3) := by decide +kernel
theorem dX7_here_8 : decode cX7_here 8 = .ok (.sipush 1372, 3) := by decide +kernel
theorem dX7_here_11 : decode cX7_here 11 = .ok (.iaload, 1) := by decide +kernel
theorem dX7_here_12 : decode cX7_here 12 = .ok (.if_icmp .ge 34, 3) := by decide +kernel
theorem dX7_here_15 : decode cX7_here 15 = .ok (.aload_n 0, 1) := by decide +kernel
theorem dX7_here_16 : decode cX7_here 16 = .ok (.getfield 7, 3) := by decide +kernel
theorem dX7_here_19 : decode cX7_here 19 = .ok (.sipush 1373, 3) := by decide +kernel
theorem dX7_here_22 : decode cX7_here 22 = .ok (.aload_n 0, 1) := by decide +kernel
theorem dX7_here_23 : decode cX7_here 23 = .ok (.getfield 133, 3) := by decide +kernel
theorem dX7_here_26 : decode cX7_here 26 = .ok (.iadd, 1) := by decide +kernel
theorem dX7_here_27 : decode cX7_here 27 = .ok (.iaload, 1) := by decide +kernel
theorem dX7_here_28 : decode cX7_here 28 = .ok (.bipush 32, 2) := by decide +kernel
theorem dX7_here_30 : decode cX7_here 30 = .ok (.if_icmp .ne 16, 3) := by decide +kernel
theorem dX7_here_33 : decode cX7_here 33 = .ok (.aload_n 0, 1) := by decide +kernel
theorem dX7_here_34 : decode cX7_here 34 = .ok (.dup, 1) := by decide +kernel
theorem dX7_here_35 : decode cX7_here 35 = .ok (.getfield 133, 3) := by decide +kernel
theorem dX7_here_38 : decode cX7_here 38 = .ok (.iconst 1, 1) := by decide +kernel
theorem dX7_here_39 : decode cX7_here 39 = .ok (.iadd, 1) := by decide +kernel
theorem dX7_here_40 : decode cX7_here 40 = .ok (.putfield 133, 3) := by decide +kernel
theorem dX7_here_43 : decode cX7_here 43 = .ok (.goto (-43), 3) := by decide +kernel
theorem dX7_here_46 : decode cX7_here 46 = .ok (.aload_n 0, 1) := by decide +kernel
theorem dX7_here_47 : decode cX7_here 47 = .ok (.getfield 133, 3) := by decide +kernel
theorem dX7_here_50 : decode cX7_here 50 = .ok (.aload_n 0, 1) := by decide +kernel
theorem dX7_here_51 : decode cX7_here 51 = .ok (.getfield 7, 3) := by decide +kernel
theorem dX7_here_54 : decode cX7_here 54 = .ok (.sipush 1372, 3) := by decide +kernel
theorem dX7_here_57 : decode cX7_here 57 = .ok (.iaload, 1) := by decide +kernel
theorem dX7_here_58 : decode cX7_here 58 = .ok (.if_icmp .ge 19, 3) := by decide +kernel
theorem dX7_here_61 : decode cX7_here 61 = .ok (.aload_n 0, 1) := by decide +kernel
theorem dX7_here_62 : decode cX7_here 62 = .ok (.getfield 7, 3) := by decide +kernel
theorem dX7_here_65 : decode cX7_here 65 = .ok (.sipush 1373, 3) := by decide +kernel
theorem dX7_here_68 : decode cX7_here 68 = .ok (.aload_n 0, 1) := by decide +kernel
theorem dX7_here_69 : decode cX7_here 69 = .ok (.getfield 133, 3) := by decide +kernel
theorem dX7_here_72 : decode cX7_here 72 = .ok (.iadd, 1) := by decide +kernel
theorem dX7_here_73 : decode cX7_here 73 = .ok (.iaload, 1) := by decide +kernel
theorem dX7_here_74 : decode cX7_here 74 = .ok (.goto 4, 3) := by decide +kernel
theorem dX7_here_77 : decode cX7_here 77 = .ok (.iconst (-1), 1) := by decide +kernel
theorem dX7_here_78 : decode cX7_here 78 = .ok (.ireturn, 1) := by decide +kernel
theorem dX7_fails_0 : decode cX7_fails 0 = .ok (.aload_n 0, 1) := by decide +kernel
theorem dX7_fails_1 : decode cX7_fails 1 = .ok (.iload_n 1, 1) := by decide +kernel
theorem dX7_fails_2 : decode cX7_fails 2 = .ok (.putfield 136, 3) := by decide +kernel
theorem dX7_fails_5 : decode cX7_fails 5 = .ok (.aload_n 0, 1) := by decide +kernel
theorem dX7_fails_6 : decode cX7_fails 6 = .ok (.aload_n 0, 1) := by decide +kernel
theorem dX7_fails_7 : decode cX7_fails 7 = .ok (.getfield 133, 3) := by decide +kernel
theorem dX7_fails_10 : decode cX7_fails 10 = .ok (.putfield 139, 3) := by decide +kernel
theorem dX7_fails_13 : decode cX7_fails 13 = .ok (.iconst 0, 1) := by decide +kernel
theorem dX7_fails_14 : decode cX7_fails 14 = .ok (.ireturn, 1) := by decide +kernel
set_option maxRecDepth 20000 in
theorem ggX7_takesFigure_X7_here : GoodIn wsX7_takesFigure wsX7_here := goodIn_r _ [8, 9, 10, 20, 21, 22, 23, 24, 25, 26, 27, 28, 29, 30, 31, 32, 33] (by decide +kernel) (by decide +kernel)
set_option maxRecDepth 20000 in
theorem gX7_takesFigure_X7_here : GoodIn wsX7_takesFigure (wsV RX7 142 RX7 yX7_here wsX7_here) := goodIn_app (goodIn_of _ (by decide +kernel)) ggX7_takesFigure_X7_here
set_option maxRecDepth 20000 in
theorem ggX7_takesFigure_X7_in : GoodIn wsX7_takesFigure wsX7_in := goodIn_r _ [13] (by decide +kernel) (by decide +kernel)
set_option maxRecDepth 20000 in
theorem gX7_takesFigure_X7_in : GoodIn wsX7_takesFigure (va_wsS RX7 31 yX7_in wsX7_in) := goodIn_app (goodIn_of _ (by decide +kernel)) ggX7_takesFigure_X7_in
set_option maxRecDepth 20000 in
theorem ggX7_takesFigure_X7_fails : GoodIn wsX7_takesFigure wsX7_fails := goodIn_r _ [17, 18, 9, 19, 20, 21, 22, 23, 24, 25, 26, 27, 28, 29, 30, 31, 32, 33] (by decide +kernel) (by decide +kernel)
set_option maxRecDepth 20000 in
theorem gX7_takesFigure_X7_fails : GoodIn wsX7_takesFigure (wsV RX7 150 RX7 yX7_fails wsX7_fails) := goodIn_app (goodIn_of _ (by decide +kernel)) ggX7_takesFigure_X7_fails
theorem dX7_takesFigure_0 : decode cX7_takesFigure 0 = .ok (.aload_n 0, 1) := by decide +kernel
theorem dX7_takesFigure_1 : decode cX7_takesFigure 1 = .ok (.invokevirtual 142, 3) := by decide +kernel
theorem dX7_takesFigure_4 : decode cX7_takesFigure 4 = .ok (.istore_n 2, 1) := by decide +kernel
theorem dX7_takesFigure_5 : decode cX7_takesFigure 5 = .ok (.iload_n 2, 1) := by decide +kernel
theorem dX7_takesFigure_6 : decode cX7_takesFigure 6 = .ok (.i2l, 1) := by decide +kernel
theorem dX7_takesFigure_7 : decode cX7_takesFigure 7 = .ok (.ldc2_w 146, 3) := by decide +kernel
theorem dX7_takesFigure_10 : decode cX7_takesFigure 10 = .ok (.ldc2_w 148, 3) := by decide +kernel
theorem dX7_takesFigure_13 : decode cX7_takesFigure 13 = .ok (.invokestatic 31, 3) := by decide +kernel
theorem dX7_takesFigure_16 : decode cX7_takesFigure 16 = .ok (.ifCond .ne 9, 3) := by decide +kernel
theorem dX7_takesFigure_19 : decode cX7_takesFigure 19 = .ok (.aload_n 0, 1) := by decide +kernel
theorem dX7_takesFigure_20 : decode cX7_takesFigure 20 = .ok (.iconst 1, 1) := by decide +kernel
theorem dX7_takesFigure_21 : decode cX7_takesFigure 21 = .ok (.invokevirtual 150, 3) := by decide +kernel
theorem dX7_takesFigure_24 : decode cX7_takesFigure 24 = .ok (.ireturn, 1) := by decide +kernel
theorem dX7_takesFigure_25 : decode cX7_takesFigure 25 = .ok (.aload_n 0, 1) := by decide +kernel
theorem dX7_takesFigure_26 : decode cX7_takesFigure 26 = .ok (.iload_n 2, 1) := by decide +kernel
theorem dX7_takesFigure_27 : decode cX7_takesFigure 27 = .ok (.bipush 48, 2) := by decide +kernel
theorem dX7_takesFigure_29 : decode cX7_takesFigure 29 = .ok (.isub, 1) := by decide +kernel
theorem dX7_takesFigure_30 : decode cX7_takesFigure 30 = .ok (.putfield 153, 3) := by decide +kernel
theorem dX7_takesFigure_33 : decode cX7_takesFigure 33 = .ok (.aload_n 0, 1) := by decide +kernel
theorem dX7_takesFigure_34 : decode cX7_takesFigure 34 = .ok (.getfield 153, 3) := by decide +kernel
theorem dX7_takesFigure_37 : decode cX7_takesFigure 37 = .ok (.iload_n 1, 1) := by decide +kernel
theorem dX7_takesFigure_38 : decode cX7_takesFigure 38 = .ok (.if_icmp .le 11, 3) := by decide +kernel
theorem dX7_takesFigure_41 : decode cX7_takesFigure 41 = .ok (.aload_n 0, 1) := by decide +kernel
theorem dX7_takesFigure_42 : decode cX7_takesFigure 42 = .ok (.iconst 2, 1) := by decide +kernel
theorem dX7_takesFigure_43 : decode cX7_takesFigure 43 = .ok (.invokevirtual 150, 3) := by decide +kernel
theorem dX7_takesFigure_46 : decode cX7_takesFigure 46 = .ok (.ifCond .eq 7, 3) := by decide +kernel
theorem dX7_takesFigure_49 : decode cX7_takesFigure 49 = .ok (.iconst 1, 1) := by decide +kernel
theorem dX7_takesFigure_50 : decode cX7_takesFigure 50 = .ok (.goto 4, 3) := by decide +kernel
theorem dX7_takesFigure_53 : decode cX7_takesFigure 53 = .ok (.iconst 0, 1) := by decide +kernel
theorem dX7_takesFigure_54 : decode cX7_takesFigure 54 = .ok (.ireturn, 1) := by decide +kernel
set_option maxRecDepth 20000 in
theorem ggX7_takes_X7_here : GoodIn wsX7_takes wsX7_here := goodIn_r _ [6, 1, 7, 14, 15, 16, 17, 18, 19, 20, 21, 22, 23, 24, 25, 26, 27] (by decide +kernel) (by decide +kernel)
set_option maxRecDepth 20000 in
theorem gX7_takes_X7_here : GoodIn wsX7_takes (wsV RX7 142 RX7 yX7_here wsX7_here) := goodIn_app (goodIn_of _ (by decide +kernel)) ggX7_takes_X7_here
set_option maxRecDepth 20000 in
theorem ggX7_takes_X7_fails : GoodIn wsX7_takes wsX7_fails := goodIn_r _ [11, 12, 1, 13, 14, 15, 16, 17, 18, 19, 20, 21, 22, 23, 24, 25, 26, 27] (by decide +kernel) (by decide +kernel)
set_option maxRecDepth 20000 in
theorem gX7_takes_X7_fails : GoodIn wsX7_takes (wsV RX7 150 RX7 yX7_fails wsX7_fails) := goodIn_app (goodIn_of _ (by decide +kernel)) ggX7_takes_X7_fails
theorem dX7_takes_0 : decode cX7_takes 0 = .ok (.aload_n 0, 1) := by decide +kernel
theorem dX7_takes_1 : decode cX7_takes 1 = .ok (.invokevirtual 142, 3) := by decide +kernel
theorem dX7_takes_4 : decode cX7_takes 4 = .ok (.iload_n 1, 1) := by decide +kernel
theorem dX7_takes_5 : decode cX7_takes 5 = .ok (.if_icmp .eq 9, 3) := by decide +kernel
theorem dX7_takes_8 : decode cX7_takes 8 = .ok (.aload_n 0, 1) := by decide +kernel
theorem dX7_takes_9 : decode cX7_takes 9 = .ok (.iconst 1, 1) := by decide +kernel
theorem dX7_takes_10 : decode cX7_takes 10 = .ok (.invokevirtual 150, 3) := by decide +kernel
theorem dX7_takes_13 : decode cX7_takes 13 = .ok (.ireturn, 1) := by decide +kernel
theorem dX7_takes_14 : decode cX7_takes 14 = .ok (.aload_n 0, 1) := by decide +kernel
theorem dX7_takes_15 : decode cX7_takes 15 = .ok (.dup, 1) := by decide +kernel
theorem dX7_takes_16 : decode cX7_takes 16 = .ok (.getfield 133, 3) := by decide +kernel
theorem dX7_takes_19 : decode cX7_takes 19 = .ok (.iconst 1, 1) := by decide +kernel
theorem dX7_takes_20 : decode cX7_takes 20 = .ok (.iadd, 1) := by decide +kernel
theorem dX7_takes_21 : decode cX7_takes 21 = .ok (.putfield 133, 3) := by decide +kernel
theorem dX7_takes_24 : decode cX7_takes 24 = .ok (.iconst 1, 1) := by decide +kernel
theorem dX7_takes_25 : decode cX7_takes 25 = .ok (.ireturn, 1) := by decide +kernel
set_option maxRecDepth 20000 in
theorem ggX7_did_X7_fails : GoodIn wsX7_did wsX7_fails := goodIn_r _ [10, 11, 5, 12, 84, 85, 86, 87, 88, 89, 90, 91, 92, 93, 94, 95, 96, 97] (by decide +kernel) (by decide +kernel)
set_option maxRecDepth 20000 in
theorem gX7_did_X7_fails : GoodIn wsX7_did (wsV RX7 150 RX7 yX7_fails wsX7_fails) := goodIn_app (goodIn_of _ (by decide +kernel)) ggX7_did_X7_fails
set_option maxRecDepth 20000 in
theorem ggX7_did_X7_isWith : GoodIn wsX7_did wsX7_isWith := goodIn_r _ [15, 16, 17, 9, 18, 19, 20, 21, 22, 23, 24, 25, 26, 27, 28, 29, 30, 31, 32] (by decide +kernel) (by decide +kernel)
set_option maxRecDepth 20000 in
theorem gX7_did_X7_isWith : GoodIn wsX7_did (va_wsS RX7 93 yX7_isWith wsX7_isWith) := goodIn_app (goodIn_of _ (by decide +kernel)) ggX7_did_X7_isWith
set_option maxRecDepth 20000 in
theorem ggX7_did_X7_can : GoodIn wsX7_did wsX7_can := goodIn_r _ [36, 1, 37, 38, 39, 9, 40, 84, 85, 86, 87, 88, 89, 90, 91, 92, 93, 94, 95, 96, 97] (by decide +kernel) (by decide +kernel)
set_option maxRecDepth 20000 in
theorem gX7_did_X7_can : GoodIn wsX7_did (wsV RX7 99 RX7 yX7_can wsX7_can) := goodIn_app (goodIn_of _ (by decide +kernel)) ggX7_did_X7_can
set_option maxRecDepth 20000 in
theorem ggX7_did_X7_hasStep : GoodIn wsX7_did wsX7_hasStep := goodIn_r _ [43] (by decide +kernel) (by decide +kernel)
set_option maxRecDepth 20000 in
theorem gX7_did_X7_hasStep : GoodIn wsX7_did (va_wsS RX7 81 yX7_hasStep wsX7_hasStep) := goodIn_app (goodIn_of _ (by decide +kernel)) ggX7_did_X7_hasStep
set_option maxRecDepth 20000 in
theorem ggX7_did_X7_isMuch : GoodIn wsX7_did wsX7_isMuch := goodIn_r _ [47, 48, 49, 50, 51, 9, 52, 1, 84, 85, 86, 87, 88, 89, 90, 91, 92, 93, 94, 95, 96, 97] (by decide +kernel) (by decide +kernel)
set_option maxRecDepth 20000 in
theorem gX7_did_X7_isMuch : GoodIn wsX7_did (wsV RX7 84 RX7 yX7_isMuch wsX7_isMuch) := goodIn_app (goodIn_of _ (by decide +kernel)) ggX7_did_X7_isMuch
set_option maxRecDepth 20000 in
theorem ggX7_did_X7_comes : GoodIn wsX7_did wsX7_comes := goodIn_r _ [56, 1, 57, 58, 59, 9, 60, 61, 62, 63, 64, 65, 66, 67, 49, 50, 51, 52, 68, 69, 70, 71, 72, 73, 74, 75, 76, 77, 78, 79, 37, 38, 39, 40, 41, 42, 43, 44, 45, 46, 47, 48, 80, 81, 82, 83, 84, 85, 86, 87, 88, 89, 90, 91, 92, 93, 94, 95, 96, 97] (by decide +kernel) (by decide +kernel)
set_option maxRecDepth 20000 in
theorem gX7_did_X7_comes : GoodIn wsX7_did (wsV RX7 105 RX7 yX7_comes wsX7_comes) := goodIn_app (goodIn_of _ (by decide +kernel)) ggX7_did_X7_comes
theorem dX7_did_0 : decode cX7_did 0 = .ok (.iload_n 1, 1) := by decide +kernel
theorem dX7_did_1 : decode cX7_did 1 = .ok (.iconst 2, 1) := by decide +kernel
theorem dX7_did_2 : decode cX7_did 2 = .ok (.if_icmp .ne 7, 3) := by decide +kernel
theorem dX7_did_5 : decode cX7_did 5 = .ok (.iconst 2, 1) := by decide +kernel
theorem dX7_did_6 : decode cX7_did 6 = .ok (.goto 4, 3) := by decide +kernel
theorem dX7_did_9 : decode cX7_did 9 = .ok (.iconst 1, 1) := by decide +kernel
theorem dX7_did_10 : decode cX7_did 10 = .ok (.istore_n 2, 1) := by decide +kernel
theorem dX7_did_11 : decode cX7_did 11 = .ok (.aload_n 0, 1) := by decide +kernel
theorem dX7_did_12 : decode cX7_did 12 = .ok (.getfield 7, 3) := by decide +kernel
theorem dX7_did_15 : decode cX7_did 15 = .ok (.bipush 91, 2) := by decide +kernel
theorem dX7_did_17 : decode cX7_did 17 = .ok (.iaload, 1) := by decide +kernel
theorem dX7_did_18 : decode cX7_did 18 = .ok (.iload_n 2, 1) := by decide +kernel
theorem dX7_did_19 : decode cX7_did 19 = .ok (.iadd, 1) := by decide +kernel
theorem dX7_did_20 : decode cX7_did 20 = .ok (.aload_n 0, 1) := by decide +kernel
theorem dX7_did_21 : decode cX7_did 21 = .ok (.getfield 156, 3) := by decide +kernel
theorem dX7_did_24 : decode cX7_did 24 = .ok (.iadd, 1) := by decide +kernel
theorem dX7_did_25 : decode cX7_did 25 = .ok (.sipush 160, 3) := by decide +kernel
theorem dX7_did_28 : decode cX7_did 28 = .ok (.if_icmp .le 9, 3) := by decide +kernel
theorem dX7_did_31 : decode cX7_did 31 = .ok (.aload_n 0, 1) := by decide +kernel
theorem dX7_did_32 : decode cX7_did 32 = .ok (.iconst 3, 1) := by decide +kernel
theorem dX7_did_33 : decode cX7_did 33 = .ok (.invokevirtual 150, 3) := by decide +kernel
theorem dX7_did_36 : decode cX7_did 36 = .ok (.ireturn, 1) := by decide +kernel
theorem dX7_did_37 : decode cX7_did 37 = .ok (.aload_n 0, 1) := by decide +kernel
theorem dX7_did_38 : decode cX7_did 38 = .ok (.getfield 159, 3) := by decide +kernel
theorem dX7_did_41 : decode cX7_did 41 = .ok (.iload_n 1, 1) := by decide +kernel
theorem dX7_did_42 : decode cX7_did 42 = .ok (.aload_n 0, 1) := by decide +kernel
theorem dX7_did_43 : decode cX7_did 43 = .ok (.getfield 153, 3) := by decide +kernel
theorem dX7_did_46 : decode cX7_did 46 = .ok (.invokestatic 93, 3) := by decide +kernel
theorem dX7_did_49 : decode cX7_did 49 = .ok (.ifCond .eq 37, 3) := by decide +kernel
theorem dX7_did_52 : decode cX7_did 52 = .ok (.aload_n 0, 1) := by decide +kernel
theorem dX7_did_53 : decode cX7_did 53 = .ok (.aload_n 0, 1) := by decide +kernel
theorem dX7_did_54 : decode cX7_did 54 = .ok (.getfield 159, 3) := by decide +kernel
theorem dX7_did_57 : decode cX7_did 57 = .ok (.iload_n 1, 1) := by decide +kernel
theorem dX7_did_58 : decode cX7_did 58 = .ok (.aload_n 0, 1) := by decide +kernel
theorem dX7_did_59 : decode cX7_did 59 = .ok (.getfield 153, 3) := by decide +kernel
theorem dX7_did_62 : decode cX7_did 62 = .ok (.invokevirtual 99, 3) := by decide +kernel
theorem dX7_did_65 : decode cX7_did 65 = .ok (.ifCond .eq 21, 3) := by decide +kernel
theorem dX7_did_68 : decode cX7_did 68 = .ok (.iload_n 1, 1) := by decide +kernel
theorem dX7_did_69 : decode cX7_did 69 = .ok (.invokestatic 81, 3) := by decide +kernel
theorem dX7_did_72 : decode cX7_did 72 = .ok (.ifCond .eq 20, 3) := by decide +kernel
theorem dX7_did_75 : decode cX7_did 75 = .ok (.aload_n 0, 1) := by decide +kernel
theorem dX7_did_76 : decode cX7_did 76 = .ok (.aload_n 0, 1) := by decide +kernel
theorem dX7_did_77 : decode cX7_did 77 = .ok (.getfield 159, 3) := by decide +kernel
theorem dX7_did_80 : decode cX7_did 80 = .ok (.invokevirtual 84, 3) := by decide +kernel
theorem dX7_did_83 : decode cX7_did 83 = .ok (.ifCond .eq 9, 3) := by decide +kernel
theorem dX7_did_86 : decode cX7_did 86 = .ok (.aload_n 0, 1) := by decide +kernel
theorem dX7_did_87 : decode cX7_did 87 = .ok (.iconst 4, 1) := by decide +kernel
theorem dX7_did_88 : decode cX7_did 88 = .ok (.invokevirtual 150, 3) := by decide +kernel
theorem dX7_did_91 : decode cX7_did 91 = .ok (.ireturn, 1) := by decide +kernel
theorem dX7_did_92 : decode cX7_did 92 = .ok (.aload_n 0, 1) := by decide +kernel
theorem dX7_did_93 : decode cX7_did 93 = .ok (.aload_n 0, 1) := by decide +kernel
theorem dX7_did_94 : decode cX7_did 94 = .ok (.getfield 159, 3) := by decide +kernel
theorem dX7_did_97 : decode cX7_did 97 = .ok (.iload_n 1, 1) := by decide +kernel
theorem dX7_did_98 : decode cX7_did 98 = .ok (.aload_n 0, 1) := by decide +kernel
theorem dX7_did_99 : decode cX7_did 99 = .ok (.getfield 153, 3) := by decide +kernel
theorem dX7_did_102 : decode cX7_did 102 = .ok (.invokevirtual 105, 3) := by decide +kernel
theorem dX7_did_105 : decode cX7_did 105 = .ok (.aload_n 0, 1) := by decide +kernel
theorem dX7_did_106 : decode cX7_did 106 = .ok (.dup, 1) := by decide +kernel
theorem dX7_did_107 : decode cX7_did 107 = .ok (.getfield 133, 3) := by decide +kernel
theorem dX7_did_110 : decode cX7_did 110 = .ok (.iconst 1, 1) := by decide +kernel
theorem dX7_did_111 : decode cX7_did 111 = .ok (.iadd, 1) := by decide +kernel
theorem dX7_did_112 : decode cX7_did 112 = .ok (.putfield 133, 3) := by decide +kernel
theorem dX7_did_115 : decode cX7_did 115 = .ok (.iconst 1, 1) := by decide +kernel
theorem dX7_did_116 : decode cX7_did 116 = .ok (.ireturn, 1) := by decide +kernel
theorem dX7_opens_0 : decode cX7_opens 0 = .ok (.aload_n 0, 1) := by decide +kernel
theorem dX7_opens_1 : decode cX7_opens 1 = .ok (.getfield 20, 3) := by decide +kernel
theorem dX7_opens_4 : decode cX7_opens 4 = .ok (.aload_n 0, 1) := by decide +kernel
theorem dX7_opens_5 : decode cX7_opens 5 = .ok (.getfield 162, 3) := by decide +kernel
theorem dX7_opens_8 : decode cX7_opens 8 = .ok (.iload_n 1, 1) := by decide +kernel
theorem dX7_opens_9 : decode cX7_opens 9 = .ok (.iastore, 1) := by decide +kernel
theorem dX7_opens_10 : decode cX7_opens 10 = .ok (.aload_n 0, 1) := by decide +kernel
theorem dX7_opens_11 : decode cX7_opens 11 = .ok (.getfield 23, 3) := by decide +kernel
theorem dX7_opens_14 : decode cX7_opens 14 = .ok (.aload_n 0, 1) := by decide +kernel
theorem dX7_opens_15 : decode cX7_opens 15 = .ok (.getfield 162, 3) := by decide +kernel
theorem dX7_opens_18 : decode cX7_opens 18 = .ok (.iload_n 2, 1) := by decide +kernel
theorem dX7_opens_19 : decode cX7_opens 19 = .ok (.iastore, 1) := by decide +kernel
theorem dX7_opens_20 : decode cX7_opens 20 = .ok (.aload_n 0, 1) := by decide +kernel
theorem dX7_opens_21 : decode cX7_opens 21 = .ok (.dup, 1) := by decide +kernel
theorem dX7_opens_22 : decode cX7_opens 22 = .ok (.getfield 162, 3) := by decide +kernel
theorem dX7_opens_25 : decode cX7_opens 25 = .ok (.iconst 1, 1) := by decide +kernel
theorem dX7_opens_26 : decode cX7_opens 26 = .ok (.iadd, 1) := by decide +kernel
theorem dX7_opens_27 : decode cX7_opens 27 = .ok (.putfield 162, 3) := by decide +kernel
theorem dX7_opens_30 : decode cX7_opens 30 = .ok (.return_, 1) := by decide +kernel
set_option maxRecDepth 20000 in
theorem ggX7_shuts_X7_comes : GoodIn wsX7_shuts wsX7_comes := goodIn_r _ [10, 11, 12, 13, 14, 9, 15, 16, 17, 18, 19, 20, 21, 22, 23, 24, 25, 26, 27, 28, 29, 30, 31, 32, 33, 34, 35, 36, 37, 38, 39, 40, 41, 42, 43, 44, 45, 46, 47, 48, 49, 50, 51, 52, 53, 54, 61, 62, 63, 64, 65, 66, 67, 68, 69, 70, 71, 72, 73, 74] (by decide +kernel) (by decide +kernel)
set_option maxRecDepth 20000 in
theorem gX7_shuts_X7_comes : GoodIn wsX7_shuts (wsV RX7 105 RX7 yX7_comes wsX7_comes) := goodIn_app (goodIn_of _ (by decide +kernel)) ggX7_shuts_X7_comes
set_option maxRecDepth 20000 in
theorem ggX7_shuts_X7_notes : GoodIn wsX7_shuts wsX7_notes := goodIn_r _ [58, 59, 60, 61, 62, 63, 64, 65, 66, 67, 68, 69, 70, 71, 72, 73, 74] (by decide +kernel) (by decide +kernel)
set_option maxRecDepth 20000 in
theorem gX7_shuts_X7_notes : GoodIn wsX7_shuts (wsV RX7 165 RX7 yX7_notes wsX7_notes) := goodIn_app (goodIn_of _ (by decide +kernel)) ggX7_shuts_X7_notes
theorem dX7_shuts_0 : decode cX7_shuts 0 = .ok (.aload_n 0, 1) := by decide +kernel
theorem dX7_shuts_1 : decode cX7_shuts 1 = .ok (.dup, 1) := by decide +kernel
theorem dX7_shuts_2 : decode cX7_shuts 2 = .ok (.getfield 162, 3) := by decide +kernel
theorem dX7_shuts_5 : decode cX7_shuts 5 = .ok (.iconst 1, 1) := by decide +kernel
theorem dX7_shuts_6 : decode cX7_shuts 6 = .ok (.isub, 1) := by decide +kernel
theorem dX7_shuts_7 : decode cX7_shuts 7 = .ok (.putfield 162, 3) := by decide +kernel
theorem dX7_shuts_10 : decode cX7_shuts 10 = .ok (.aload_n 0, 1) := by decide +kernel
theorem dX7_shuts_11 : decode cX7_shuts 11 = .ok (.getfield 20, 3) := by decide +kernel
theorem dX7_shuts_14 : decode cX7_shuts 14 = .ok (.aload_n 0, 1) := by decide +kernel
theorem dX7_shuts_15 : decode cX7_shuts 15 = .ok (.getfield 162, 3) := by decide +kernel
theorem dX7_shuts_18 : decode cX7_shuts 18 = .ok (.iaload, 1) := by decide +kernel
theorem dX7_shuts_19 : decode cX7_shuts 19 = .ok (.iconst (-1), 1) := by decide +kernel
theorem dX7_shuts_20 : decode cX7_shuts 20 = .ok (.if_icmp .ne 19, 3) := by decide +kernel
theorem dX7_shuts_23 : decode cX7_shuts 23 = .ok (.aload_n 0, 1) := by decide +kernel
theorem dX7_shuts_24 : decode cX7_shuts 24 = .ok (.aload_n 0, 1) := by decide +kernel
theorem dX7_shuts_25 : decode cX7_shuts 25 = .ok (.getfield 23, 3) := by decide +kernel
theorem dX7_shuts_28 : decode cX7_shuts 28 = .ok (.aload_n 0, 1) := by decide +kernel
theorem dX7_shuts_29 : decode cX7_shuts 29 = .ok (.getfield 162, 3) := by decide +kernel
theorem dX7_shuts_32 : decode cX7_shuts 32 = .ok (.iaload, 1) := by decide +kernel
theorem dX7_shuts_33 : decode cX7_shuts 33 = .ok (.putfield 159, 3) := by decide +kernel
theorem dX7_shuts_36 : decode cX7_shuts 36 = .ok (.goto 50, 3) := by decide +kernel
theorem dX7_shuts_39 : decode cX7_shuts 39 = .ok (.aload_n 0, 1) := by decide +kernel
theorem dX7_shuts_40 : decode cX7_shuts 40 = .ok (.aload_n 0, 1) := by decide +kernel
theorem dX7_shuts_41 : decode cX7_shuts 41 = .ok (.getfield 23, 3) := by decide +kernel
theorem dX7_shuts_44 : decode cX7_shuts 44 = .ok (.aload_n 0, 1) := by decide +kernel
theorem dX7_shuts_45 : decode cX7_shuts 45 = .ok (.getfield 162, 3) := by decide +kernel
theorem dX7_shuts_48 : decode cX7_shuts 48 = .ok (.iaload, 1) := by decide +kernel
theorem dX7_shuts_49 : decode cX7_shuts 49 = .ok (.iconst 3, 1) := by decide +kernel
theorem dX7_shuts_50 : decode cX7_shuts 50 = .ok (.aload_n 0, 1) := by decide +kernel
theorem dX7_shuts_51 : decode cX7_shuts 51 = .ok (.getfield 20, 3) := by decide +kernel
theorem dX7_shuts_54 : decode cX7_shuts 54 = .ok (.aload_n 0, 1) := by decide +kernel
theorem dX7_shuts_55 : decode cX7_shuts 55 = .ok (.getfield 162, 3) := by decide +kernel
theorem dX7_shuts_58 : decode cX7_shuts 58 = .ok (.iaload, 1) := by decide +kernel
theorem dX7_shuts_59 : decode cX7_shuts 59 = .ok (.invokevirtual 105, 3) := by decide +kernel
theorem dX7_shuts_62 : decode cX7_shuts 62 = .ok (.aload_n 0, 1) := by decide +kernel
theorem dX7_shuts_63 : decode cX7_shuts 63 = .ok (.aload_n 0, 1) := by decide +kernel
theorem dX7_shuts_64 : decode cX7_shuts 64 = .ok (.getfield 20, 3) := by decide +kernel
theorem dX7_shuts_67 : decode cX7_shuts 67 = .ok (.aload_n 0, 1) := by decide +kernel
theorem dX7_shuts_68 : decode cX7_shuts 68 = .ok (.getfield 162, 3) := by decide +kernel
theorem dX7_shuts_71 : decode cX7_shuts 71 = .ok (.iaload, 1) := by decide +kernel
theorem dX7_shuts_72 : decode cX7_shuts 72 = .ok (.iconst 0, 1) := by decide +kernel
theorem dX7_shuts_73 : decode cX7_shuts 73 = .ok (.invokevirtual 165, 3) := by decide +kernel
theorem dX7_shuts_76 : decode cX7_shuts 76 = .ok (.aload_n 0, 1) := by decide +kernel
theorem dX7_shuts_77 : decode cX7_shuts 77 = .ok (.dup, 1) := by decide +kernel
theorem dX7_shuts_78 : decode cX7_shuts 78 = .ok (.getfield 156, 3) := by decide +kernel
theorem dX7_shuts_81 : decode cX7_shuts 81 = .ok (.iconst 1, 1) := by decide +kernel
theorem dX7_shuts_82 : decode cX7_shuts 82 = .ok (.isub, 1) := by decide +kernel
theorem dX7_shuts_83 : decode cX7_shuts 83 = .ok (.putfield 156, 3) := by decide +kernel
theorem dX7_shuts_86 : decode cX7_shuts 86 = .ok (.return_, 1) := by decide +kernel
set_option maxRecDepth 20000 in
theorem ggX7_takesRegion_X7_takesFigure : GoodIn wsX7_takesRegion wsX7_takesFigure := goodIn_r _ [8, 9, 10, 1, 11, 12, 13, 7, 14, 15, 16, 17, 18, 19, 20, 21, 22, 23, 24, 25, 115, 116, 117, 118, 119, 120, 121, 122, 123, 124, 125, 126, 127, 128] (by decide +kernel) (by decide +kernel)
set_option maxRecDepth 20000 in
theorem gX7_takesRegion_X7_takesFigure : GoodIn wsX7_takesRegion (wsV RX7 168 RX7 yX7_takesFigure wsX7_takesFigure) := goodIn_app (goodIn_of _ (by decide +kernel)) ggX7_takesRegion_X7_takesFigure
set_option maxRecDepth 20000 in
theorem ggX7_takesRegion_X7_did : GoodIn wsX7_takesRegion wsX7_did := goodIn_r _ [29, 16, 2, 3, 1, 15, 20, 21, 22, 7, 23, 24, 25, 30, 31, 32, 33, 34, 35, 36, 17, 18, 19, 37, 38, 39, 40, 41, 42, 43, 44, 45, 46, 47, 48, 49, 50, 51, 52, 53, 54, 55, 56, 57, 58, 59, 60, 61, 62, 63, 64, 65, 66, 67, 68, 69, 70, 71, 72, 73, 74, 75, 76, 77, 78, 79, 80, 81, 82, 83, 84, 85, 86, 87, 88, 89, 90, 91, 92, 93, 94, 95, 96, 97, 115, 116, 117, 118, 119, 120, 121, 122, 123, 124, 125, 126, 127, 128] (by decide +kernel) (by decide +kernel)
set_option maxRecDepth 20000 in
theorem gX7_takesRegion_X7_did : GoodIn wsX7_takesRegion (wsV RX7 171 RX7 yX7_did wsX7_did) := goodIn_app (goodIn_of _ (by decide +kernel)) ggX7_takesRegion_X7_did
set_option maxRecDepth 20000 in
theorem ggX7_takesRegion_X7_notes : GoodIn wsX7_takesRegion wsX7_notes := goodIn_r _ [101, 102, 103, 115, 116, 117, 118, 119, 120, 121, 122, 123, 124, 125, 126, 127, 128] (by decide +kernel) (by decide +kernel)
set_option maxRecDepth 20000 in
theorem gX7_takesRegion_X7_notes : GoodIn wsX7_takesRegion (wsV RX7 165 RX7 yX7_notes wsX7_notes) := goodIn_app (goodIn_of _ (by decide +kernel)) ggX7_takesRegion_X7_notes
set_option maxRecDepth 20000 in
theorem ggX7_takesRegion_X7_opens : GoodIn wsX7_takesRegion wsX7_opens := goodIn_r _ [107, 108, 109, 110, 115, 116, 117, 118, 119, 120, 121, 122, 123, 124, 125, 126, 127, 128] (by decide +kernel) (by decide +kernel)
set_option maxRecDepth 20000 in
theorem gX7_takesRegion_X7_opens : GoodIn wsX7_takesRegion (wsV RX7 174 RX7 yX7_opens wsX7_opens) := goodIn_app (goodIn_of _ (by decide +kernel)) ggX7_takesRegion_X7_opens
set_option maxRecDepth 20000 in
theorem ggX7_takesRegion_X7_takes : GoodIn wsX7_takesRegion wsX7_takes := goodIn_r _ [114, 15, 11, 12, 13, 7, 14, 16, 20, 21, 22, 23, 24, 25, 115, 116, 117, 118, 119, 120, 121, 122, 123, 124, 125, 126, 127, 128] (by decide +kernel) (by decide +kernel)
set_option maxRecDepth 20000 in
theorem gX7_takesRegion_X7_takes : GoodIn wsX7_takesRegion (wsV RX7 177 RX7 yX7_takes wsX7_takes) := goodIn_app (goodIn_of _ (by decide +kernel)) ggX7_takesRegion_X7_takes
theorem dX7_takesRegion_0 : decode cX7_takesRegion 0 = .ok (.aload_n 0, 1) := by decide +kernel
theorem dX7_takesRegion_1 : decode cX7_takesRegion 1 = .ok (.iconst 2, 1) := by decide +kernel
theorem dX7_takesRegion_2 : decode cX7_takesRegion 2 = .ok (.invokevirtual 168, 3) := by decide +kernel
theorem dX7_takesRegion_5 : decode cX7_takesRegion 5 = .ok (.ifCond .eq 11, 3) := by decide +kernel
theorem dX7_takesRegion_8 : decode cX7_takesRegion 8 = .ok (.aload_n 0, 1) := by decide +kernel
theorem dX7_takesRegion_9 : decode cX7_takesRegion 9 = .ok (.iconst 2, 1) := by decide +kernel
theorem dX7_takesRegion_10 : decode cX7_takesRegion 10 = .ok (.invokevirtual 171, 3) := by decide +kernel
theorem dX7_takesRegion_13 : decode cX7_takesRegion 13 = .ok (.ifCond .ne 5, 3) := by decide +kernel
theorem dX7_takesRegion_16 : decode cX7_takesRegion 16 = .ok (.iconst 0, 1) := by decide +kernel
theorem dX7_takesRegion_17 : decode cX7_takesRegion 17 = .ok (.ireturn, 1) := by decide +kernel
theorem dX7_takesRegion_18 : decode cX7_takesRegion 18 = .ok (.aload_n 0, 1) := by decide +kernel
theorem dX7_takesRegion_19 : decode cX7_takesRegion 19 = .ok (.aload_n 0, 1) := by decide +kernel
theorem dX7_takesRegion_20 : decode cX7_takesRegion 20 = .ok (.getfield 153, 3) := by decide +kernel
theorem dX7_takesRegion_23 : decode cX7_takesRegion 23 = .ok (.iconst 1, 1) := by decide +kernel
theorem dX7_takesRegion_24 : decode cX7_takesRegion 24 = .ok (.invokevirtual 165, 3) := by decide +kernel
theorem dX7_takesRegion_27 : decode cX7_takesRegion 27 = .ok (.aload_n 0, 1) := by decide +kernel
theorem dX7_takesRegion_28 : decode cX7_takesRegion 28 = .ok (.dup, 1) := by decide +kernel
theorem dX7_takesRegion_29 : decode cX7_takesRegion 29 = .ok (.getfield 156, 3) := by decide +kernel
theorem dX7_takesRegion_32 : decode cX7_takesRegion 32 = .ok (.iconst 1, 1) := by decide +kernel
theorem dX7_takesRegion_33 : decode cX7_takesRegion 33 = .ok (.iadd, 1) := by decide +kernel
theorem dX7_takesRegion_34 : decode cX7_takesRegion 34 = .ok (.putfield 156, 3) := by decide +kernel
theorem dX7_takesRegion_37 : decode cX7_takesRegion 37 = .ok (.aload_n 0, 1) := by decide +kernel
theorem dX7_takesRegion_38 : decode cX7_takesRegion 38 = .ok (.aload_n 0, 1) := by decide +kernel
theorem dX7_takesRegion_39 : decode cX7_takesRegion 39 = .ok (.getfield 153, 3) := by decide +kernel
theorem dX7_takesRegion_42 : decode cX7_takesRegion 42 = .ok (.aload_n 0, 1) := by decide +kernel
theorem dX7_takesRegion_43 : decode cX7_takesRegion 43 = .ok (.getfield 159, 3) := by decide +kernel
theorem dX7_takesRegion_46 : decode cX7_takesRegion 46 = .ok (.invokevirtual 174, 3) := by decide +kernel
theorem dX7_takesRegion_49 : decode cX7_takesRegion 49 = .ok (.aload_n 0, 1) := by decide +kernel
theorem dX7_takesRegion_50 : decode cX7_takesRegion 50 = .ok (.bipush 40, 2) := by decide +kernel
theorem dX7_takesRegion_52 : decode cX7_takesRegion 52 = .ok (.invokevirtual 177, 3) := by decide +kernel
theorem dX7_takesRegion_55 : decode cX7_takesRegion 55 = .ok (.ireturn, 1) := by decide +kernel
set_option maxRecDepth 20000 in
theorem ggX7_takesTurn_X7_takesFigure : GoodIn wsX7_takesTurn wsX7_takesFigure := goodIn_r _ [9, 10, 11, 2, 12, 13, 14, 8, 15, 3, 1, 16, 17, 18, 19, 20, 21, 22, 23, 24, 36, 37, 38, 39, 40, 41, 42, 43, 44, 45, 46, 47, 48, 49] (by decide +kernel) (by decide +kernel)
set_option maxRecDepth 20000 in
theorem gX7_takesTurn_X7_takesFigure : GoodIn wsX7_takesTurn (wsV RX7 168 RX7 yX7_takesFigure wsX7_takesFigure) := goodIn_app (goodIn_of _ (by decide +kernel)) ggX7_takesTurn_X7_takesFigure
set_option maxRecDepth 20000 in
theorem ggX7_takesTurn_X7_fails : GoodIn wsX7_takesTurn wsX7_fails := goodIn_r _ [22, 23, 3, 24, 36, 37, 38, 39, 40, 41, 42, 43, 44, 45, 46, 47, 48, 49] (by decide +kernel) (by decide +kernel)
set_option maxRecDepth 20000 in
theorem gX7_takesTurn_X7_fails : GoodIn wsX7_takesTurn (wsV RX7 150 RX7 yX7_fails wsX7_fails) := goodIn_app (goodIn_of _ (by decide +kernel)) ggX7_takesTurn_X7_fails
set_option maxRecDepth 20000 in
theorem ggX7_takesTurn_X7_opens : GoodIn wsX7_takesTurn wsX7_opens := goodIn_r _ [28, 29, 30, 31, 36, 37, 38, 39, 40, 41, 42, 43, 44, 45, 46, 47, 48, 49] (by decide +kernel) (by decide +kernel)
set_option maxRecDepth 20000 in
theorem gX7_takesTurn_X7_opens : GoodIn wsX7_takesTurn (wsV RX7 174 RX7 yX7_opens wsX7_opens) := goodIn_app (goodIn_of _ (by decide +kernel)) ggX7_takesTurn_X7_opens
set_option maxRecDepth 20000 in
theorem ggX7_takesTurn_X7_takes : GoodIn wsX7_takesTurn wsX7_takes := goodIn_r _ [35, 3, 12, 13, 14, 8, 15, 1, 19, 20, 21, 22, 23, 24, 36, 37, 38, 39, 40, 41, 42, 43, 44, 45, 46, 47, 48, 49] (by decide +kernel) (by decide +kernel)
set_option maxRecDepth 20000 in
theorem gX7_takesTurn_X7_takes : GoodIn wsX7_takesTurn (wsV RX7 177 RX7 yX7_takes wsX7_takes) := goodIn_app (goodIn_of _ (by decide +kernel)) ggX7_takesTurn_X7_takes
theorem dX7_takesTurn_0 : decode cX7_takesTurn 0 = .ok (.aload_n 0, 1) := by decide +kernel
theorem dX7_takesTurn_1 : decode cX7_takesTurn 1 = .ok (.iconst 3, 1) := by decide +kernel
theorem dX7_takesTurn_2 : decode cX7_takesTurn 2 = .ok (.invokevirtual 168, 3) := by decide +kernel
theorem dX7_takesTurn_5 : decode cX7_takesTurn 5 = .ok (.ifCond .ne 5, 3) := by decide +kernel
theorem dX7_takesTurn_8 : decode cX7_takesTurn 8 = .ok (.iconst 0, 1) := by decide +kernel
theorem dX7_takesTurn_9 : decode cX7_takesTurn 9 = .ok (.ireturn, 1) := by decide +kernel
theorem dX7_takesTurn_10 : decode cX7_takesTurn 10 = .ok (.aload_n 0, 1) := by decide +kernel
theorem dX7_takesTurn_11 : decode cX7_takesTurn 11 = .ok (.getfield 7, 3) := by decide +kernel
theorem dX7_takesTurn_14 : decode cX7_takesTurn 14 = .ok (.iconst 0, 1) := by decide +kernel
theorem dX7_takesTurn_15 : decode cX7_takesTurn 15 = .ok (.aload_n 0, 1) := by decide +kernel
theorem dX7_takesTurn_16 : decode cX7_takesTurn 16 = .ok (.getfield 153, 3) := by decide +kernel
theorem dX7_takesTurn_19 : decode cX7_takesTurn 19 = .ok (.iadd, 1) := by decide +kernel
theorem dX7_takesTurn_20 : decode cX7_takesTurn 20 = .ok (.iaload, 1) := by decide +kernel
theorem dX7_takesTurn_21 : decode cX7_takesTurn 21 = .ok (.iconst 1, 1) := by decide +kernel
theorem dX7_takesTurn_22 : decode cX7_takesTurn 22 = .ok (.if_icmp .eq 9, 3) := by decide +kernel
theorem dX7_takesTurn_25 : decode cX7_takesTurn 25 = .ok (.aload_n 0, 1) := by decide +kernel
theorem dX7_takesTurn_26 : decode cX7_takesTurn 26 = .ok (.iconst 4, 1) := by decide +kernel
theorem dX7_takesTurn_27 : decode cX7_takesTurn 27 = .ok (.invokevirtual 150, 3) := by decide +kernel
theorem dX7_takesTurn_30 : decode cX7_takesTurn 30 = .ok (.ireturn, 1) := by decide +kernel
theorem dX7_takesTurn_31 : decode cX7_takesTurn 31 = .ok (.aload_n 0, 1) := by decide +kernel
theorem dX7_takesTurn_32 : decode cX7_takesTurn 32 = .ok (.dup, 1) := by decide +kernel
theorem dX7_takesTurn_33 : decode cX7_takesTurn 33 = .ok (.getfield 133, 3) := by decide +kernel
theorem dX7_takesTurn_36 : decode cX7_takesTurn 36 = .ok (.iconst 1, 1) := by decide +kernel
theorem dX7_takesTurn_37 : decode cX7_takesTurn 37 = .ok (.iadd, 1) := by decide +kernel
theorem dX7_takesTurn_38 : decode cX7_takesTurn 38 = .ok (.putfield 133, 3) := by decide +kernel
theorem dX7_takesTurn_41 : decode cX7_takesTurn 41 = .ok (.aload_n 0, 1) := by decide +kernel
theorem dX7_takesTurn_42 : decode cX7_takesTurn 42 = .ok (.iconst (-1), 1) := by decide +kernel
theorem dX7_takesTurn_43 : decode cX7_takesTurn 43 = .ok (.aload_n 0, 1) := by decide +kernel
theorem dX7_takesTurn_44 : decode cX7_takesTurn 44 = .ok (.getfield 159, 3) := by decide +kernel
theorem dX7_takesTurn_47 : decode cX7_takesTurn 47 = .ok (.invokevirtual 174, 3) := by decide +kernel
theorem dX7_takesTurn_50 : decode cX7_takesTurn 50 = .ok (.aload_n 0, 1) := by decide +kernel
theorem dX7_takesTurn_51 : decode cX7_takesTurn 51 = .ok (.aload_n 0, 1) := by decide +kernel
theorem dX7_takesTurn_52 : decode cX7_takesTurn 52 = .ok (.getfield 153, 3) := by decide +kernel
theorem dX7_takesTurn_55 : decode cX7_takesTurn 55 = .ok (.putfield 159, 3) := by decide +kernel
theorem dX7_takesTurn_58 : decode cX7_takesTurn 58 = .ok (.aload_n 0, 1) := by decide +kernel
theorem dX7_takesTurn_59 : decode cX7_takesTurn 59 = .ok (.bipush 40, 2) := by decide +kernel
theorem dX7_takesTurn_61 : decode cX7_takesTurn 61 = .ok (.invokevirtual 177, 3) := by decide +kernel
theorem dX7_takesTurn_64 : decode cX7_takesTurn 64 = .ok (.ireturn, 1) := by decide +kernel
set_option maxRecDepth 20000 in
theorem ggX7_takesEnd_X7_fails : GoodIn wsX7_takesEnd wsX7_fails := goodIn_r _ [7, 8, 2, 9, 72, 73, 74, 75, 76, 77, 78, 79, 80, 81, 82, 83, 84, 85] (by decide +kernel) (by decide +kernel)
set_option maxRecDepth 20000 in
theorem gX7_takesEnd_X7_fails : GoodIn wsX7_takesEnd (wsV RX7 150 RX7 yX7_fails wsX7_fails) := goodIn_app (goodIn_of _ (by decide +kernel)) ggX7_takesEnd_X7_fails
set_option maxRecDepth 20000 in
theorem ggX7_takesEnd_X7_shuts : GoodIn wsX7_takesEnd wsX7_shuts := goodIn_r _ [13, 1, 14, 15, 16, 17, 18, 19, 20, 6, 21, 22, 23, 24, 25, 26, 27, 28, 29, 30, 31, 32, 33, 34, 35, 36, 37, 38, 39, 40, 41, 42, 43, 44, 45, 46, 47, 48, 49, 50, 51, 52, 53, 54, 55, 56, 57, 58, 59, 60, 61, 62, 63, 64, 65, 66, 67, 68, 69, 70, 71, 72, 73, 74, 75, 76, 77, 78, 79, 80, 81, 82, 83, 84, 85] (by decide +kernel) (by decide +kernel)
set_option maxRecDepth 20000 in
theorem gX7_takesEnd_X7_shuts : GoodIn wsX7_takesEnd (wsV RX7 180 RX7 yX7_shuts wsX7_shuts) := goodIn_app (goodIn_of _ (by decide +kernel)) ggX7_takesEnd_X7_shuts
theorem dX7_takesEnd_0 : decode cX7_takesEnd 0 = .ok (.aload_n 0, 1) := by decide +kernel
theorem dX7_takesEnd_1 : decode cX7_takesEnd 1 = .ok (.getfield 162, 3) := by decide +kernel
theorem dX7_takesEnd_4 : decode cX7_takesEnd 4 = .ok (.ifCond .ne 9, 3) := by decide +kernel
theorem dX7_takesEnd_7 : decode cX7_takesEnd 7 = .ok (.aload_n 0, 1) := by decide +kernel
theorem dX7_takesEnd_8 : decode cX7_takesEnd 8 = .ok (.iconst 1, 1) := by decide +kernel
theorem dX7_takesEnd_9 : decode cX7_takesEnd 9 = .ok (.invokevirtual 150, 3) := by decide +kernel
theorem dX7_takesEnd_12 : decode cX7_takesEnd 12 = .ok (.ireturn, 1) := by decide +kernel
theorem dX7_takesEnd_13 : decode cX7_takesEnd 13 = .ok (.aload_n 0, 1) := by decide +kernel
theorem dX7_takesEnd_14 : decode cX7_takesEnd 14 = .ok (.dup, 1) := by decide +kernel
theorem dX7_takesEnd_15 : decode cX7_takesEnd 15 = .ok (.getfield 133, 3) := by decide +kernel
theorem dX7_takesEnd_18 : decode cX7_takesEnd 18 = .ok (.iconst 1, 1) := by decide +kernel
theorem dX7_takesEnd_19 : decode cX7_takesEnd 19 = .ok (.iadd, 1) := by decide +kernel
theorem dX7_takesEnd_20 : decode cX7_takesEnd 20 = .ok (.putfield 133, 3) := by decide +kernel
theorem dX7_takesEnd_23 : decode cX7_takesEnd 23 = .ok (.aload_n 0, 1) := by decide +kernel
theorem dX7_takesEnd_24 : decode cX7_takesEnd 24 = .ok (.invokevirtual 180, 3) := by decide +kernel
theorem dX7_takesEnd_27 : decode cX7_takesEnd 27 = .ok (.iconst 1, 1) := by decide +kernel
theorem dX7_takesEnd_28 : decode cX7_takesEnd 28 = .ok (.ireturn, 1) := by decide +kernel
theorem dX7_sortOf_0 : decode cX7_sortOf 0 = .ok (.iload_n 0, 1) := by decide +kernel
theorem dX7_sortOf_1 : decode cX7_sortOf 1 = .ok (.bipush 114, 2) := by decide +kernel
theorem dX7_sortOf_3 : decode cX7_sortOf 3 = .ok (.if_icmp .ne 7, 3) := by decide +kernel
theorem dX7_sortOf_6 : decode cX7_sortOf 6 = .ok (.iconst 0, 1) := by decide +kernel
theorem dX7_sortOf_7 : decode cX7_sortOf 7 = .ok (.goto 56, 3) := by decide +kernel
theorem dX7_sortOf_10 : decode cX7_sortOf 10 = .ok (.iload_n 0, 1) := by decide +kernel
theorem dX7_sortOf_11 : decode cX7_sortOf 11 = .ok (.bipush 119, 2) := by decide +kernel
theorem dX7_sortOf_13 : decode cX7_sortOf 13 = .ok (.if_icmp .ne 7, 3) := by decide +kernel
theorem dX7_sortOf_16 : decode cX7_sortOf 16 = .ok (.iconst 1, 1) := by decide +kernel
theorem dX7_sortOf_17 : decode cX7_sortOf 17 = .ok (.goto 46, 3) := by decide +kernel
theorem dX7_sortOf_20 : decode cX7_sortOf 20 = .ok (.iload_n 0, 1) := by decide +kernel
theorem dX7_sortOf_21 : decode cX7_sortOf 21 = .ok (.bipush 112, 2) := by decide +kernel
theorem dX7_sortOf_23 : decode cX7_sortOf 23 = .ok (.if_icmp .ne 7, 3) := by decide +kernel
theorem dX7_sortOf_26 : decode cX7_sortOf 26 = .ok (.iconst 4, 1) := by decide +kernel
theorem dX7_sortOf_27 : decode cX7_sortOf 27 = .ok (.goto 36, 3) := by decide +kernel
theorem dX7_sortOf_30 : decode cX7_sortOf 30 = .ok (.iload_n 0, 1) := by decide +kernel
theorem dX7_sortOf_31 : decode cX7_sortOf 31 = .ok (.bipush 103, 2) := by decide +kernel
theorem dX7_sortOf_33 : decode cX7_sortOf 33 = .ok (.if_icmp .ne 7, 3) := by decide +kernel
theorem dX7_sortOf_36 : decode cX7_sortOf 36 = .ok (.iconst 5, 1) := by decide +kernel
theorem dX7_sortOf_37 : decode cX7_sortOf 37 = .ok (.goto 26, 3) := by decide +kernel
theorem dX7_sortOf_40 : decode cX7_sortOf 40 = .ok (.iload_n 0, 1) := by decide +kernel
theorem dX7_sortOf_41 : decode cX7_sortOf 41 = .ok (.bipush 102, 2) := by decide +kernel
theorem dX7_sortOf_43 : decode cX7_sortOf 43 = .ok (.if_icmp .ne 8, 3) := by decide +kernel
theorem dX7_sortOf_46 : decode cX7_sortOf 46 = .ok (.bipush 6, 2) := by decide +kernel
theorem dX7_sortOf_48 : decode cX7_sortOf 48 = .ok (.goto 15, 3) := by decide +kernel
theorem dX7_sortOf_51 : decode cX7_sortOf 51 = .ok (.iload_n 0, 1) := by decide +kernel
theorem dX7_sortOf_52 : decode cX7_sortOf 52 = .ok (.bipush 106, 2) := by decide +kernel
theorem dX7_sortOf_54 : decode cX7_sortOf 54 = .ok (.if_icmp .ne 8, 3) := by decide +kernel
theorem dX7_sortOf_57 : decode cX7_sortOf 57 = .ok (.bipush 7, 2) := by decide +kernel
theorem dX7_sortOf_59 : decode cX7_sortOf 59 = .ok (.goto 4, 3) := by decide +kernel
theorem dX7_sortOf_62 : decode cX7_sortOf 62 = .ok (.iconst (-1), 1) := by decide +kernel
theorem dX7_sortOf_63 : decode cX7_sortOf 63 = .ok (.ireturn, 1) := by decide +kernel
set_option maxRecDepth 20000 in
theorem ggX7_takesItem_X7_takesEnd : GoodIn wsX7_takesItem wsX7_takesEnd := goodIn_r _ [6, 7, 1, 8, 9, 10, 5, 11, 12, 13, 14, 15, 16, 17, 18, 19, 20, 21, 22, 23, 24, 25, 26, 27, 28, 29, 30, 31, 32, 33, 34, 35, 36, 37, 38, 39, 40, 41, 42, 43, 44, 45, 46, 47, 48, 49, 50, 51, 52, 53, 54, 55, 56, 57, 58, 59, 60, 61, 62, 63, 64, 65, 66, 67, 68, 69, 70, 71, 72, 73, 74, 75, 134, 135, 136, 137, 138, 139, 140, 141, 142, 143, 144, 145, 146, 147] (by decide +kernel) (by decide +kernel)
set_option maxRecDepth 20000 in
theorem gX7_takesItem_X7_takesEnd : GoodIn wsX7_takesItem (wsV RX7 183 RX7 yX7_takesEnd wsX7_takesEnd) := goodIn_app (goodIn_of _ (by decide +kernel)) ggX7_takesItem_X7_takesEnd
set_option maxRecDepth 20000 in
theorem ggX7_takesItem_X7_sortOf : GoodIn wsX7_takesItem wsX7_sortOf := goodIn_r _ [78] (by decide +kernel) (by decide +kernel)
set_option maxRecDepth 20000 in
theorem gX7_takesItem_X7_sortOf : GoodIn wsX7_takesItem (va_wsS RX7 187 yX7_sortOf wsX7_sortOf) := goodIn_app (goodIn_of _ (by decide +kernel)) ggX7_takesItem_X7_sortOf
set_option maxRecDepth 20000 in
theorem ggX7_takesItem_X7_fails : GoodIn wsX7_takesItem wsX7_fails := goodIn_r _ [11, 12, 1, 13, 134, 135, 136, 137, 138, 139, 140, 141, 142, 143, 144, 145, 146, 147] (by decide +kernel) (by decide +kernel)
set_option maxRecDepth 20000 in
theorem gX7_takesItem_X7_fails : GoodIn wsX7_takesItem (wsV RX7 150 RX7 yX7_fails wsX7_fails) := goodIn_app (goodIn_of _ (by decide +kernel)) ggX7_takesItem_X7_fails
set_option maxRecDepth 20000 in
theorem ggX7_takesItem_X7_takesRegion : GoodIn wsX7_takesItem wsX7_takesRegion := goodIn_r _ [82, 83, 21, 20, 84, 85, 86, 5, 87, 88, 89, 90, 91, 92, 93, 1, 26, 94, 95, 96, 8, 9, 10, 11, 12, 13, 97, 98, 99, 100, 101, 102, 103, 104, 105, 106, 107, 108, 109, 110, 111, 112, 113, 114, 115, 116, 117, 118, 119, 120, 121, 54, 55, 56, 57, 58, 59, 60, 61, 62, 63, 64, 65, 38, 39, 40, 41, 22, 23, 24, 25, 27, 28, 29, 30, 31, 32, 33, 34, 35, 36, 37, 42, 43, 44, 45, 46, 47, 48, 49, 50, 51, 52, 53, 66, 67, 68, 69, 70, 71, 72, 73, 74, 75, 122, 123, 124, 125, 18, 7, 19, 126, 127, 128, 129, 134, 135, 136, 137, 138, 139, 140, 141, 142, 143, 144, 145, 146, 147] (by decide +kernel) (by decide +kernel)
set_option maxRecDepth 20000 in
theorem gX7_takesItem_X7_takesRegion : GoodIn wsX7_takesItem (wsV RX7 190 RX7 yX7_takesRegion wsX7_takesRegion) := goodIn_app (goodIn_of _ (by decide +kernel)) ggX7_takesItem_X7_takesRegion
set_option maxRecDepth 20000 in
theorem ggX7_takesItem_X7_takesTurn : GoodIn wsX7_takesItem wsX7_takesTurn := goodIn_r _ [133, 26, 83, 1, 20, 84, 85, 86, 5, 87, 88, 89, 90, 91, 92, 93, 94, 95, 96, 8, 9, 10, 11, 12, 13, 122, 123, 124, 125, 18, 7, 19, 126, 127, 128, 129, 134, 135, 136, 137, 138, 139, 140, 141, 142, 143, 144, 145, 146, 147] (by decide +kernel) (by decide +kernel)
set_option maxRecDepth 20000 in
theorem gX7_takesItem_X7_takesTurn : GoodIn wsX7_takesItem (wsV RX7 193 RX7 yX7_takesTurn wsX7_takesTurn) := goodIn_app (goodIn_of _ (by decide +kernel)) ggX7_takesItem_X7_takesTurn
set_option maxRecDepth 20000 in
theorem ggX7_takesItem_X7_takesFigure : GoodIn wsX7_takesItem wsX7_takesFigure := goodIn_r _ [87, 88, 89, 83, 90, 91, 92, 5, 93, 1, 26, 94, 95, 96, 8, 9, 10, 11, 12, 13, 134, 135, 136, 137, 138, 139, 140, 141, 142, 143, 144, 145, 146, 147] (by decide +kernel) (by decide +kernel)
set_option maxRecDepth 20000 in
theorem gX7_takesItem_X7_takesFigure : GoodIn wsX7_takesItem (wsV RX7 168 RX7 yX7_takesFigure wsX7_takesFigure) := goodIn_app (goodIn_of _ (by decide +kernel)) ggX7_takesItem_X7_takesFigure
set_option maxRecDepth 20000 in
theorem ggX7_takesItem_X7_did : GoodIn wsX7_takesItem wsX7_did := goodIn_r _ [100, 26, 21, 20, 83, 1, 8, 9, 10, 5, 11, 12, 13, 101, 102, 103, 104, 105, 106, 107, 94, 95, 96, 108, 109, 110, 111, 112, 113, 114, 115, 116, 117, 118, 119, 120, 121, 54, 55, 56, 57, 58, 59, 60, 61, 62, 63, 64, 65, 38, 39, 40, 41, 22, 23, 24, 25, 27, 28, 29, 30, 31, 32, 33, 34, 35, 36, 37, 42, 43, 44, 45, 46, 47, 48, 49, 50, 51, 52, 53, 66, 67, 68, 69, 134, 135, 136, 137, 138, 139, 140, 141, 142, 143, 144, 145, 146, 147] (by decide +kernel) (by decide +kernel)
set_option maxRecDepth 20000 in
theorem gX7_takesItem_X7_did : GoodIn wsX7_takesItem (wsV RX7 171 RX7 yX7_did wsX7_did) := goodIn_app (goodIn_of _ (by decide +kernel)) ggX7_takesItem_X7_did
set_option maxRecDepth 20000 in
theorem ggX7_takesItem_X7_takes : GoodIn wsX7_takesItem wsX7_takes := goodIn_r _ [129, 1, 90, 91, 92, 5, 93, 26, 8, 9, 10, 11, 12, 13, 134, 135, 136, 137, 138, 139, 140, 141, 142, 143, 144, 145, 146, 147] (by decide +kernel) (by decide +kernel)
set_option maxRecDepth 20000 in
theorem gX7_takesItem_X7_takes : GoodIn wsX7_takesItem (wsV RX7 177 RX7 yX7_takes wsX7_takes) := goodIn_app (goodIn_of _ (by decide +kernel)) ggX7_takesItem_X7_takes
theorem dX7_takesItem_0 : decode cX7_takesItem 0 = .ok (.iload_n 1, 1) := by decide +kernel
theorem dX7_takesItem_1 : decode cX7_takesItem 1 = .ok (.bipush 41, 2) := by decide +kernel
theorem dX7_takesItem_3 : decode cX7_takesItem 3 = .ok (.if_icmp .ne 8, 3) := by decide +kernel
theorem dX7_takesItem_6 : decode cX7_takesItem 6 = .ok (.aload_n 0, 1) := by decide +kernel
theorem dX7_takesItem_7 : decode cX7_takesItem 7 = .ok (.invokevirtual 183, 3) := by decide +kernel
theorem dX7_takesItem_10 : decode cX7_takesItem 10 = .ok (.ireturn, 1) := by decide +kernel
theorem dX7_takesItem_11 : decode cX7_takesItem 11 = .ok (.iload_n 1, 1) := by decide +kernel
theorem dX7_takesItem_12 : decode cX7_takesItem 12 = .ok (.invokestatic 187, 3) := by decide +kernel
theorem dX7_takesItem_15 : decode cX7_takesItem 15 = .ok (.istore_n 2, 1) := by decide +kernel
theorem dX7_takesItem_16 : decode cX7_takesItem 16 = .ok (.iload_n 1, 1) := by decide +kernel
theorem dX7_takesItem_17 : decode cX7_takesItem 17 = .ok (.bipush 116, 2) := by decide +kernel
theorem dX7_takesItem_19 : decode cX7_takesItem 19 = .ok (.if_icmp .eq 20, 3) := by decide +kernel
theorem dX7_takesItem_22 : decode cX7_takesItem 22 = .ok (.iload_n 1, 1) := by decide +kernel
theorem dX7_takesItem_23 : decode cX7_takesItem 23 = .ok (.bipush 108, 2) := by decide +kernel
theorem dX7_takesItem_25 : decode cX7_takesItem 25 = .ok (.if_icmp .eq 14, 3) := by decide +kernel
theorem dX7_takesItem_28 : decode cX7_takesItem 28 = .ok (.iload_n 2, 1) := by decide +kernel
theorem dX7_takesItem_29 : decode cX7_takesItem 29 = .ok (.iconst (-1), 1) := by decide +kernel
theorem dX7_takesItem_30 : decode cX7_takesItem 30 = .ok (.if_icmp .ne 9, 3) := by decide +kernel
theorem dX7_takesItem_33 : decode cX7_takesItem 33 = .ok (.aload_n 0, 1) := by decide +kernel
theorem dX7_takesItem_34 : decode cX7_takesItem 34 = .ok (.iconst 1, 1) := by decide +kernel
theorem dX7_takesItem_35 : decode cX7_takesItem 35 = .ok (.invokevirtual 150, 3) := by decide +kernel
theorem dX7_takesItem_38 : decode cX7_takesItem 38 = .ok (.ireturn, 1) := by decide +kernel
theorem dX7_takesItem_39 : decode cX7_takesItem 39 = .ok (.aload_n 0, 1) := by decide +kernel
theorem dX7_takesItem_40 : decode cX7_takesItem 40 = .ok (.dup, 1) := by decide +kernel
theorem dX7_takesItem_41 : decode cX7_takesItem 41 = .ok (.getfield 133, 3) := by decide +kernel
theorem dX7_takesItem_44 : decode cX7_takesItem 44 = .ok (.iconst 1, 1) := by decide +kernel
theorem dX7_takesItem_45 : decode cX7_takesItem 45 = .ok (.iadd, 1) := by decide +kernel
theorem dX7_takesItem_46 : decode cX7_takesItem 46 = .ok (.putfield 133, 3) := by decide +kernel
theorem dX7_takesItem_49 : decode cX7_takesItem 49 = .ok (.iload_n 1, 1) := by decide +kernel
theorem dX7_takesItem_50 : decode cX7_takesItem 50 = .ok (.bipush 108, 2) := by decide +kernel
theorem dX7_takesItem_52 : decode cX7_takesItem 52 = .ok (.if_icmp .ne 8, 3) := by decide +kernel
theorem dX7_takesItem_55 : decode cX7_takesItem 55 = .ok (.aload_n 0, 1) := by decide +kernel
theorem dX7_takesItem_56 : decode cX7_takesItem 56 = .ok (.invokevirtual 190, 3) := by decide +kernel
theorem dX7_takesItem_59 : decode cX7_takesItem 59 = .ok (.ireturn, 1) := by decide +kernel
theorem dX7_takesItem_60 : decode cX7_takesItem 60 = .ok (.iload_n 1, 1) := by decide +kernel
theorem dX7_takesItem_61 : decode cX7_takesItem 61 = .ok (.bipush 116, 2) := by decide +kernel
theorem dX7_takesItem_63 : decode cX7_takesItem 63 = .ok (.if_icmp .ne 8, 3) := by decide +kernel
theorem dX7_takesItem_66 : decode cX7_takesItem 66 = .ok (.aload_n 0, 1) := by decide +kernel
theorem dX7_takesItem_67 : decode cX7_takesItem 67 = .ok (.invokevirtual 193, 3) := by decide +kernel
theorem dX7_takesItem_70 : decode cX7_takesItem 70 = .ok (.ireturn, 1) := by decide +kernel
theorem dX7_takesItem_71 : decode cX7_takesItem 71 = .ok (.aload_n 0, 1) := by decide +kernel
theorem dX7_takesItem_72 : decode cX7_takesItem 72 = .ok (.iload_n 2, 1) := by decide +kernel
theorem dX7_takesItem_73 : decode cX7_takesItem 73 = .ok (.iconst 4, 1) := by decide +kernel
theorem dX7_takesItem_74 : decode cX7_takesItem 74 = .ok (.if_icmp .eq 8, 3) := by decide +kernel
theorem dX7_takesItem_77 : decode cX7_takesItem 77 = .ok (.iload_n 2, 1) := by decide +kernel
theorem dX7_takesItem_78 : decode cX7_takesItem 78 = .ok (.iconst 5, 1) := by decide +kernel
theorem dX7_takesItem_79 : decode cX7_takesItem 79 = .ok (.if_icmp .ne 7, 3) := by decide +kernel
theorem dX7_takesItem_82 : decode cX7_takesItem 82 = .ok (.iconst 1, 1) := by decide +kernel
theorem dX7_takesItem_83 : decode cX7_takesItem 83 = .ok (.goto 4, 3) := by decide +kernel
theorem dX7_takesItem_86 : decode cX7_takesItem 86 = .ok (.iconst 3, 1) := by decide +kernel
theorem dX7_takesItem_87 : decode cX7_takesItem 87 = .ok (.invokevirtual 168, 3) := by decide +kernel
theorem dX7_takesItem_90 : decode cX7_takesItem 90 = .ok (.ifCond .eq 24, 3) := by decide +kernel
theorem dX7_takesItem_93 : decode cX7_takesItem 93 = .ok (.aload_n 0, 1) := by decide +kernel
theorem dX7_takesItem_94 : decode cX7_takesItem 94 = .ok (.iload_n 2, 1) := by decide +kernel
theorem dX7_takesItem_95 : decode cX7_takesItem 95 = .ok (.invokevirtual 171, 3) := by decide +kernel
theorem dX7_takesItem_98 : decode cX7_takesItem 98 = .ok (.ifCond .eq 16, 3) := by decide +kernel
theorem dX7_takesItem_101 : decode cX7_takesItem 101 = .ok (.aload_n 0, 1) := by decide +kernel
theorem dX7_takesItem_102 : decode cX7_takesItem 102 = .ok (.bipush 59, 2) := by decide +kernel
theorem dX7_takesItem_104 : decode cX7_takesItem 104 = .ok (.invokevirtual 177, 3) := by decide +kernel
theorem dX7_takesItem_107 : decode cX7_takesItem 107 = .ok (.ifCond .eq 7, 3) := by decide +kernel
theorem dX7_takesItem_110 : decode cX7_takesItem 110 = .ok (.iconst 1, 1) := by decide +kernel
theorem dX7_takesItem_111 : decode cX7_takesItem 111 = .ok (.goto 4, 3) := by decide +kernel
theorem dX7_takesItem_114 : decode cX7_takesItem 114 = .ok (.iconst 0, 1) := by decide +kernel
theorem dX7_takesItem_115 : decode cX7_takesItem 115 = .ok (.ireturn, 1) := by decide +kernel
set_option maxRecDepth 20000 in
theorem ggX7_run_X7_here : GoodIn wsX7_run wsX7_here := goodIn_r _ [12, 2, 1, 138, 139, 140, 141, 142, 143, 144, 145, 146, 147, 148, 149, 150, 151] (by decide +kernel) (by decide +kernel)
set_option maxRecDepth 20000 in
theorem gX7_run_X7_here : GoodIn wsX7_run (wsV RX7 142 RX7 yX7_here wsX7_here) := goodIn_app (goodIn_of _ (by decide +kernel)) ggX7_run_X7_here
set_option maxRecDepth 20000 in
theorem ggX7_run_X7_takesItem : GoodIn wsX7_run wsX7_takesItem := goodIn_r _ [16, 2, 17, 18, 19, 11, 20, 4, 21, 22, 23, 24, 6, 7, 25, 26, 27, 28, 29, 30, 3, 5, 31, 32, 33, 34, 1, 35, 36, 37, 38, 39, 40, 41, 42, 43, 44, 45, 46, 47, 48, 49, 50, 51, 52, 53, 54, 55, 56, 57, 58, 59, 60, 61, 62, 63, 64, 65, 66, 67, 68, 69, 70, 71, 72, 73, 74, 75, 76, 77, 78, 79, 80, 81, 82, 83, 84, 85, 86, 87, 88, 89, 90, 91, 92, 93, 94, 95, 96, 97, 8, 9, 10, 12, 98, 99, 100, 101, 102, 103, 104, 105, 106, 107, 108, 109, 110, 111, 112, 113, 114, 115, 116, 117, 118, 119, 120, 121, 122, 123, 124, 125, 126, 127, 128, 129, 130, 131, 132, 133, 134, 135, 136, 137, 138, 139, 140, 141, 142, 143, 144, 145, 146, 147, 148, 149, 150, 151] (by decide +kernel) (by decide +kernel)
set_option maxRecDepth 20000 in
theorem gX7_run_X7_takesItem : GoodIn wsX7_run (wsV RX7 196 RX7 yX7_takesItem wsX7_takesItem) := goodIn_app (goodIn_of _ (by decide +kernel)) ggX7_run_X7_takesItem
set_option maxRecDepth 20000 in
theorem ggX7_run_X7_fails : GoodIn wsX7_run wsX7_fails := goodIn_r _ [24, 6, 2, 7, 138, 139, 140, 141, 142, 143, 144, 145, 146, 147, 148, 149, 150, 151] (by decide +kernel) (by decide +kernel)
set_option maxRecDepth 20000 in
theorem gX7_run_X7_fails : GoodIn wsX7_run (wsV RX7 150 RX7 yX7_fails wsX7_fails) := goodIn_app (goodIn_of _ (by decide +kernel)) ggX7_run_X7_fails
set_option maxRecDepth 20000 in
theorem ggX7_run_X7_shuts : GoodIn wsX7_run wsX7_shuts := goodIn_r _ [28, 4, 29, 30, 3, 5, 31, 32, 33, 11, 34, 1, 35, 36, 37, 38, 39, 40, 41, 42, 43, 44, 45, 46, 47, 48, 49, 50, 51, 52, 53, 54, 55, 56, 57, 58, 59, 60, 61, 62, 63, 64, 65, 66, 67, 68, 69, 70, 71, 72, 73, 74, 75, 76, 77, 78, 79, 80, 81, 82, 83, 138, 139, 140, 141, 142, 143, 144, 145, 146, 147, 148, 149, 150, 151] (by decide +kernel) (by decide +kernel)
set_option maxRecDepth 20000 in
theorem gX7_run_X7_shuts : GoodIn wsX7_run (wsV RX7 180 RX7 yX7_shuts wsX7_shuts) := goodIn_app (goodIn_of _ (by decide +kernel)) ggX7_run_X7_shuts
theorem dX7_run_0 : decode cX7_run 0 = .ok (.aload_n 0, 1) := by decide +kernel
theorem dX7_run_1 : decode cX7_run 1 = .ok (.getfield 7, 3) := by decide +kernel
theorem dX7_run_4 : decode cX7_run 4 = .ok (.bipush 91, 2) := by decide +kernel
theorem dX7_run_6 : decode cX7_run 6 = .ok (.iaload, 1) := by decide +kernel
theorem dX7_run_7 : decode cX7_run 7 = .ok (.istore_n 1, 1) := by decide +kernel
theorem dX7_run_8 : decode cX7_run 8 = .ok (.aload_n 0, 1) := by decide +kernel
theorem dX7_run_9 : decode cX7_run 9 = .ok (.iconst 0, 1) := by decide +kernel
theorem dX7_run_10 : decode cX7_run 10 = .ok (.putfield 133, 3) := by decide +kernel
theorem dX7_run_13 : decode cX7_run 13 = .ok (.aload_n 0, 1) := by decide +kernel
theorem dX7_run_14 : decode cX7_run 14 = .ok (.iconst 0, 1) := by decide +kernel
theorem dX7_run_15 : decode cX7_run 15 = .ok (.putfield 159, 3) := by decide +kernel
theorem dX7_run_18 : decode cX7_run 18 = .ok (.aload_n 0, 1) := by decide +kernel
theorem dX7_run_19 : decode cX7_run 19 = .ok (.iconst 0, 1) := by decide +kernel
theorem dX7_run_20 : decode cX7_run 20 = .ok (.putfield 162, 3) := by decide +kernel
theorem dX7_run_23 : decode cX7_run 23 = .ok (.aload_n 0, 1) := by decide +kernel
theorem dX7_run_24 : decode cX7_run 24 = .ok (.iconst 0, 1) := by decide +kernel
theorem dX7_run_25 : decode cX7_run 25 = .ok (.putfield 156, 3) := by decide +kernel
theorem dX7_run_28 : decode cX7_run 28 = .ok (.aload_n 0, 1) := by decide +kernel
theorem dX7_run_29 : decode cX7_run 29 = .ok (.iconst 0, 1) := by decide +kernel
theorem dX7_run_30 : decode cX7_run 30 = .ok (.putfield 136, 3) := by decide +kernel
theorem dX7_run_33 : decode cX7_run 33 = .ok (.aload_n 0, 1) := by decide +kernel
theorem dX7_run_34 : decode cX7_run 34 = .ok (.iconst (-1), 1) := by decide +kernel
theorem dX7_run_35 : decode cX7_run 35 = .ok (.putfield 139, 3) := by decide +kernel
theorem dX7_run_38 : decode cX7_run 38 = .ok (.iconst 1, 1) := by decide +kernel
theorem dX7_run_39 : decode cX7_run 39 = .ok (.istore_n 2, 1) := by decide +kernel
theorem dX7_run_40 : decode cX7_run 40 = .ok (.iload_n 2, 1) := by decide +kernel
theorem dX7_run_41 : decode cX7_run 41 = .ok (.ifCond .eq 23, 3) := by decide +kernel
theorem dX7_run_44 : decode cX7_run 44 = .ok (.aload_n 0, 1) := by decide +kernel
theorem dX7_run_45 : decode cX7_run 45 = .ok (.invokevirtual 142, 3) := by decide +kernel
theorem dX7_run_48 : decode cX7_run 48 = .ok (.iconst (-1), 1) := by decide +kernel
theorem dX7_run_49 : decode cX7_run 49 = .ok (.if_icmp .eq 15, 3) := by decide +kernel
theorem dX7_run_52 : decode cX7_run 52 = .ok (.aload_n 0, 1) := by decide +kernel
theorem dX7_run_53 : decode cX7_run 53 = .ok (.aload_n 0, 1) := by decide +kernel
theorem dX7_run_54 : decode cX7_run 54 = .ok (.invokevirtual 142, 3) := by decide +kernel
theorem dX7_run_57 : decode cX7_run 57 = .ok (.invokevirtual 196, 3) := by decide +kernel
theorem dX7_run_60 : decode cX7_run 60 = .ok (.istore_n 2, 1) := by decide +kernel
theorem dX7_run_61 : decode cX7_run 61 = .ok (.goto (-21), 3) := by decide +kernel
theorem dX7_run_64 : decode cX7_run 64 = .ok (.iload_n 2, 1) := by decide +kernel
theorem dX7_run_65 : decode cX7_run 65 = .ok (.ifCond .eq 16, 3) := by decide +kernel
theorem dX7_run_68 : decode cX7_run 68 = .ok (.aload_n 0, 1) := by decide +kernel
theorem dX7_run_69 : decode cX7_run 69 = .ok (.getfield 162, 3) := by decide +kernel
theorem dX7_run_72 : decode cX7_run 72 = .ok (.ifCond .le 9, 3) := by decide +kernel
theorem dX7_run_75 : decode cX7_run 75 = .ok (.aload_n 0, 1) := by decide +kernel
theorem dX7_run_76 : decode cX7_run 76 = .ok (.iconst 1, 1) := by decide +kernel
theorem dX7_run_77 : decode cX7_run 77 = .ok (.invokevirtual 150, 3) := by decide +kernel
theorem dX7_run_80 : decode cX7_run 80 = .ok (.istore_n 2, 1) := by decide +kernel
theorem dX7_run_81 : decode cX7_run 81 = .ok (.aload_n 0, 1) := by decide +kernel
theorem dX7_run_82 : decode cX7_run 82 = .ok (.getfield 162, 3) := by decide +kernel
theorem dX7_run_85 : decode cX7_run 85 = .ok (.ifCond .le 10, 3) := by decide +kernel
theorem dX7_run_88 : decode cX7_run 88 = .ok (.aload_n 0, 1) := by decide +kernel
theorem dX7_run_89 : decode cX7_run 89 = .ok (.invokevirtual 180, 3) := by decide +kernel
theorem dX7_run_92 : decode cX7_run 92 = .ok (.goto (-11), 3) := by decide +kernel
theorem dX7_run_95 : decode cX7_run 95 = .ok (.aload_n 0, 1) := by decide +kernel
theorem dX7_run_96 : decode cX7_run 96 = .ok (.getfield 7, 3) := by decide +kernel
theorem dX7_run_99 : decode cX7_run 99 = .ok (.sipush 1372, 3) := by decide +kernel
theorem dX7_run_102 : decode cX7_run 102 = .ok (.iconst 0, 1) := by decide +kernel
theorem dX7_run_103 : decode cX7_run 103 = .ok (.iastore, 1) := by decide +kernel
theorem dX7_run_104 : decode cX7_run 104 = .ok (.aload_n 0, 1) := by decide +kernel
theorem dX7_run_105 : decode cX7_run 105 = .ok (.getfield 7, 3) := by decide +kernel
theorem dX7_run_108 : decode cX7_run 108 = .ok (.sipush 1613, 3) := by decide +kernel
theorem dX7_run_111 : decode cX7_run 111 = .ok (.aload_n 0, 1) := by decide +kernel
theorem dX7_run_112 : decode cX7_run 112 = .ok (.getfield 139, 3) := by decide +kernel
theorem dX7_run_115 : decode cX7_run 115 = .ok (.iastore, 1) := by decide +kernel
theorem dX7_run_116 : decode cX7_run 116 = .ok (.aload_n 0, 1) := by decide +kernel
theorem dX7_run_117 : decode cX7_run 117 = .ok (.getfield 136, 3) := by decide +kernel
theorem dX7_run_120 : decode cX7_run 120 = .ok (.ifCond .le 13, 3) := by decide +kernel
theorem dX7_run_123 : decode cX7_run 123 = .ok (.bipush (-10), 2) := by decide +kernel
theorem dX7_run_125 : decode cX7_run 125 = .ok (.aload_n 0, 1) := by decide +kernel
theorem dX7_run_126 : decode cX7_run 126 = .ok (.getfield 136, 3) := by decide +kernel
theorem dX7_run_129 : decode cX7_run 129 = .ok (.isub, 1) := by decide +kernel
theorem dX7_run_130 : decode cX7_run 130 = .ok (.goto 12, 3) := by decide +kernel
theorem dX7_run_133 : decode cX7_run 133 = .ok (.aload_n 0, 1) := by decide +kernel
theorem dX7_run_134 : decode cX7_run 134 = .ok (.getfield 7, 3) := by decide +kernel
theorem dX7_run_137 : decode cX7_run 137 = .ok (.bipush 91, 2) := by decide +kernel
theorem dX7_run_139 : decode cX7_run 139 = .ok (.iaload, 1) := by decide +kernel
theorem dX7_run_140 : decode cX7_run 140 = .ok (.iload_n 1, 1) := by decide +kernel
theorem dX7_run_141 : decode cX7_run 141 = .ok (.isub, 1) := by decide +kernel
theorem dX7_run_142 : decode cX7_run 142 = .ok (.ireturn, 1) := by decide +kernel
theorem dX7_fault_0 : decode cX7_fault 0 = .ok (.aload_n 0, 1) := by decide +kernel
theorem dX7_fault_1 : decode cX7_fault 1 = .ok (.getfield 7, 3) := by decide +kernel
theorem dX7_fault_4 : decode cX7_fault 4 = .ok (.sipush 1613, 3) := by decide +kernel
theorem dX7_fault_7 : decode cX7_fault 7 = .ok (.iaload, 1) := by decide +kernel
theorem dX7_fault_8 : decode cX7_fault 8 = .ok (.ireturn, 1) := by decide +kernel
theorem dX7_whoIs_0 : decode cX7_whoIs 0 = .ok (.iconst 0, 1) := by decide +kernel
theorem dX7_whoIs_1 : decode cX7_whoIs 1 = .ok (.istore_n 2, 1) := by decide +kernel
theorem dX7_whoIs_2 : decode cX7_whoIs 2 = .ok (.iconst 0, 1) := by decide +kernel
theorem dX7_whoIs_3 : decode cX7_whoIs 3 = .ok (.istore_n 3, 1) := by decide +kernel
theorem dX7_whoIs_4 : decode cX7_whoIs 4 = .ok (.iload_n 3, 1) := by decide +kernel
theorem dX7_whoIs_5 : decode cX7_whoIs 5 = .ok (.iconst 4, 1) := by decide +kernel
theorem dX7_whoIs_6 : decode cX7_whoIs 6 = .ok (.if_icmp .ge 31, 3) := by decide +kernel
theorem dX7_whoIs_9 : decode cX7_whoIs 9 = .ok (.iload_n 2, 1) := by decide +kernel
theorem dX7_whoIs_10 : decode cX7_whoIs 10 = .ok (.aload_n 0, 1) := by decide +kernel
theorem dX7_whoIs_11 : decode cX7_whoIs 11 = .ok (.getfield 7, 3) := by decide +kernel
theorem dX7_whoIs_14 : decode cX7_whoIs 14 = .ok (.iconst 0, 1) := by decide +kernel
theorem dX7_whoIs_15 : decode cX7_whoIs 15 = .ok (.iload_n 3, 1) := by decide +kernel
theorem dX7_whoIs_16 : decode cX7_whoIs 16 = .ok (.iadd, 1) := by decide +kernel
theorem dX7_whoIs_17 : decode cX7_whoIs 17 = .ok (.iaload, 1) := by decide +kernel
theorem dX7_whoIs_18 : decode cX7_whoIs 18 = .ok (.iload_n 1, 1) := by decide +kernel
theorem dX7_whoIs_19 : decode cX7_whoIs 19 = .ok (.if_icmp .ne 9, 3) := by decide +kernel
theorem dX7_whoIs_22 : decode cX7_whoIs 22 = .ok (.iconst 1, 1) := by decide +kernel
theorem dX7_whoIs_23 : decode cX7_whoIs 23 = .ok (.iload_n 3, 1) := by decide +kernel
theorem dX7_whoIs_24 : decode cX7_whoIs 24 = .ok (.ishl, 1) := by decide +kernel
theorem dX7_whoIs_25 : decode cX7_whoIs 25 = .ok (.goto 4, 3) := by decide +kernel
theorem dX7_whoIs_28 : decode cX7_whoIs 28 = .ok (.iconst 0, 1) := by decide +kernel
theorem dX7_whoIs_29 : decode cX7_whoIs 29 = .ok (.ior, 1) := by decide +kernel
theorem dX7_whoIs_30 : decode cX7_whoIs 30 = .ok (.istore_n 2, 1) := by decide +kernel
theorem dX7_whoIs_31 : decode cX7_whoIs 31 = .ok (.iinc 3 1, 3) := by decide +kernel
theorem dX7_whoIs_34 : decode cX7_whoIs 34 = .ok (.goto (-30), 3) := by decide +kernel
theorem dX7_whoIs_37 : decode cX7_whoIs 37 = .ok (.iload_n 2, 1) := by decide +kernel
theorem dX7_whoIs_38 : decode cX7_whoIs 38 = .ok (.ireturn, 1) := by decide +kernel
theorem dX7_locksHeld_0 : decode cX7_locksHeld 0 = .ok (.iconst 0, 1) := by decide +kernel
theorem dX7_locksHeld_1 : decode cX7_locksHeld 1 = .ok (.istore_n 1, 1) := by decide +kernel
theorem dX7_locksHeld_2 : decode cX7_locksHeld 2 = .ok (.iconst 0, 1) := by decide +kernel
theorem dX7_locksHeld_3 : decode cX7_locksHeld 3 = .ok (.istore_n 2, 1) := by decide +kernel
theorem dX7_locksHeld_4 : decode cX7_locksHeld 4 = .ok (.iload_n 2, 1) := by decide +kernel
theorem dX7_locksHeld_5 : decode cX7_locksHeld 5 = .ok (.iconst 3, 1) := by decide +kernel
theorem dX7_locksHeld_6 : decode cX7_locksHeld 6 = .ok (.if_icmp .ge 32, 3) := by decide +kernel
theorem dX7_locksHeld_9 : decode cX7_locksHeld 9 = .ok (.iload_n 1, 1) := by decide +kernel
theorem dX7_locksHeld_10 : decode cX7_locksHeld 10 = .ok (.aload_n 0, 1) := by decide +kernel
theorem dX7_locksHeld_11 : decode cX7_locksHeld 11 = .ok (.getfield 7, 3) := by decide +kernel
theorem dX7_locksHeld_14 : decode cX7_locksHeld 14 = .ok (.bipush 40, 2) := by decide +kernel
theorem dX7_locksHeld_16 : decode cX7_locksHeld 16 = .ok (.iload_n 2, 1) := by decide +kernel
theorem dX7_locksHeld_17 : decode cX7_locksHeld 17 = .ok (.iadd, 1) := by decide +kernel
theorem dX7_locksHeld_18 : decode cX7_locksHeld 18 = .ok (.iaload, 1) := by decide +kernel
theorem dX7_locksHeld_19 : decode cX7_locksHeld 19 = .ok (.iconst (-1), 1) := by decide +kernel
theorem dX7_locksHeld_20 : decode cX7_locksHeld 20 = .ok (.if_icmp .eq 9, 3) := by decide +kernel
theorem dX7_locksHeld_23 : decode cX7_locksHeld 23 = .ok (.iconst 1, 1) := by decide +kernel
theorem dX7_locksHeld_24 : decode cX7_locksHeld 24 = .ok (.iload_n 2, 1) := by decide +kernel
theorem dX7_locksHeld_25 : decode cX7_locksHeld 25 = .ok (.ishl, 1) := by decide +kernel
theorem dX7_locksHeld_26 : decode cX7_locksHeld 26 = .ok (.goto 4, 3) := by decide +kernel
theorem dX7_locksHeld_29 : decode cX7_locksHeld 29 = .ok (.iconst 0, 1) := by decide +kernel
theorem dX7_locksHeld_30 : decode cX7_locksHeld 30 = .ok (.ior, 1) := by decide +kernel
theorem dX7_locksHeld_31 : decode cX7_locksHeld 31 = .ok (.istore_n 1, 1) := by decide +kernel
theorem dX7_locksHeld_32 : decode cX7_locksHeld 32 = .ok (.iinc 2 1, 3) := by decide +kernel
theorem dX7_locksHeld_35 : decode cX7_locksHeld 35 = .ok (.goto (-31), 3) := by decide +kernel
theorem dX7_locksHeld_38 : decode cX7_locksHeld 38 = .ok (.iload_n 1, 1) := by decide +kernel
theorem dX7_locksHeld_39 : decode cX7_locksHeld 39 = .ok (.ireturn, 1) := by decide +kernel
set_option maxRecDepth 20000 in
theorem ggX7_cellsRaced_X7_racesOf : GoodIn wsX7_cellsRaced wsX7_racesOf := goodIn_r _ [5, 6, 7, 8, 9, 4, 10, 11, 12, 13, 14, 15, 16, 17, 18, 19, 20, 21, 22, 23, 24, 25, 26, 27, 28, 29, 30, 31, 32] (by decide +kernel) (by decide +kernel)
set_option maxRecDepth 20000 in
theorem gX7_cellsRaced_X7_racesOf : GoodIn wsX7_cellsRaced (wsV RX7 199 RX7 yX7_racesOf wsX7_racesOf) := goodIn_app (goodIn_of _ (by decide +kernel)) ggX7_cellsRaced_X7_racesOf
theorem dX7_cellsRaced_0 : decode cX7_cellsRaced 0 = .ok (.iconst 0, 1) := by decide +kernel
theorem dX7_cellsRaced_1 : decode cX7_cellsRaced 1 = .ok (.istore_n 1, 1) := by decide +kernel
theorem dX7_cellsRaced_2 : decode cX7_cellsRaced 2 = .ok (.iconst 0, 1) := by decide +kernel
theorem dX7_cellsRaced_3 : decode cX7_cellsRaced 3 = .ok (.istore_n 2, 1) := by decide +kernel
theorem dX7_cellsRaced_4 : decode cX7_cellsRaced 4 = .ok (.iload_n 2, 1) := by decide +kernel
theorem dX7_cellsRaced_5 : decode cX7_cellsRaced 5 = .ok (.iconst 4, 1) := by decide +kernel
theorem dX7_cellsRaced_6 : decode cX7_cellsRaced 6 = .ok (.if_icmp .ge 28, 3) := by decide +kernel
theorem dX7_cellsRaced_9 : decode cX7_cellsRaced 9 = .ok (.iload_n 1, 1) := by decide +kernel
theorem dX7_cellsRaced_10 : decode cX7_cellsRaced 10 = .ok (.aload_n 0, 1) := by decide +kernel
theorem dX7_cellsRaced_11 : decode cX7_cellsRaced 11 = .ok (.iload_n 2, 1) := by decide +kernel
theorem dX7_cellsRaced_12 : decode cX7_cellsRaced 12 = .ok (.iconst 3, 1) := by decide +kernel
theorem dX7_cellsRaced_13 : decode cX7_cellsRaced 13 = .ok (.invokevirtual 199, 3) := by decide +kernel
theorem dX7_cellsRaced_16 : decode cX7_cellsRaced 16 = .ok (.ifCond .le 9, 3) := by decide +kernel
theorem dX7_cellsRaced_19 : decode cX7_cellsRaced 19 = .ok (.iconst 1, 1) := by decide +kernel
theorem dX7_cellsRaced_20 : decode cX7_cellsRaced 20 = .ok (.iload_n 2, 1) := by decide +kernel
theorem dX7_cellsRaced_21 : decode cX7_cellsRaced 21 = .ok (.ishl, 1) := by decide +kernel
theorem dX7_cellsRaced_22 : decode cX7_cellsRaced 22 = .ok (.goto 4, 3) := by decide +kernel
theorem dX7_cellsRaced_25 : decode cX7_cellsRaced 25 = .ok (.iconst 0, 1) := by decide +kernel
theorem dX7_cellsRaced_26 : decode cX7_cellsRaced 26 = .ok (.ior, 1) := by decide +kernel
theorem dX7_cellsRaced_27 : decode cX7_cellsRaced 27 = .ok (.istore_n 1, 1) := by decide +kernel
theorem dX7_cellsRaced_28 : decode cX7_cellsRaced 28 = .ok (.iinc 2 1, 3) := by decide +kernel
theorem dX7_cellsRaced_31 : decode cX7_cellsRaced 31 = .ok (.goto (-27), 3) := by decide +kernel
theorem dX7_cellsRaced_34 : decode cX7_cellsRaced 34 = .ok (.iload_n 1, 1) := by decide +kernel
theorem dX7_cellsRaced_35 : decode cX7_cellsRaced 35 = .ok (.ireturn, 1) := by decide +kernel
set_option maxRecDepth 20000 in
theorem ggX7_overCells_X7_racesOf : GoodIn wsX7_overCells wsX7_racesOf := goodIn_r _ [6, 1, 7, 8, 9, 5, 10, 11, 12, 13, 14, 15, 16, 17, 18, 22, 23, 24, 25, 26, 27, 28, 29, 30, 31, 32, 33, 34, 35] (by decide +kernel) (by decide +kernel)
set_option maxRecDepth 20000 in
theorem gX7_overCells_X7_racesOf : GoodIn wsX7_overCells (wsV RX7 199 RX7 yX7_racesOf wsX7_racesOf) := goodIn_app (goodIn_of _ (by decide +kernel)) ggX7_overCells_X7_racesOf
set_option maxRecDepth 20000 in
theorem ggX7_overCells_X7_of : GoodIn wsX7_overCells wsX7_of := goodIn_r _ [21] (by decide +kernel) (by decide +kernel)
set_option maxRecDepth 20000 in
theorem gX7_overCells_X7_of : GoodIn wsX7_overCells (va_wsS RX7 37 yX7_of wsX7_of) := goodIn_app (goodIn_of _ (by decide +kernel)) ggX7_overCells_X7_of
theorem dX7_overCells_0 : decode cX7_overCells 0 = .ok (.iconst 0, 1) := by decide +kernel
theorem dX7_overCells_1 : decode cX7_overCells 1 = .ok (.istore_n 2, 1) := by decide +kernel
theorem dX7_overCells_2 : decode cX7_overCells 2 = .ok (.iconst 0, 1) := by decide +kernel
theorem dX7_overCells_3 : decode cX7_overCells 3 = .ok (.istore_n 3, 1) := by decide +kernel
theorem dX7_overCells_4 : decode cX7_overCells 4 = .ok (.iload_n 3, 1) := by decide +kernel
theorem dX7_overCells_5 : decode cX7_overCells 5 = .ok (.iconst 4, 1) := by decide +kernel
theorem dX7_overCells_6 : decode cX7_overCells 6 = .ok (.if_icmp .ge 37, 3) := by decide +kernel
theorem dX7_overCells_9 : decode cX7_overCells 9 = .ok (.iload_n 2, 1) := by decide +kernel
theorem dX7_overCells_10 : decode cX7_overCells 10 = .ok (.iload_n 1, 1) := by decide +kernel
theorem dX7_overCells_11 : decode cX7_overCells 11 = .ok (.ifCond .eq 12, 3) := by decide +kernel
theorem dX7_overCells_14 : decode cX7_overCells 14 = .ok (.aload_n 0, 1) := by decide +kernel
theorem dX7_overCells_15 : decode cX7_overCells 15 = .ok (.iload_n 3, 1) := by decide +kernel
