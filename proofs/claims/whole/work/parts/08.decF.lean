theorem dX7_overCells_16 : decode cX7_overCells 16 = .ok (.iconst 3, 1) := by decide +kernel
theorem dX7_overCells_17 : decode cX7_overCells 17 = .ok (.invokevirtual 199, 3) := by decide +kernel
theorem dX7_overCells_20 : decode cX7_overCells 20 = .ok (.goto 15, 3) := by decide +kernel
theorem dX7_overCells_23 : decode cX7_overCells 23 = .ok (.aload_n 0, 1) := by decide +kernel
theorem dX7_overCells_24 : decode cX7_overCells 24 = .ok (.getfield 7, 3) := by decide +kernel
theorem dX7_overCells_27 : decode cX7_overCells 27 = .ok (.iload_n 3, 1) := by decide +kernel
theorem dX7_overCells_28 : decode cX7_overCells 28 = .ok (.invokestatic 37, 3) := by decide +kernel
theorem dX7_overCells_31 : decode cX7_overCells 31 = .ok (.bipush 9, 2) := by decide +kernel
theorem dX7_overCells_33 : decode cX7_overCells 33 = .ok (.iadd, 1) := by decide +kernel
theorem dX7_overCells_34 : decode cX7_overCells 34 = .ok (.iaload, 1) := by decide +kernel
theorem dX7_overCells_35 : decode cX7_overCells 35 = .ok (.iadd, 1) := by decide +kernel
theorem dX7_overCells_36 : decode cX7_overCells 36 = .ok (.istore_n 2, 1) := by decide +kernel
theorem dX7_overCells_37 : decode cX7_overCells 37 = .ok (.iinc 3 1, 3) := by decide +kernel
theorem dX7_overCells_40 : decode cX7_overCells 40 = .ok (.goto (-36), 3) := by decide +kernel
theorem dX7_overCells_43 : decode cX7_overCells 43 = .ok (.iload_n 2, 1) := by decide +kernel
theorem dX7_overCells_44 : decode cX7_overCells 44 = .ok (.ireturn, 1) := by decide +kernel
set_option maxRecDepth 20000 in
theorem ggX7_told_X7_whoIs : GoodIn wsX7_told wsX7_whoIs := goodIn_r _ [8, 1, 40, 41, 42, 43, 44, 45, 46, 47, 48, 49, 50, 51, 52, 53] (by decide +kernel) (by decide +kernel)
set_option maxRecDepth 20000 in
theorem gX7_told_X7_whoIs : GoodIn wsX7_told (wsV RX7 202 RX7 yX7_whoIs wsX7_whoIs) := goodIn_app (goodIn_of _ (by decide +kernel)) ggX7_told_X7_whoIs
set_option maxRecDepth 20000 in
theorem ggX7_told_X7_locksHeld : GoodIn wsX7_told wsX7_locksHeld := goodIn_r _ [12, 1, 40, 41, 42, 43, 44, 45, 46, 47, 48, 49, 50, 51, 52, 53] (by decide +kernel) (by decide +kernel)
set_option maxRecDepth 20000 in
theorem gX7_told_X7_locksHeld : GoodIn wsX7_told (wsV RX7 205 RX7 yX7_locksHeld wsX7_locksHeld) := goodIn_app (goodIn_of _ (by decide +kernel)) ggX7_told_X7_locksHeld
set_option maxRecDepth 20000 in
theorem ggX7_told_X7_cellsRaced : GoodIn wsX7_told wsX7_cellsRaced := goodIn_r _ [16, 17, 18, 19, 7, 20, 1, 21, 22, 23, 24, 25, 26, 27, 28, 29, 30, 31, 32, 40, 41, 42, 43, 44, 45, 46, 47, 48, 49, 50, 51, 52, 53] (by decide +kernel) (by decide +kernel)
set_option maxRecDepth 20000 in
theorem gX7_told_X7_cellsRaced : GoodIn wsX7_told (wsV RX7 208 RX7 yX7_cellsRaced wsX7_cellsRaced) := goodIn_app (goodIn_of _ (by decide +kernel)) ggX7_told_X7_cellsRaced
set_option maxRecDepth 20000 in
theorem ggX7_told_X7_overCells : GoodIn wsX7_told wsX7_overCells := goodIn_r _ [36, 1, 17, 18, 19, 7, 20, 21, 22, 23, 24, 25, 26, 27, 28, 29, 30, 31, 32, 37, 38, 39, 40, 41, 42, 43, 44, 45, 46, 47, 48, 49, 50, 51, 52, 53] (by decide +kernel) (by decide +kernel)
set_option maxRecDepth 20000 in
theorem gX7_told_X7_overCells : GoodIn wsX7_told (wsV RX7 211 RX7 yX7_overCells wsX7_overCells) := goodIn_app (goodIn_of _ (by decide +kernel)) ggX7_told_X7_overCells
theorem dX7_told_0 : decode cX7_told 0 = .ok (.iload_n 1, 1) := by decide +kernel
theorem dX7_told_1 : decode cX7_told 1 = .ok (.tableswitch 107 0 8 #[51, 59, 65, 71, 76, 81, 87, 96, 101], 51) := by decide +kernel
theorem dX7_told_52 : decode cX7_told 52 = .ok (.aload_n 0, 1) := by decide +kernel
theorem dX7_told_53 : decode cX7_told 53 = .ok (.getfield 7, 3) := by decide +kernel
theorem dX7_told_56 : decode cX7_told 56 = .ok (.bipush 91, 2) := by decide +kernel
theorem dX7_told_58 : decode cX7_told 58 = .ok (.iaload, 1) := by decide +kernel
theorem dX7_told_59 : decode cX7_told 59 = .ok (.ireturn, 1) := by decide +kernel
theorem dX7_told_60 : decode cX7_told 60 = .ok (.aload_n 0, 1) := by decide +kernel
theorem dX7_told_61 : decode cX7_told 61 = .ok (.iconst 1, 1) := by decide +kernel
theorem dX7_told_62 : decode cX7_told 62 = .ok (.invokevirtual 202, 3) := by decide +kernel
theorem dX7_told_65 : decode cX7_told 65 = .ok (.ireturn, 1) := by decide +kernel
theorem dX7_told_66 : decode cX7_told 66 = .ok (.aload_n 0, 1) := by decide +kernel
theorem dX7_told_67 : decode cX7_told 67 = .ok (.iconst 2, 1) := by decide +kernel
theorem dX7_told_68 : decode cX7_told 68 = .ok (.invokevirtual 202, 3) := by decide +kernel
theorem dX7_told_71 : decode cX7_told 71 = .ok (.ireturn, 1) := by decide +kernel
theorem dX7_told_72 : decode cX7_told 72 = .ok (.aload_n 0, 1) := by decide +kernel
theorem dX7_told_73 : decode cX7_told 73 = .ok (.invokevirtual 205, 3) := by decide +kernel
theorem dX7_told_76 : decode cX7_told 76 = .ok (.ireturn, 1) := by decide +kernel
theorem dX7_told_77 : decode cX7_told 77 = .ok (.aload_n 0, 1) := by decide +kernel
theorem dX7_told_78 : decode cX7_told 78 = .ok (.invokevirtual 208, 3) := by decide +kernel
theorem dX7_told_81 : decode cX7_told 81 = .ok (.ireturn, 1) := by decide +kernel
theorem dX7_told_82 : decode cX7_told 82 = .ok (.aload_n 0, 1) := by decide +kernel
theorem dX7_told_83 : decode cX7_told 83 = .ok (.iconst 1, 1) := by decide +kernel
theorem dX7_told_84 : decode cX7_told 84 = .ok (.invokevirtual 211, 3) := by decide +kernel
theorem dX7_told_87 : decode cX7_told 87 = .ok (.ireturn, 1) := by decide +kernel
theorem dX7_told_88 : decode cX7_told 88 = .ok (.aload_n 0, 1) := by decide +kernel
theorem dX7_told_89 : decode cX7_told 89 = .ok (.getfield 7, 3) := by decide +kernel
theorem dX7_told_92 : decode cX7_told 92 = .ok (.sipush 1372, 3) := by decide +kernel
theorem dX7_told_95 : decode cX7_told 95 = .ok (.iaload, 1) := by decide +kernel
theorem dX7_told_96 : decode cX7_told 96 = .ok (.ireturn, 1) := by decide +kernel
theorem dX7_told_97 : decode cX7_told 97 = .ok (.aload_n 0, 1) := by decide +kernel
theorem dX7_told_98 : decode cX7_told 98 = .ok (.getfield 129, 3) := by decide +kernel
theorem dX7_told_101 : decode cX7_told 101 = .ok (.ireturn, 1) := by decide +kernel
theorem dX7_told_102 : decode cX7_told 102 = .ok (.aload_n 0, 1) := by decide +kernel
theorem dX7_told_103 : decode cX7_told 103 = .ok (.iconst 0, 1) := by decide +kernel
theorem dX7_told_104 : decode cX7_told 104 = .ok (.invokevirtual 211, 3) := by decide +kernel
theorem dX7_told_107 : decode cX7_told 107 = .ok (.ireturn, 1) := by decide +kernel
theorem dX7_told_108 : decode cX7_told 108 = .ok (.ldc 98, 2) := by decide +kernel
theorem dX7_told_110 : decode cX7_told 110 = .ok (.ireturn, 1) := by decide +kernel
set_option maxRecDepth 20000 in
theorem ggX7_clock_X7_isThread : GoodIn wsX7_clock wsX7_isThread := goodIn_r _ [7, 8, 9, 10, 6, 11] (by decide +kernel) (by decide +kernel)
set_option maxRecDepth 20000 in
theorem gX7_clock_X7_isThread : GoodIn wsX7_clock (va_wsS RX7 56 yX7_isThread wsX7_isThread) := goodIn_app (goodIn_of _ (by decide +kernel)) ggX7_clock_X7_isThread
set_option maxRecDepth 20000 in
theorem ggX7_clock_X7_isLock : GoodIn wsX7_clock wsX7_isLock := goodIn_r _ [14, 15, 9, 10, 6, 11] (by decide +kernel) (by decide +kernel)
set_option maxRecDepth 20000 in
theorem gX7_clock_X7_isLock : GoodIn wsX7_clock (va_wsS RX7 50 yX7_isLock wsX7_isLock) := goodIn_app (goodIn_of _ (by decide +kernel)) ggX7_clock_X7_isLock
set_option maxRecDepth 20000 in
theorem ggX7_clock_X7_isSeen : GoodIn wsX7_clock wsX7_isSeen := goodIn_r _ [18, 9, 10, 6, 11] (by decide +kernel) (by decide +kernel)
set_option maxRecDepth 20000 in
theorem gX7_clock_X7_isSeen : GoodIn wsX7_clock (va_wsS RX7 53 yX7_isSeen wsX7_isSeen) := goodIn_app (goodIn_of _ (by decide +kernel)) ggX7_clock_X7_isSeen
theorem dX7_clock_0 : decode cX7_clock 0 = .ok (.iload_n 3, 1) := by decide +kernel
theorem dX7_clock_1 : decode cX7_clock 1 = .ok (.invokestatic 56, 3) := by decide +kernel
theorem dX7_clock_4 : decode cX7_clock 4 = .ok (.ifCond .ne 6, 3) := by decide +kernel
theorem dX7_clock_7 : decode cX7_clock 7 = .ok (.ldc 97, 2) := by decide +kernel
theorem dX7_clock_9 : decode cX7_clock 9 = .ok (.ireturn, 1) := by decide +kernel
theorem dX7_clock_10 : decode cX7_clock 10 = .ok (.iload_n 1, 1) := by decide +kernel
theorem dX7_clock_11 : decode cX7_clock 11 = .ok (.tableswitch 102 0 2 #[25, 50, 76], 25) := by decide +kernel
theorem dX7_clock_36 : decode cX7_clock 36 = .ok (.iload_n 2, 1) := by decide +kernel
theorem dX7_clock_37 : decode cX7_clock 37 = .ok (.invokestatic 56, 3) := by decide +kernel
theorem dX7_clock_40 : decode cX7_clock 40 = .ok (.ifCond .eq 18, 3) := by decide +kernel
theorem dX7_clock_43 : decode cX7_clock 43 = .ok (.aload_n 0, 1) := by decide +kernel
theorem dX7_clock_44 : decode cX7_clock 44 = .ok (.getfield 7, 3) := by decide +kernel
theorem dX7_clock_47 : decode cX7_clock 47 = .ok (.iconst 4, 1) := by decide +kernel
theorem dX7_clock_48 : decode cX7_clock 48 = .ok (.iconst 4, 1) := by decide +kernel
theorem dX7_clock_49 : decode cX7_clock 49 = .ok (.iload_n 2, 1) := by decide +kernel
theorem dX7_clock_50 : decode cX7_clock 50 = .ok (.imul, 1) := by decide +kernel
theorem dX7_clock_51 : decode cX7_clock 51 = .ok (.iadd, 1) := by decide +kernel
theorem dX7_clock_52 : decode cX7_clock 52 = .ok (.iload_n 3, 1) := by decide +kernel
theorem dX7_clock_53 : decode cX7_clock 53 = .ok (.iadd, 1) := by decide +kernel
theorem dX7_clock_54 : decode cX7_clock 54 = .ok (.iaload, 1) := by decide +kernel
theorem dX7_clock_55 : decode cX7_clock 55 = .ok (.goto 5, 3) := by decide +kernel
theorem dX7_clock_58 : decode cX7_clock 58 = .ok (.ldc 97, 2) := by decide +kernel
theorem dX7_clock_60 : decode cX7_clock 60 = .ok (.ireturn, 1) := by decide +kernel
theorem dX7_clock_61 : decode cX7_clock 61 = .ok (.iload_n 2, 1) := by decide +kernel
theorem dX7_clock_62 : decode cX7_clock 62 = .ok (.invokestatic 50, 3) := by decide +kernel
theorem dX7_clock_65 : decode cX7_clock 65 = .ok (.ifCond .eq 19, 3) := by decide +kernel
theorem dX7_clock_68 : decode cX7_clock 68 = .ok (.aload_n 0, 1) := by decide +kernel
theorem dX7_clock_69 : decode cX7_clock 69 = .ok (.getfield 7, 3) := by decide +kernel
theorem dX7_clock_72 : decode cX7_clock 72 = .ok (.bipush 20, 2) := by decide +kernel
theorem dX7_clock_74 : decode cX7_clock 74 = .ok (.iconst 4, 1) := by decide +kernel
theorem dX7_clock_75 : decode cX7_clock 75 = .ok (.iload_n 2, 1) := by decide +kernel
theorem dX7_clock_76 : decode cX7_clock 76 = .ok (.imul, 1) := by decide +kernel
theorem dX7_clock_77 : decode cX7_clock 77 = .ok (.iadd, 1) := by decide +kernel
theorem dX7_clock_78 : decode cX7_clock 78 = .ok (.iload_n 3, 1) := by decide +kernel
theorem dX7_clock_79 : decode cX7_clock 79 = .ok (.iadd, 1) := by decide +kernel
theorem dX7_clock_80 : decode cX7_clock 80 = .ok (.iaload, 1) := by decide +kernel
theorem dX7_clock_81 : decode cX7_clock 81 = .ok (.goto 5, 3) := by decide +kernel
theorem dX7_clock_84 : decode cX7_clock 84 = .ok (.ldc 97, 2) := by decide +kernel
theorem dX7_clock_86 : decode cX7_clock 86 = .ok (.ireturn, 1) := by decide +kernel
theorem dX7_clock_87 : decode cX7_clock 87 = .ok (.iload_n 2, 1) := by decide +kernel
theorem dX7_clock_88 : decode cX7_clock 88 = .ok (.invokestatic 53, 3) := by decide +kernel
theorem dX7_clock_91 : decode cX7_clock 91 = .ok (.ifCond .eq 19, 3) := by decide +kernel
theorem dX7_clock_94 : decode cX7_clock 94 = .ok (.aload_n 0, 1) := by decide +kernel
theorem dX7_clock_95 : decode cX7_clock 95 = .ok (.getfield 7, 3) := by decide +kernel
theorem dX7_clock_98 : decode cX7_clock 98 = .ok (.bipush 32, 2) := by decide +kernel
theorem dX7_clock_100 : decode cX7_clock 100 = .ok (.iconst 4, 1) := by decide +kernel
theorem dX7_clock_101 : decode cX7_clock 101 = .ok (.iload_n 2, 1) := by decide +kernel
theorem dX7_clock_102 : decode cX7_clock 102 = .ok (.imul, 1) := by decide +kernel
theorem dX7_clock_103 : decode cX7_clock 103 = .ok (.iadd, 1) := by decide +kernel
theorem dX7_clock_104 : decode cX7_clock 104 = .ok (.iload_n 3, 1) := by decide +kernel
theorem dX7_clock_105 : decode cX7_clock 105 = .ok (.iadd, 1) := by decide +kernel
theorem dX7_clock_106 : decode cX7_clock 106 = .ok (.iaload, 1) := by decide +kernel
theorem dX7_clock_107 : decode cX7_clock 107 = .ok (.goto 5, 3) := by decide +kernel
theorem dX7_clock_110 : decode cX7_clock 110 = .ok (.ldc 97, 2) := by decide +kernel
theorem dX7_clock_112 : decode cX7_clock 112 = .ok (.ireturn, 1) := by decide +kernel
theorem dX7_clock_113 : decode cX7_clock 113 = .ok (.ldc 98, 2) := by decide +kernel
theorem dX7_clock_115 : decode cX7_clock 115 = .ok (.ireturn, 1) := by decide +kernel
set_option maxRecDepth 20000 in
theorem ggX7_isEvent_X7_in : GoodIn wsX7_isEvent wsX7_in := goodIn_r _ [5] (by decide +kernel) (by decide +kernel)
set_option maxRecDepth 20000 in
theorem gX7_isEvent_X7_in : GoodIn wsX7_isEvent (va_wsS RX7 31 yX7_in wsX7_in) := goodIn_app (goodIn_of _ (by decide +kernel)) ggX7_isEvent_X7_in
theorem dX7_isEvent_0 : decode cX7_isEvent 0 = .ok (.iload_n 1, 1) := by decide +kernel
theorem dX7_isEvent_1 : decode cX7_isEvent 1 = .ok (.i2l, 1) := by decide +kernel
theorem dX7_isEvent_2 : decode cX7_isEvent 2 = .ok (.lconst 0, 1) := by decide +kernel
theorem dX7_isEvent_3 : decode cX7_isEvent 3 = .ok (.aload_n 0, 1) := by decide +kernel
theorem dX7_isEvent_4 : decode cX7_isEvent 4 = .ok (.getfield 7, 3) := by decide +kernel
theorem dX7_isEvent_7 : decode cX7_isEvent 7 = .ok (.bipush 91, 2) := by decide +kernel
theorem dX7_isEvent_9 : decode cX7_isEvent 9 = .ok (.iaload, 1) := by decide +kernel
theorem dX7_isEvent_10 : decode cX7_isEvent 10 = .ok (.iconst 1, 1) := by decide +kernel
theorem dX7_isEvent_11 : decode cX7_isEvent 11 = .ok (.isub, 1) := by decide +kernel
theorem dX7_isEvent_12 : decode cX7_isEvent 12 = .ok (.i2l, 1) := by decide +kernel
theorem dX7_isEvent_13 : decode cX7_isEvent 13 = .ok (.invokestatic 31, 3) := by decide +kernel
theorem dX7_isEvent_16 : decode cX7_isEvent 16 = .ok (.ireturn, 1) := by decide +kernel
set_option maxRecDepth 20000 in
theorem ggX7_eventOf_X7_isEvent : GoodIn wsX7_eventOf wsX7_isEvent := goodIn_r _ [9, 3, 10, 11, 8, 12, 13, 14, 15, 16, 17, 18, 19, 20, 21, 22, 23, 24, 25, 26] (by decide +kernel) (by decide +kernel)
set_option maxRecDepth 20000 in
theorem gX7_eventOf_X7_isEvent : GoodIn wsX7_eventOf (wsV RX7 215 RX7 yX7_isEvent wsX7_isEvent) := goodIn_app (goodIn_of _ (by decide +kernel)) ggX7_eventOf_X7_isEvent
set_option maxRecDepth 20000 in
theorem ggX7_eventOf_X7_in : GoodIn wsX7_eventOf wsX7_in := goodIn_r _ [12] (by decide +kernel) (by decide +kernel)
set_option maxRecDepth 20000 in
theorem gX7_eventOf_X7_in : GoodIn wsX7_eventOf (va_wsS RX7 31 yX7_in wsX7_in) := goodIn_app (goodIn_of _ (by decide +kernel)) ggX7_eventOf_X7_in
theorem dX7_eventOf_0 : decode cX7_eventOf 0 = .ok (.aload_n 0, 1) := by decide +kernel
theorem dX7_eventOf_1 : decode cX7_eventOf 1 = .ok (.iload_n 1, 1) := by decide +kernel
theorem dX7_eventOf_2 : decode cX7_eventOf 2 = .ok (.invokevirtual 215, 3) := by decide +kernel
theorem dX7_eventOf_5 : decode cX7_eventOf 5 = .ok (.ifCond .ne 6, 3) := by decide +kernel
theorem dX7_eventOf_8 : decode cX7_eventOf 8 = .ok (.ldc 97, 2) := by decide +kernel
theorem dX7_eventOf_10 : decode cX7_eventOf 10 = .ok (.ireturn, 1) := by decide +kernel
theorem dX7_eventOf_11 : decode cX7_eventOf 11 = .ok (.iload_n 2, 1) := by decide +kernel
theorem dX7_eventOf_12 : decode cX7_eventOf 12 = .ok (.i2l, 1) := by decide +kernel
theorem dX7_eventOf_13 : decode cX7_eventOf 13 = .ok (.lconst 0, 1) := by decide +kernel
theorem dX7_eventOf_14 : decode cX7_eventOf 14 = .ok (.ldc2_w 91, 3) := by decide +kernel
theorem dX7_eventOf_17 : decode cX7_eventOf 17 = .ok (.invokestatic 31, 3) := by decide +kernel
theorem dX7_eventOf_20 : decode cX7_eventOf 20 = .ok (.ifCond .eq 20, 3) := by decide +kernel
theorem dX7_eventOf_23 : decode cX7_eventOf 23 = .ok (.aload_n 0, 1) := by decide +kernel
theorem dX7_eventOf_24 : decode cX7_eventOf 24 = .ok (.getfield 7, 3) := by decide +kernel
theorem dX7_eventOf_27 : decode cX7_eventOf 27 = .ok (.bipush 92, 2) := by decide +kernel
theorem dX7_eventOf_29 : decode cX7_eventOf 29 = .ok (.bipush 8, 2) := by decide +kernel
theorem dX7_eventOf_31 : decode cX7_eventOf 31 = .ok (.iload_n 1, 1) := by decide +kernel
theorem dX7_eventOf_32 : decode cX7_eventOf 32 = .ok (.imul, 1) := by decide +kernel
theorem dX7_eventOf_33 : decode cX7_eventOf 33 = .ok (.iadd, 1) := by decide +kernel
theorem dX7_eventOf_34 : decode cX7_eventOf 34 = .ok (.iload_n 2, 1) := by decide +kernel
theorem dX7_eventOf_35 : decode cX7_eventOf 35 = .ok (.iadd, 1) := by decide +kernel
theorem dX7_eventOf_36 : decode cX7_eventOf 36 = .ok (.iaload, 1) := by decide +kernel
theorem dX7_eventOf_37 : decode cX7_eventOf 37 = .ok (.goto 5, 3) := by decide +kernel
theorem dX7_eventOf_40 : decode cX7_eventOf 40 = .ok (.ldc 98, 2) := by decide +kernel
theorem dX7_eventOf_42 : decode cX7_eventOf 42 = .ok (.ireturn, 1) := by decide +kernel
set_option maxRecDepth 20000 in
theorem ggX7_holder_X7_isLock : GoodIn wsX7_holder wsX7_isLock := goodIn_r _ [6, 7, 8, 9, 5, 10] (by decide +kernel) (by decide +kernel)
set_option maxRecDepth 20000 in
theorem gX7_holder_X7_isLock : GoodIn wsX7_holder (va_wsS RX7 50 yX7_isLock wsX7_isLock) := goodIn_app (goodIn_of _ (by decide +kernel)) ggX7_holder_X7_isLock
theorem dX7_holder_0 : decode cX7_holder 0 = .ok (.iload_n 1, 1) := by decide +kernel
theorem dX7_holder_1 : decode cX7_holder 1 = .ok (.invokestatic 50, 3) := by decide +kernel
theorem dX7_holder_4 : decode cX7_holder 4 = .ok (.ifCond .eq 15, 3) := by decide +kernel
theorem dX7_holder_7 : decode cX7_holder 7 = .ok (.aload_n 0, 1) := by decide +kernel
theorem dX7_holder_8 : decode cX7_holder 8 = .ok (.getfield 7, 3) := by decide +kernel
theorem dX7_holder_11 : decode cX7_holder 11 = .ok (.bipush 40, 2) := by decide +kernel
theorem dX7_holder_13 : decode cX7_holder 13 = .ok (.iload_n 1, 1) := by decide +kernel
theorem dX7_holder_14 : decode cX7_holder 14 = .ok (.iadd, 1) := by decide +kernel
theorem dX7_holder_15 : decode cX7_holder 15 = .ok (.iaload, 1) := by decide +kernel
theorem dX7_holder_16 : decode cX7_holder 16 = .ok (.goto 5, 3) := by decide +kernel
theorem dX7_holder_19 : decode cX7_holder 19 = .ok (.ldc 97, 2) := by decide +kernel
theorem dX7_holder_21 : decode cX7_holder 21 = .ok (.ireturn, 1) := by decide +kernel
set_option maxRecDepth 20000 in
theorem ggX7_journal_X7_in : GoodIn wsX7_journal wsX7_in := goodIn_r _ [7] (by decide +kernel) (by decide +kernel)
set_option maxRecDepth 20000 in
theorem gX7_journal_X7_in : GoodIn wsX7_journal (va_wsS RX7 31 yX7_in wsX7_in) := goodIn_app (goodIn_of _ (by decide +kernel)) ggX7_journal_X7_in
theorem dX7_journal_0 : decode cX7_journal 0 = .ok (.iload_n 2, 1) := by decide +kernel
theorem dX7_journal_1 : decode cX7_journal 1 = .ok (.i2l, 1) := by decide +kernel
theorem dX7_journal_2 : decode cX7_journal 2 = .ok (.lconst 0, 1) := by decide +kernel
theorem dX7_journal_3 : decode cX7_journal 3 = .ok (.lconst 1, 1) := by decide +kernel
theorem dX7_journal_4 : decode cX7_journal 4 = .ok (.invokestatic 31, 3) := by decide +kernel
theorem dX7_journal_7 : decode cX7_journal 7 = .ok (.ifCond .ne 6, 3) := by decide +kernel
theorem dX7_journal_10 : decode cX7_journal 10 = .ok (.ldc 98, 2) := by decide +kernel
theorem dX7_journal_12 : decode cX7_journal 12 = .ok (.ireturn, 1) := by decide +kernel
theorem dX7_journal_13 : decode cX7_journal 13 = .ok (.iload_n 1, 1) := by decide +kernel
theorem dX7_journal_14 : decode cX7_journal 14 = .ok (.i2l, 1) := by decide +kernel
theorem dX7_journal_15 : decode cX7_journal 15 = .ok (.lconst 0, 1) := by decide +kernel
theorem dX7_journal_16 : decode cX7_journal 16 = .ok (.aload_n 0, 1) := by decide +kernel
theorem dX7_journal_17 : decode cX7_journal 17 = .ok (.getfield 129, 3) := by decide +kernel
theorem dX7_journal_20 : decode cX7_journal 20 = .ok (.iconst 1, 1) := by decide +kernel
theorem dX7_journal_21 : decode cX7_journal 21 = .ok (.isub, 1) := by decide +kernel
theorem dX7_journal_22 : decode cX7_journal 22 = .ok (.i2l, 1) := by decide +kernel
theorem dX7_journal_23 : decode cX7_journal 23 = .ok (.invokestatic 31, 3) := by decide +kernel
theorem dX7_journal_26 : decode cX7_journal 26 = .ok (.ifCond .ne 5, 3) := by decide +kernel
theorem dX7_journal_29 : decode cX7_journal 29 = .ok (.iconst (-1), 1) := by decide +kernel
theorem dX7_journal_30 : decode cX7_journal 30 = .ok (.ireturn, 1) := by decide +kernel
theorem dX7_journal_31 : decode cX7_journal 31 = .ok (.aload_n 0, 1) := by decide +kernel
theorem dX7_journal_32 : decode cX7_journal 32 = .ok (.getfield 17, 3) := by decide +kernel
theorem dX7_journal_35 : decode cX7_journal 35 = .ok (.aload_n 0, 1) := by decide +kernel
theorem dX7_journal_36 : decode cX7_journal 36 = .ok (.getfield 129, 3) := by decide +kernel
theorem dX7_journal_39 : decode cX7_journal 39 = .ok (.iconst 1, 1) := by decide +kernel
theorem dX7_journal_40 : decode cX7_journal 40 = .ok (.isub, 1) := by decide +kernel
theorem dX7_journal_41 : decode cX7_journal 41 = .ok (.iload_n 1, 1) := by decide +kernel
theorem dX7_journal_42 : decode cX7_journal 42 = .ok (.isub, 1) := by decide +kernel
theorem dX7_journal_43 : decode cX7_journal 43 = .ok (.iaload, 1) := by decide +kernel
theorem dX7_journal_44 : decode cX7_journal 44 = .ok (.istore_n 3, 1) := by decide +kernel
theorem dX7_journal_45 : decode cX7_journal 45 = .ok (.iload_n 2, 1) := by decide +kernel
theorem dX7_journal_46 : decode cX7_journal 46 = .ok (.ifCond .ne 9, 3) := by decide +kernel
theorem dX7_journal_49 : decode cX7_journal 49 = .ok (.iload_n 3, 1) := by decide +kernel
theorem dX7_journal_50 : decode cX7_journal 50 = .ok (.iconst 2, 1) := by decide +kernel
theorem dX7_journal_51 : decode cX7_journal 51 = .ok (.idiv, 1) := by decide +kernel
theorem dX7_journal_52 : decode cX7_journal 52 = .ok (.goto 6, 3) := by decide +kernel
theorem dX7_journal_55 : decode cX7_journal 55 = .ok (.iload_n 3, 1) := by decide +kernel
theorem dX7_journal_56 : decode cX7_journal 56 = .ok (.iconst 2, 1) := by decide +kernel
theorem dX7_journal_57 : decode cX7_journal 57 = .ok (.irem, 1) := by decide +kernel
theorem dX7_journal_58 : decode cX7_journal 58 = .ok (.ireturn, 1) := by decide +kernel
theorem dX7_isAhead_0 : decode cX7_isAhead 0 = .ok (.aload_n 0, 1) := by decide +kernel
theorem dX7_isAhead_1 : decode cX7_isAhead 1 = .ok (.getfield 7, 3) := by decide +kernel
theorem dX7_isAhead_4 : decode cX7_isAhead 4 = .ok (.bipush 92, 2) := by decide +kernel
theorem dX7_isAhead_6 : decode cX7_isAhead 6 = .ok (.bipush 8, 2) := by decide +kernel
theorem dX7_isAhead_8 : decode cX7_isAhead 8 = .ok (.iload_n 1, 1) := by decide +kernel
theorem dX7_isAhead_9 : decode cX7_isAhead 9 = .ok (.imul, 1) := by decide +kernel
theorem dX7_isAhead_10 : decode cX7_isAhead 10 = .ok (.iadd, 1) := by decide +kernel
theorem dX7_isAhead_11 : decode cX7_isAhead 11 = .ok (.iaload, 1) := by decide +kernel
theorem dX7_isAhead_12 : decode cX7_isAhead 12 = .ok (.istore_n 3, 1) := by decide +kernel
theorem dX7_isAhead_13 : decode cX7_isAhead 13 = .ok (.aload_n 0, 1) := by decide +kernel
theorem dX7_isAhead_14 : decode cX7_isAhead 14 = .ok (.getfield 7, 3) := by decide +kernel
theorem dX7_isAhead_17 : decode cX7_isAhead 17 = .ok (.bipush 92, 2) := by decide +kernel
theorem dX7_isAhead_19 : decode cX7_isAhead 19 = .ok (.bipush 8, 2) := by decide +kernel
theorem dX7_isAhead_21 : decode cX7_isAhead 21 = .ok (.iload_n 2, 1) := by decide +kernel
theorem dX7_isAhead_22 : decode cX7_isAhead 22 = .ok (.imul, 1) := by decide +kernel
theorem dX7_isAhead_23 : decode cX7_isAhead 23 = .ok (.iadd, 1) := by decide +kernel
theorem dX7_isAhead_24 : decode cX7_isAhead 24 = .ok (.iconst 3, 1) := by decide +kernel
theorem dX7_isAhead_25 : decode cX7_isAhead 25 = .ok (.iadd, 1) := by decide +kernel
theorem dX7_isAhead_26 : decode cX7_isAhead 26 = .ok (.iload_n 3, 1) := by decide +kernel
theorem dX7_isAhead_27 : decode cX7_isAhead 27 = .ok (.iadd, 1) := by decide +kernel
theorem dX7_isAhead_28 : decode cX7_isAhead 28 = .ok (.iaload, 1) := by decide +kernel
theorem dX7_isAhead_29 : decode cX7_isAhead 29 = .ok (.aload_n 0, 1) := by decide +kernel
theorem dX7_isAhead_30 : decode cX7_isAhead 30 = .ok (.getfield 7, 3) := by decide +kernel
theorem dX7_isAhead_33 : decode cX7_isAhead 33 = .ok (.bipush 92, 2) := by decide +kernel
theorem dX7_isAhead_35 : decode cX7_isAhead 35 = .ok (.bipush 8, 2) := by decide +kernel
theorem dX7_isAhead_37 : decode cX7_isAhead 37 = .ok (.iload_n 1, 1) := by decide +kernel
theorem dX7_isAhead_38 : decode cX7_isAhead 38 = .ok (.imul, 1) := by decide +kernel
theorem dX7_isAhead_39 : decode cX7_isAhead 39 = .ok (.iadd, 1) := by decide +kernel
theorem dX7_isAhead_40 : decode cX7_isAhead 40 = .ok (.iconst 3, 1) := by decide +kernel
theorem dX7_isAhead_41 : decode cX7_isAhead 41 = .ok (.iadd, 1) := by decide +kernel
theorem dX7_isAhead_42 : decode cX7_isAhead 42 = .ok (.iload_n 3, 1) := by decide +kernel
theorem dX7_isAhead_43 : decode cX7_isAhead 43 = .ok (.iadd, 1) := by decide +kernel
theorem dX7_isAhead_44 : decode cX7_isAhead 44 = .ok (.iaload, 1) := by decide +kernel
theorem dX7_isAhead_45 : decode cX7_isAhead 45 = .ok (.if_icmp .lt 7, 3) := by decide +kernel
theorem dX7_isAhead_48 : decode cX7_isAhead 48 = .ok (.iconst 1, 1) := by decide +kernel
theorem dX7_isAhead_49 : decode cX7_isAhead 49 = .ok (.goto 4, 3) := by decide +kernel
theorem dX7_isAhead_52 : decode cX7_isAhead 52 = .ok (.iconst 0, 1) := by decide +kernel
theorem dX7_isAhead_53 : decode cX7_isAhead 53 = .ok (.ireturn, 1) := by decide +kernel
set_option maxRecDepth 20000 in
theorem ggX7_ahead_X7_isEvent : GoodIn wsX7_ahead wsX7_isEvent := goodIn_r _ [6, 7, 8, 9, 5, 10, 15, 16, 17, 18, 19, 20, 21, 22, 23, 24, 25, 26, 27, 28] (by decide +kernel) (by decide +kernel)
set_option maxRecDepth 20000 in
theorem gX7_ahead_X7_isEvent : GoodIn wsX7_ahead (wsV RX7 215 RX7 yX7_isEvent wsX7_isEvent) := goodIn_app (goodIn_of _ (by decide +kernel)) ggX7_ahead_X7_isEvent
set_option maxRecDepth 20000 in
theorem ggX7_ahead_X7_isAhead : GoodIn wsX7_ahead wsX7_isAhead := goodIn_r _ [14, 7, 15, 16, 17, 18, 19, 20, 21, 22, 23, 24, 25, 26, 27, 28] (by decide +kernel) (by decide +kernel)
set_option maxRecDepth 20000 in
theorem gX7_ahead_X7_isAhead : GoodIn wsX7_ahead (wsV RX7 218 RX7 yX7_isAhead wsX7_isAhead) := goodIn_app (goodIn_of _ (by decide +kernel)) ggX7_ahead_X7_isAhead
theorem dX7_ahead_0 : decode cX7_ahead 0 = .ok (.aload_n 0, 1) := by decide +kernel
theorem dX7_ahead_1 : decode cX7_ahead 1 = .ok (.iload_n 1, 1) := by decide +kernel
theorem dX7_ahead_2 : decode cX7_ahead 2 = .ok (.invokevirtual 215, 3) := by decide +kernel
theorem dX7_ahead_5 : decode cX7_ahead 5 = .ok (.ifCond .eq 16, 3) := by decide +kernel
theorem dX7_ahead_8 : decode cX7_ahead 8 = .ok (.aload_n 0, 1) := by decide +kernel
theorem dX7_ahead_9 : decode cX7_ahead 9 = .ok (.iload_n 2, 1) := by decide +kernel
theorem dX7_ahead_10 : decode cX7_ahead 10 = .ok (.invokevirtual 215, 3) := by decide +kernel
theorem dX7_ahead_13 : decode cX7_ahead 13 = .ok (.ifCond .eq 8, 3) := by decide +kernel
theorem dX7_ahead_16 : decode cX7_ahead 16 = .ok (.iload_n 1, 1) := by decide +kernel
theorem dX7_ahead_17 : decode cX7_ahead 17 = .ok (.iload_n 2, 1) := by decide +kernel
theorem dX7_ahead_18 : decode cX7_ahead 18 = .ok (.if_icmp .ne 6, 3) := by decide +kernel
theorem dX7_ahead_21 : decode cX7_ahead 21 = .ok (.ldc 97, 2) := by decide +kernel
theorem dX7_ahead_23 : decode cX7_ahead 23 = .ok (.ireturn, 1) := by decide +kernel
theorem dX7_ahead_24 : decode cX7_ahead 24 = .ok (.iload_n 1, 1) := by decide +kernel
theorem dX7_ahead_25 : decode cX7_ahead 25 = .ok (.iload_n 2, 1) := by decide +kernel
theorem dX7_ahead_26 : decode cX7_ahead 26 = .ok (.if_icmp .ge 16, 3) := by decide +kernel
theorem dX7_ahead_29 : decode cX7_ahead 29 = .ok (.aload_n 0, 1) := by decide +kernel
theorem dX7_ahead_30 : decode cX7_ahead 30 = .ok (.iload_n 1, 1) := by decide +kernel
theorem dX7_ahead_31 : decode cX7_ahead 31 = .ok (.iload_n 2, 1) := by decide +kernel
theorem dX7_ahead_32 : decode cX7_ahead 32 = .ok (.invokevirtual 218, 3) := by decide +kernel
theorem dX7_ahead_35 : decode cX7_ahead 35 = .ok (.ifCond .eq 7, 3) := by decide +kernel
theorem dX7_ahead_38 : decode cX7_ahead 38 = .ok (.iconst 1, 1) := by decide +kernel
theorem dX7_ahead_39 : decode cX7_ahead 39 = .ok (.goto 4, 3) := by decide +kernel
theorem dX7_ahead_42 : decode cX7_ahead 42 = .ok (.iconst 0, 1) := by decide +kernel
theorem dX7_ahead_43 : decode cX7_ahead 43 = .ok (.ireturn, 1) := by decide +kernel
theorem dX7_isAccess_0 : decode cX7_isAccess 0 = .ok (.aload_n 0, 1) := by decide +kernel
theorem dX7_isAccess_1 : decode cX7_isAccess 1 = .ok (.getfield 7, 3) := by decide +kernel
theorem dX7_isAccess_4 : decode cX7_isAccess 4 = .ok (.bipush 92, 2) := by decide +kernel
theorem dX7_isAccess_6 : decode cX7_isAccess 6 = .ok (.bipush 8, 2) := by decide +kernel
theorem dX7_isAccess_8 : decode cX7_isAccess 8 = .ok (.iload_n 1, 1) := by decide +kernel
theorem dX7_isAccess_9 : decode cX7_isAccess 9 = .ok (.imul, 1) := by decide +kernel
theorem dX7_isAccess_10 : decode cX7_isAccess 10 = .ok (.iadd, 1) := by decide +kernel
theorem dX7_isAccess_11 : decode cX7_isAccess 11 = .ok (.iconst 1, 1) := by decide +kernel
theorem dX7_isAccess_12 : decode cX7_isAccess 12 = .ok (.iadd, 1) := by decide +kernel
theorem dX7_isAccess_13 : decode cX7_isAccess 13 = .ok (.iaload, 1) := by decide +kernel
theorem dX7_isAccess_14 : decode cX7_isAccess 14 = .ok (.iconst 1, 1) := by decide +kernel
theorem dX7_isAccess_15 : decode cX7_isAccess 15 = .ok (.if_icmp .gt 25, 3) := by decide +kernel
theorem dX7_isAccess_18 : decode cX7_isAccess 18 = .ok (.aload_n 0, 1) := by decide +kernel
theorem dX7_isAccess_19 : decode cX7_isAccess 19 = .ok (.getfield 7, 3) := by decide +kernel
theorem dX7_isAccess_22 : decode cX7_isAccess 22 = .ok (.bipush 92, 2) := by decide +kernel
theorem dX7_isAccess_24 : decode cX7_isAccess 24 = .ok (.bipush 8, 2) := by decide +kernel
theorem dX7_isAccess_26 : decode cX7_isAccess 26 = .ok (.iload_n 1, 1) := by decide +kernel
theorem dX7_isAccess_27 : decode cX7_isAccess 27 = .ok (.imul, 1) := by decide +kernel
theorem dX7_isAccess_28 : decode cX7_isAccess 28 = .ok (.iadd, 1) := by decide +kernel
theorem dX7_isAccess_29 : decode cX7_isAccess 29 = .ok (.iconst 2, 1) := by decide +kernel
theorem dX7_isAccess_30 : decode cX7_isAccess 30 = .ok (.iadd, 1) := by decide +kernel
theorem dX7_isAccess_31 : decode cX7_isAccess 31 = .ok (.iaload, 1) := by decide +kernel
theorem dX7_isAccess_32 : decode cX7_isAccess 32 = .ok (.iload_n 2, 1) := by decide +kernel
theorem dX7_isAccess_33 : decode cX7_isAccess 33 = .ok (.if_icmp .ne 7, 3) := by decide +kernel
theorem dX7_isAccess_36 : decode cX7_isAccess 36 = .ok (.iconst 1, 1) := by decide +kernel
theorem dX7_isAccess_37 : decode cX7_isAccess 37 = .ok (.goto 4, 3) := by decide +kernel
theorem dX7_isAccess_40 : decode cX7_isAccess 40 = .ok (.iconst 0, 1) := by decide +kernel
theorem dX7_isAccess_41 : decode cX7_isAccess 41 = .ok (.ireturn, 1) := by decide +kernel
set_option maxRecDepth 20000 in
theorem ggX7_kindBy_X7_isAccess : GoodIn wsX7_kindBy wsX7_isAccess := goodIn_r _ [6, 1, 11, 12, 13, 14, 15, 16, 17, 18, 19, 20, 21, 22, 23, 24] (by decide +kernel) (by decide +kernel)
set_option maxRecDepth 20000 in
theorem gX7_kindBy_X7_isAccess : GoodIn wsX7_kindBy (wsV RX7 222 RX7 yX7_isAccess wsX7_isAccess) := goodIn_app (goodIn_of _ (by decide +kernel)) ggX7_kindBy_X7_isAccess
set_option maxRecDepth 20000 in
theorem ggX7_kindBy_X7_isAhead : GoodIn wsX7_kindBy wsX7_isAhead := goodIn_r _ [10, 1, 11, 12, 13, 14, 15, 16, 17, 18, 19, 20, 21, 22, 23, 24] (by decide +kernel) (by decide +kernel)
set_option maxRecDepth 20000 in
theorem gX7_kindBy_X7_isAhead : GoodIn wsX7_kindBy (wsV RX7 218 RX7 yX7_isAhead wsX7_isAhead) := goodIn_app (goodIn_of _ (by decide +kernel)) ggX7_kindBy_X7_isAhead
theorem dX7_kindBy_0 : decode cX7_kindBy 0 = .ok (.aload_n 0, 1) := by decide +kernel
theorem dX7_kindBy_1 : decode cX7_kindBy 1 = .ok (.iload_n 1, 1) := by decide +kernel
theorem dX7_kindBy_2 : decode cX7_kindBy 2 = .ok (.iload_n 3, 1) := by decide +kernel
theorem dX7_kindBy_3 : decode cX7_kindBy 3 = .ok (.invokevirtual 222, 3) := by decide +kernel
theorem dX7_kindBy_6 : decode cX7_kindBy 6 = .ok (.ifCond .eq 39, 3) := by decide +kernel
theorem dX7_kindBy_9 : decode cX7_kindBy 9 = .ok (.aload_n 0, 1) := by decide +kernel
theorem dX7_kindBy_10 : decode cX7_kindBy 10 = .ok (.getfield 7, 3) := by decide +kernel
theorem dX7_kindBy_13 : decode cX7_kindBy 13 = .ok (.bipush 92, 2) := by decide +kernel
theorem dX7_kindBy_15 : decode cX7_kindBy 15 = .ok (.bipush 8, 2) := by decide +kernel
theorem dX7_kindBy_17 : decode cX7_kindBy 17 = .ok (.iload_n 1, 1) := by decide +kernel
theorem dX7_kindBy_18 : decode cX7_kindBy 18 = .ok (.imul, 1) := by decide +kernel
theorem dX7_kindBy_19 : decode cX7_kindBy 19 = .ok (.iadd, 1) := by decide +kernel
theorem dX7_kindBy_20 : decode cX7_kindBy 20 = .ok (.iaload, 1) := by decide +kernel
theorem dX7_kindBy_21 : decode cX7_kindBy 21 = .ok (.aload_n 0, 1) := by decide +kernel
theorem dX7_kindBy_22 : decode cX7_kindBy 22 = .ok (.getfield 7, 3) := by decide +kernel
theorem dX7_kindBy_25 : decode cX7_kindBy 25 = .ok (.bipush 92, 2) := by decide +kernel
theorem dX7_kindBy_27 : decode cX7_kindBy 27 = .ok (.bipush 8, 2) := by decide +kernel
theorem dX7_kindBy_29 : decode cX7_kindBy 29 = .ok (.iload_n 2, 1) := by decide +kernel
theorem dX7_kindBy_30 : decode cX7_kindBy 30 = .ok (.imul, 1) := by decide +kernel
theorem dX7_kindBy_31 : decode cX7_kindBy 31 = .ok (.iadd, 1) := by decide +kernel
theorem dX7_kindBy_32 : decode cX7_kindBy 32 = .ok (.iaload, 1) := by decide +kernel
theorem dX7_kindBy_33 : decode cX7_kindBy 33 = .ok (.if_icmp .eq 12, 3) := by decide +kernel
theorem dX7_kindBy_36 : decode cX7_kindBy 36 = .ok (.aload_n 0, 1) := by decide +kernel
theorem dX7_kindBy_37 : decode cX7_kindBy 37 = .ok (.iload_n 1, 1) := by decide +kernel
theorem dX7_kindBy_38 : decode cX7_kindBy 38 = .ok (.iload_n 2, 1) := by decide +kernel
theorem dX7_kindBy_39 : decode cX7_kindBy 39 = .ok (.invokevirtual 218, 3) := by decide +kernel
theorem dX7_kindBy_42 : decode cX7_kindBy 42 = .ok (.ifCond .eq 5, 3) := by decide +kernel
theorem dX7_kindBy_45 : decode cX7_kindBy 45 = .ok (.iconst (-1), 1) := by decide +kernel
theorem dX7_kindBy_46 : decode cX7_kindBy 46 = .ok (.ireturn, 1) := by decide +kernel
theorem dX7_kindBy_47 : decode cX7_kindBy 47 = .ok (.aload_n 0, 1) := by decide +kernel
theorem dX7_kindBy_48 : decode cX7_kindBy 48 = .ok (.getfield 7, 3) := by decide +kernel
theorem dX7_kindBy_51 : decode cX7_kindBy 51 = .ok (.bipush 92, 2) := by decide +kernel
theorem dX7_kindBy_53 : decode cX7_kindBy 53 = .ok (.bipush 8, 2) := by decide +kernel
theorem dX7_kindBy_55 : decode cX7_kindBy 55 = .ok (.iload_n 1, 1) := by decide +kernel
theorem dX7_kindBy_56 : decode cX7_kindBy 56 = .ok (.imul, 1) := by decide +kernel
theorem dX7_kindBy_57 : decode cX7_kindBy 57 = .ok (.iadd, 1) := by decide +kernel
theorem dX7_kindBy_58 : decode cX7_kindBy 58 = .ok (.iconst 1, 1) := by decide +kernel
theorem dX7_kindBy_59 : decode cX7_kindBy 59 = .ok (.iadd, 1) := by decide +kernel
theorem dX7_kindBy_60 : decode cX7_kindBy 60 = .ok (.iaload, 1) := by decide +kernel
theorem dX7_kindBy_61 : decode cX7_kindBy 61 = .ok (.iconst 1, 1) := by decide +kernel
theorem dX7_kindBy_62 : decode cX7_kindBy 62 = .ok (.if_icmp .ne 7, 3) := by decide +kernel
theorem dX7_kindBy_65 : decode cX7_kindBy 65 = .ok (.iconst 1, 1) := by decide +kernel
theorem dX7_kindBy_66 : decode cX7_kindBy 66 = .ok (.goto 4, 3) := by decide +kernel
theorem dX7_kindBy_69 : decode cX7_kindBy 69 = .ok (.iconst 0, 1) := by decide +kernel
theorem dX7_kindBy_70 : decode cX7_kindBy 70 = .ok (.istore 4, 2) := by decide +kernel
theorem dX7_kindBy_72 : decode cX7_kindBy 72 = .ok (.aload_n 0, 1) := by decide +kernel
theorem dX7_kindBy_73 : decode cX7_kindBy 73 = .ok (.getfield 7, 3) := by decide +kernel
theorem dX7_kindBy_76 : decode cX7_kindBy 76 = .ok (.bipush 92, 2) := by decide +kernel
theorem dX7_kindBy_78 : decode cX7_kindBy 78 = .ok (.bipush 8, 2) := by decide +kernel
theorem dX7_kindBy_80 : decode cX7_kindBy 80 = .ok (.iload_n 2, 1) := by decide +kernel
theorem dX7_kindBy_81 : decode cX7_kindBy 81 = .ok (.imul, 1) := by decide +kernel
theorem dX7_kindBy_82 : decode cX7_kindBy 82 = .ok (.iadd, 1) := by decide +kernel
theorem dX7_kindBy_83 : decode cX7_kindBy 83 = .ok (.iconst 1, 1) := by decide +kernel
theorem dX7_kindBy_84 : decode cX7_kindBy 84 = .ok (.iadd, 1) := by decide +kernel
theorem dX7_kindBy_85 : decode cX7_kindBy 85 = .ok (.iaload, 1) := by decide +kernel
theorem dX7_kindBy_86 : decode cX7_kindBy 86 = .ok (.iconst 1, 1) := by decide +kernel
theorem dX7_kindBy_87 : decode cX7_kindBy 87 = .ok (.if_icmp .ne 7, 3) := by decide +kernel
theorem dX7_kindBy_90 : decode cX7_kindBy 90 = .ok (.iconst 1, 1) := by decide +kernel
theorem dX7_kindBy_91 : decode cX7_kindBy 91 = .ok (.goto 4, 3) := by decide +kernel
theorem dX7_kindBy_94 : decode cX7_kindBy 94 = .ok (.iconst 0, 1) := by decide +kernel
theorem dX7_kindBy_95 : decode cX7_kindBy 95 = .ok (.istore 5, 2) := by decide +kernel
theorem dX7_kindBy_97 : decode cX7_kindBy 97 = .ok (.iload 4, 2) := by decide +kernel
theorem dX7_kindBy_99 : decode cX7_kindBy 99 = .ok (.ifCond .eq 12, 3) := by decide +kernel
theorem dX7_kindBy_102 : decode cX7_kindBy 102 = .ok (.iload 5, 2) := by decide +kernel
theorem dX7_kindBy_104 : decode cX7_kindBy 104 = .ok (.ifCond .eq 7, 3) := by decide +kernel
theorem dX7_kindBy_107 : decode cX7_kindBy 107 = .ok (.iconst 0, 1) := by decide +kernel
theorem dX7_kindBy_108 : decode cX7_kindBy 108 = .ok (.goto 22, 3) := by decide +kernel
theorem dX7_kindBy_111 : decode cX7_kindBy 111 = .ok (.iload 4, 2) := by decide +kernel
theorem dX7_kindBy_113 : decode cX7_kindBy 113 = .ok (.ifCond .eq 7, 3) := by decide +kernel
theorem dX7_kindBy_116 : decode cX7_kindBy 116 = .ok (.iconst 1, 1) := by decide +kernel
theorem dX7_kindBy_117 : decode cX7_kindBy 117 = .ok (.goto 13, 3) := by decide +kernel
theorem dX7_kindBy_120 : decode cX7_kindBy 120 = .ok (.iload 5, 2) := by decide +kernel
theorem dX7_kindBy_122 : decode cX7_kindBy 122 = .ok (.ifCond .eq 7, 3) := by decide +kernel
theorem dX7_kindBy_125 : decode cX7_kindBy 125 = .ok (.iconst 2, 1) := by decide +kernel
theorem dX7_kindBy_126 : decode cX7_kindBy 126 = .ok (.goto 4, 3) := by decide +kernel
theorem dX7_kindBy_129 : decode cX7_kindBy 129 = .ok (.iconst (-1), 1) := by decide +kernel
theorem dX7_kindBy_130 : decode cX7_kindBy 130 = .ok (.ireturn, 1) := by decide +kernel
set_option maxRecDepth 20000 in
theorem ggX7_racesOf_X7_isAccess : GoodIn wsX7_racesOf wsX7_isAccess := goodIn_r _ [6, 1, 15, 16, 17, 18, 19, 20, 21, 22, 23, 24, 25, 26, 27, 28] (by decide +kernel) (by decide +kernel)
set_option maxRecDepth 20000 in
theorem gX7_racesOf_X7_isAccess : GoodIn wsX7_racesOf (wsV RX7 222 RX7 yX7_isAccess wsX7_isAccess) := goodIn_app (goodIn_of _ (by decide +kernel)) ggX7_racesOf_X7_isAccess
set_option maxRecDepth 20000 in
theorem ggX7_racesOf_X7_kindBy : GoodIn wsX7_racesOf wsX7_kindBy := goodIn_r _ [10, 1, 2, 3, 4, 5, 6, 11, 12, 13, 14, 15, 16, 17, 18, 19, 20, 21, 22, 23, 24, 25, 26, 27, 28] (by decide +kernel) (by decide +kernel)
set_option maxRecDepth 20000 in
theorem gX7_racesOf_X7_kindBy : GoodIn wsX7_racesOf (wsV RX7 225 RX7 yX7_kindBy wsX7_kindBy) := goodIn_app (goodIn_of _ (by decide +kernel)) ggX7_racesOf_X7_kindBy
theorem dX7_racesOf_0 : decode cX7_racesOf 0 = .ok (.iconst 0, 1) := by decide +kernel
theorem dX7_racesOf_1 : decode cX7_racesOf 1 = .ok (.istore_n 3, 1) := by decide +kernel
theorem dX7_racesOf_2 : decode cX7_racesOf 2 = .ok (.iconst 0, 1) := by decide +kernel
theorem dX7_racesOf_3 : decode cX7_racesOf 3 = .ok (.istore 4, 2) := by decide +kernel
theorem dX7_racesOf_5 : decode cX7_racesOf 5 = .ok (.iload 4, 2) := by decide +kernel
theorem dX7_racesOf_7 : decode cX7_racesOf 7 = .ok (.aload_n 0, 1) := by decide +kernel
theorem dX7_racesOf_8 : decode cX7_racesOf 8 = .ok (.getfield 7, 3) := by decide +kernel
theorem dX7_racesOf_11 : decode cX7_racesOf 11 = .ok (.bipush 91, 2) := by decide +kernel
theorem dX7_racesOf_13 : decode cX7_racesOf 13 = .ok (.iaload, 1) := by decide +kernel
theorem dX7_racesOf_14 : decode cX7_racesOf 14 = .ok (.if_icmp .ge 71, 3) := by decide +kernel
theorem dX7_racesOf_17 : decode cX7_racesOf 17 = .ok (.iconst 0, 1) := by decide +kernel
theorem dX7_racesOf_18 : decode cX7_racesOf 18 = .ok (.istore 5, 2) := by decide +kernel
theorem dX7_racesOf_20 : decode cX7_racesOf 20 = .ok (.iload 5, 2) := by decide +kernel
theorem dX7_racesOf_22 : decode cX7_racesOf 22 = .ok (.iload 4, 2) := by decide +kernel
theorem dX7_racesOf_24 : decode cX7_racesOf 24 = .ok (.if_icmp .ge 55, 3) := by decide +kernel
theorem dX7_racesOf_27 : decode cX7_racesOf 27 = .ok (.aload_n 0, 1) := by decide +kernel
theorem dX7_racesOf_28 : decode cX7_racesOf 28 = .ok (.iload 4, 2) := by decide +kernel
theorem dX7_racesOf_30 : decode cX7_racesOf 30 = .ok (.iload_n 1, 1) := by decide +kernel
theorem dX7_racesOf_31 : decode cX7_racesOf 31 = .ok (.invokevirtual 222, 3) := by decide +kernel
theorem dX7_racesOf_34 : decode cX7_racesOf 34 = .ok (.ifCond .eq 45, 3) := by decide +kernel
theorem dX7_racesOf_37 : decode cX7_racesOf 37 = .ok (.aload_n 0, 1) := by decide +kernel
theorem dX7_racesOf_38 : decode cX7_racesOf 38 = .ok (.iload 5, 2) := by decide +kernel
theorem dX7_racesOf_40 : decode cX7_racesOf 40 = .ok (.iload 4, 2) := by decide +kernel
theorem dX7_racesOf_42 : decode cX7_racesOf 42 = .ok (.iload_n 1, 1) := by decide +kernel
theorem dX7_racesOf_43 : decode cX7_racesOf 43 = .ok (.invokevirtual 225, 3) := by decide +kernel
theorem dX7_racesOf_46 : decode cX7_racesOf 46 = .ok (.istore 6, 2) := by decide +kernel
theorem dX7_racesOf_48 : decode cX7_racesOf 48 = .ok (.iload_n 3, 1) := by decide +kernel
theorem dX7_racesOf_49 : decode cX7_racesOf 49 = .ok (.iload 6, 2) := by decide +kernel
theorem dX7_racesOf_51 : decode cX7_racesOf 51 = .ok (.iconst (-1), 1) := by decide +kernel
theorem dX7_racesOf_52 : decode cX7_racesOf 52 = .ok (.if_icmp .eq 18, 3) := by decide +kernel
theorem dX7_racesOf_55 : decode cX7_racesOf 55 = .ok (.iload_n 2, 1) := by decide +kernel
theorem dX7_racesOf_56 : decode cX7_racesOf 56 = .ok (.iconst 3, 1) := by decide +kernel
theorem dX7_racesOf_57 : decode cX7_racesOf 57 = .ok (.if_icmp .eq 9, 3) := by decide +kernel
theorem dX7_racesOf_60 : decode cX7_racesOf 60 = .ok (.iload 6, 2) := by decide +kernel
theorem dX7_racesOf_62 : decode cX7_racesOf 62 = .ok (.iload_n 2, 1) := by decide +kernel
theorem dX7_racesOf_63 : decode cX7_racesOf 63 = .ok (.if_icmp .ne 7, 3) := by decide +kernel
theorem dX7_racesOf_66 : decode cX7_racesOf 66 = .ok (.iconst 1, 1) := by decide +kernel
theorem dX7_racesOf_67 : decode cX7_racesOf 67 = .ok (.goto 4, 3) := by decide +kernel
theorem dX7_racesOf_70 : decode cX7_racesOf 70 = .ok (.iconst 0, 1) := by decide +kernel
theorem dX7_racesOf_71 : decode cX7_racesOf 71 = .ok (.iadd, 1) := by decide +kernel
theorem dX7_racesOf_72 : decode cX7_racesOf 72 = .ok (.istore_n 3, 1) := by decide +kernel
theorem dX7_racesOf_73 : decode cX7_racesOf 73 = .ok (.iinc 5 1, 3) := by decide +kernel
theorem dX7_racesOf_76 : decode cX7_racesOf 76 = .ok (.goto (-56), 3) := by decide +kernel
theorem dX7_racesOf_79 : decode cX7_racesOf 79 = .ok (.iinc 4 1, 3) := by decide +kernel
theorem dX7_racesOf_82 : decode cX7_racesOf 82 = .ok (.goto (-77), 3) := by decide +kernel
theorem dX7_racesOf_85 : decode cX7_racesOf 85 = .ok (.iload_n 3, 1) := by decide +kernel
theorem dX7_racesOf_86 : decode cX7_racesOf 86 = .ok (.ireturn, 1) := by decide +kernel
set_option maxRecDepth 20000 in
theorem ggX7_races_X7_isCell : GoodIn wsX7_races wsX7_isCell := goodIn_r _ [7, 2, 8, 9, 6, 10] (by decide +kernel) (by decide +kernel)
set_option maxRecDepth 20000 in
theorem gX7_races_X7_isCell : GoodIn wsX7_races (va_wsS RX7 46 yX7_isCell wsX7_isCell) := goodIn_app (goodIn_of _ (by decide +kernel)) ggX7_races_X7_isCell
set_option maxRecDepth 20000 in
theorem ggX7_races_X7_in : GoodIn wsX7_races wsX7_in := goodIn_r _ [10] (by decide +kernel) (by decide +kernel)
set_option maxRecDepth 20000 in
theorem gX7_races_X7_in : GoodIn wsX7_races (va_wsS RX7 31 yX7_in wsX7_in) := goodIn_app (goodIn_of _ (by decide +kernel)) ggX7_races_X7_in
set_option maxRecDepth 20000 in
theorem ggX7_races_X7_racesOf : GoodIn wsX7_races wsX7_racesOf := goodIn_r _ [14, 15, 16, 17, 18, 6, 19, 20, 21, 22, 23, 24, 25, 26, 27, 28, 29, 30, 31, 32, 33, 34, 35, 36, 37, 38, 39, 40, 41] (by decide +kernel) (by decide +kernel)
set_option maxRecDepth 20000 in
theorem gX7_races_X7_racesOf : GoodIn wsX7_races (wsV RX7 199 RX7 yX7_racesOf wsX7_racesOf) := goodIn_app (goodIn_of _ (by decide +kernel)) ggX7_races_X7_racesOf
theorem dX7_races_0 : decode cX7_races 0 = .ok (.iload_n 1, 1) := by decide +kernel
theorem dX7_races_1 : decode cX7_races 1 = .ok (.invokestatic 46, 3) := by decide +kernel
theorem dX7_races_4 : decode cX7_races 4 = .ok (.ifCond .ne 6, 3) := by decide +kernel
theorem dX7_races_7 : decode cX7_races 7 = .ok (.ldc 97, 2) := by decide +kernel
theorem dX7_races_9 : decode cX7_races 9 = .ok (.ireturn, 1) := by decide +kernel
theorem dX7_races_10 : decode cX7_races 10 = .ok (.iload_n 2, 1) := by decide +kernel
theorem dX7_races_11 : decode cX7_races 11 = .ok (.i2l, 1) := by decide +kernel
theorem dX7_races_12 : decode cX7_races 12 = .ok (.lconst 0, 1) := by decide +kernel
theorem dX7_races_13 : decode cX7_races 13 = .ok (.ldc2_w 29, 3) := by decide +kernel
theorem dX7_races_16 : decode cX7_races 16 = .ok (.invokestatic 31, 3) := by decide +kernel
theorem dX7_races_19 : decode cX7_races 19 = .ok (.ifCond .eq 12, 3) := by decide +kernel
theorem dX7_races_22 : decode cX7_races 22 = .ok (.aload_n 0, 1) := by decide +kernel
theorem dX7_races_23 : decode cX7_races 23 = .ok (.iload_n 1, 1) := by decide +kernel
theorem dX7_races_24 : decode cX7_races 24 = .ok (.iload_n 2, 1) := by decide +kernel
theorem dX7_races_25 : decode cX7_races 25 = .ok (.invokevirtual 199, 3) := by decide +kernel
theorem dX7_races_28 : decode cX7_races 28 = .ok (.goto 5, 3) := by decide +kernel
theorem dX7_races_31 : decode cX7_races 31 = .ok (.ldc 98, 2) := by decide +kernel
theorem dX7_races_33 : decode cX7_races 33 = .ok (.ireturn, 1) := by decide +kernel
set_option maxRecDepth 20000 in
theorem ggX7_race_X7_isCell : GoodIn wsX7_race wsX7_isCell := goodIn_r _ [8, 9, 10, 11, 7, 12] (by decide +kernel) (by decide +kernel)
set_option maxRecDepth 20000 in
theorem gX7_race_X7_isCell : GoodIn wsX7_race (va_wsS RX7 46 yX7_isCell wsX7_isCell) := goodIn_app (goodIn_of _ (by decide +kernel)) ggX7_race_X7_isCell
set_option maxRecDepth 20000 in
theorem ggX7_race_X7_in : GoodIn wsX7_race wsX7_in := goodIn_r _ [12] (by decide +kernel) (by decide +kernel)
set_option maxRecDepth 20000 in
theorem gX7_race_X7_in : GoodIn wsX7_race (va_wsS RX7 31 yX7_in wsX7_in) := goodIn_app (goodIn_of _ (by decide +kernel)) ggX7_race_X7_in
set_option maxRecDepth 20000 in
theorem ggX7_race_X7_isAccess : GoodIn wsX7_race wsX7_isAccess := goodIn_r _ [16, 4, 25, 26, 27, 28, 29, 30, 31, 32, 33, 34, 35, 36, 37, 38] (by decide +kernel) (by decide +kernel)
set_option maxRecDepth 20000 in
theorem gX7_race_X7_isAccess : GoodIn wsX7_race (wsV RX7 222 RX7 yX7_isAccess wsX7_isAccess) := goodIn_app (goodIn_of _ (by decide +kernel)) ggX7_race_X7_isAccess
set_option maxRecDepth 20000 in
theorem ggX7_race_X7_kindBy : GoodIn wsX7_race wsX7_kindBy := goodIn_r _ [20, 4, 13, 14, 15, 7, 16, 21, 22, 23, 24, 25, 26, 27, 28, 29, 30, 31, 32, 33, 34, 35, 36, 37, 38] (by decide +kernel) (by decide +kernel)
set_option maxRecDepth 20000 in
theorem gX7_race_X7_kindBy : GoodIn wsX7_race (wsV RX7 225 RX7 yX7_kindBy wsX7_kindBy) := goodIn_app (goodIn_of _ (by decide +kernel)) ggX7_race_X7_kindBy
theorem dX7_race_0 : decode cX7_race 0 = .ok (.iload_n 1, 1) := by decide +kernel
theorem dX7_race_1 : decode cX7_race 1 = .ok (.invokestatic 46, 3) := by decide +kernel
theorem dX7_race_4 : decode cX7_race 4 = .ok (.ifCond .ne 6, 3) := by decide +kernel
theorem dX7_race_7 : decode cX7_race 7 = .ok (.ldc 97, 2) := by decide +kernel
theorem dX7_race_9 : decode cX7_race 9 = .ok (.ireturn, 1) := by decide +kernel
theorem dX7_race_10 : decode cX7_race 10 = .ok (.iload_n 3, 1) := by decide +kernel
theorem dX7_race_11 : decode cX7_race 11 = .ok (.i2l, 1) := by decide +kernel
theorem dX7_race_12 : decode cX7_race 12 = .ok (.lconst 0, 1) := by decide +kernel
theorem dX7_race_13 : decode cX7_race 13 = .ok (.ldc2_w 35, 3) := by decide +kernel
theorem dX7_race_16 : decode cX7_race 16 = .ok (.invokestatic 31, 3) := by decide +kernel
theorem dX7_race_19 : decode cX7_race 19 = .ok (.ifCond .eq 7, 3) := by decide +kernel
theorem dX7_race_22 : decode cX7_race 22 = .ok (.iload_n 2, 1) := by decide +kernel
theorem dX7_race_23 : decode cX7_race 23 = .ok (.ifCond .ge 6, 3) := by decide +kernel
theorem dX7_race_26 : decode cX7_race 26 = .ok (.ldc 98, 2) := by decide +kernel
theorem dX7_race_28 : decode cX7_race 28 = .ok (.ireturn, 1) := by decide +kernel
theorem dX7_race_29 : decode cX7_race 29 = .ok (.iload_n 2, 1) := by decide +kernel
theorem dX7_race_30 : decode cX7_race 30 = .ok (.istore 4, 2) := by decide +kernel
theorem dX7_race_32 : decode cX7_race 32 = .ok (.iconst 0, 1) := by decide +kernel
theorem dX7_race_33 : decode cX7_race 33 = .ok (.istore 5, 2) := by decide +kernel
theorem dX7_race_35 : decode cX7_race 35 = .ok (.iload 5, 2) := by decide +kernel
theorem dX7_race_37 : decode cX7_race 37 = .ok (.aload_n 0, 1) := by decide +kernel
theorem dX7_race_38 : decode cX7_race 38 = .ok (.getfield 7, 3) := by decide +kernel
theorem dX7_race_41 : decode cX7_race 41 = .ok (.bipush 91, 2) := by decide +kernel
theorem dX7_race_43 : decode cX7_race 43 = .ok (.iaload, 1) := by decide +kernel
theorem dX7_race_44 : decode cX7_race 44 = .ok (.if_icmp .ge 95, 3) := by decide +kernel
theorem dX7_race_47 : decode cX7_race 47 = .ok (.iconst 0, 1) := by decide +kernel
theorem dX7_race_48 : decode cX7_race 48 = .ok (.istore 6, 2) := by decide +kernel
theorem dX7_race_50 : decode cX7_race 50 = .ok (.iload 6, 2) := by decide +kernel
theorem dX7_race_52 : decode cX7_race 52 = .ok (.iload 5, 2) := by decide +kernel
theorem dX7_race_54 : decode cX7_race 54 = .ok (.if_icmp .ge 79, 3) := by decide +kernel
theorem dX7_race_57 : decode cX7_race 57 = .ok (.aload_n 0, 1) := by decide +kernel
theorem dX7_race_58 : decode cX7_race 58 = .ok (.iload 5, 2) := by decide +kernel
theorem dX7_race_60 : decode cX7_race 60 = .ok (.iload_n 1, 1) := by decide +kernel
theorem dX7_race_61 : decode cX7_race 61 = .ok (.invokevirtual 222, 3) := by decide +kernel
theorem dX7_race_64 : decode cX7_race 64 = .ok (.ifCond .eq 69, 3) := by decide +kernel
theorem dX7_race_67 : decode cX7_race 67 = .ok (.aload_n 0, 1) := by decide +kernel
theorem dX7_race_68 : decode cX7_race 68 = .ok (.iload 6, 2) := by decide +kernel
theorem dX7_race_70 : decode cX7_race 70 = .ok (.iload 5, 2) := by decide +kernel
theorem dX7_race_72 : decode cX7_race 72 = .ok (.iload_n 1, 1) := by decide +kernel
theorem dX7_race_73 : decode cX7_race 73 = .ok (.invokevirtual 225, 3) := by decide +kernel
theorem dX7_race_76 : decode cX7_race 76 = .ok (.istore 7, 2) := by decide +kernel
theorem dX7_race_78 : decode cX7_race 78 = .ok (.iload 7, 2) := by decide +kernel
theorem dX7_race_80 : decode cX7_race 80 = .ok (.iconst (-1), 1) := by decide +kernel
theorem dX7_race_81 : decode cX7_race 81 = .ok (.if_icmp .eq 30, 3) := by decide +kernel
theorem dX7_race_84 : decode cX7_race 84 = .ok (.iload 4, 2) := by decide +kernel
theorem dX7_race_86 : decode cX7_race 86 = .ok (.ifCond .ne 25, 3) := by decide +kernel
theorem dX7_race_89 : decode cX7_race 89 = .ok (.iload_n 3, 1) := by decide +kernel
theorem dX7_race_90 : decode cX7_race 90 = .ok (.ifCond .ne 8, 3) := by decide +kernel
theorem dX7_race_93 : decode cX7_race 93 = .ok (.iload 6, 2) := by decide +kernel
theorem dX7_race_95 : decode cX7_race 95 = .ok (.goto 15, 3) := by decide +kernel
theorem dX7_race_98 : decode cX7_race 98 = .ok (.iload_n 3, 1) := by decide +kernel
theorem dX7_race_99 : decode cX7_race 99 = .ok (.iconst 1, 1) := by decide +kernel
theorem dX7_race_100 : decode cX7_race 100 = .ok (.if_icmp .ne 8, 3) := by decide +kernel
theorem dX7_race_103 : decode cX7_race 103 = .ok (.iload 5, 2) := by decide +kernel
theorem dX7_race_105 : decode cX7_race 105 = .ok (.goto 5, 3) := by decide +kernel
theorem dX7_race_108 : decode cX7_race 108 = .ok (.iload 7, 2) := by decide +kernel
theorem dX7_race_110 : decode cX7_race 110 = .ok (.ireturn, 1) := by decide +kernel
theorem dX7_race_111 : decode cX7_race 111 = .ok (.iload 4, 2) := by decide +kernel
theorem dX7_race_113 : decode cX7_race 113 = .ok (.iload 7, 2) := by decide +kernel
theorem dX7_race_115 : decode cX7_race 115 = .ok (.iconst (-1), 1) := by decide +kernel
theorem dX7_race_116 : decode cX7_race 116 = .ok (.if_icmp .eq 7, 3) := by decide +kernel
theorem dX7_race_119 : decode cX7_race 119 = .ok (.iconst 1, 1) := by decide +kernel
theorem dX7_race_120 : decode cX7_race 120 = .ok (.goto 4, 3) := by decide +kernel
theorem dX7_race_123 : decode cX7_race 123 = .ok (.iconst 0, 1) := by decide +kernel
theorem dX7_race_124 : decode cX7_race 124 = .ok (.isub, 1) := by decide +kernel
theorem dX7_race_125 : decode cX7_race 125 = .ok (.istore 4, 2) := by decide +kernel
theorem dX7_race_127 : decode cX7_race 127 = .ok (.iinc 6 1, 3) := by decide +kernel
theorem dX7_race_130 : decode cX7_race 130 = .ok (.goto (-80), 3) := by decide +kernel
theorem dX7_race_133 : decode cX7_race 133 = .ok (.iinc 5 1, 3) := by decide +kernel
theorem dX7_race_136 : decode cX7_race 136 = .ok (.goto (-101), 3) := by decide +kernel
theorem dX7_race_139 : decode cX7_race 139 = .ok (.iconst (-1), 1) := by decide +kernel
theorem dX7_race_140 : decode cX7_race 140 = .ok (.ireturn, 1) := by decide +kernel
set_option maxRecDepth 20000 in
theorem ggX7_cell_X7_isCell : GoodIn wsX7_cell wsX7_isCell := goodIn_r _ [7, 8, 9, 10, 6, 11] (by decide +kernel) (by decide +kernel)
set_option maxRecDepth 20000 in
theorem gX7_cell_X7_isCell : GoodIn wsX7_cell (va_wsS RX7 46 yX7_isCell wsX7_isCell) := goodIn_app (goodIn_of _ (by decide +kernel)) ggX7_cell_X7_isCell
set_option maxRecDepth 20000 in
theorem ggX7_cell_X7_of : GoodIn wsX7_cell wsX7_of := goodIn_r _ [14] (by decide +kernel) (by decide +kernel)
set_option maxRecDepth 20000 in
theorem gX7_cell_X7_of : GoodIn wsX7_cell (va_wsS RX7 37 yX7_of wsX7_of) := goodIn_app (goodIn_of _ (by decide +kernel)) ggX7_cell_X7_of
theorem dX7_cell_0 : decode cX7_cell 0 = .ok (.iload_n 1, 1) := by decide +kernel
theorem dX7_cell_1 : decode cX7_cell 1 = .ok (.invokestatic 46, 3) := by decide +kernel
theorem dX7_cell_4 : decode cX7_cell 4 = .ok (.ifCond .ne 6, 3) := by decide +kernel
theorem dX7_cell_7 : decode cX7_cell 7 = .ok (.ldc 97, 2) := by decide +kernel
theorem dX7_cell_9 : decode cX7_cell 9 = .ok (.ireturn, 1) := by decide +kernel
theorem dX7_cell_10 : decode cX7_cell 10 = .ok (.iload_n 1, 1) := by decide +kernel
theorem dX7_cell_11 : decode cX7_cell 11 = .ok (.invokestatic 37, 3) := by decide +kernel
theorem dX7_cell_14 : decode cX7_cell 14 = .ok (.istore_n 3, 1) := by decide +kernel
theorem dX7_cell_15 : decode cX7_cell 15 = .ok (.iload_n 2, 1) := by decide +kernel
theorem dX7_cell_16 : decode cX7_cell 16 = .ok (.tableswitch 123 0 7 #[48, 57, 66, 75, 84, 93, 103, 113], 48) := by decide +kernel
theorem dX7_cell_64 : decode cX7_cell 64 = .ok (.aload_n 0, 1) := by decide +kernel
theorem dX7_cell_65 : decode cX7_cell 65 = .ok (.getfield 7, 3) := by decide +kernel
theorem dX7_cell_68 : decode cX7_cell 68 = .ok (.iload_n 3, 1) := by decide +kernel
theorem dX7_cell_69 : decode cX7_cell 69 = .ok (.iconst 0, 1) := by decide +kernel
theorem dX7_cell_70 : decode cX7_cell 70 = .ok (.iadd, 1) := by decide +kernel
theorem dX7_cell_71 : decode cX7_cell 71 = .ok (.iaload, 1) := by decide +kernel
theorem dX7_cell_72 : decode cX7_cell 72 = .ok (.ireturn, 1) := by decide +kernel
theorem dX7_cell_73 : decode cX7_cell 73 = .ok (.aload_n 0, 1) := by decide +kernel
theorem dX7_cell_74 : decode cX7_cell 74 = .ok (.getfield 7, 3) := by decide +kernel
theorem dX7_cell_77 : decode cX7_cell 77 = .ok (.iload_n 3, 1) := by decide +kernel
theorem dX7_cell_78 : decode cX7_cell 78 = .ok (.iconst 1, 1) := by decide +kernel
theorem dX7_cell_79 : decode cX7_cell 79 = .ok (.iadd, 1) := by decide +kernel
theorem dX7_cell_80 : decode cX7_cell 80 = .ok (.iaload, 1) := by decide +kernel
theorem dX7_cell_81 : decode cX7_cell 81 = .ok (.ireturn, 1) := by decide +kernel
theorem dX7_cell_82 : decode cX7_cell 82 = .ok (.aload_n 0, 1) := by decide +kernel
theorem dX7_cell_83 : decode cX7_cell 83 = .ok (.getfield 7, 3) := by decide +kernel
theorem dX7_cell_86 : decode cX7_cell 86 = .ok (.iload_n 3, 1) := by decide +kernel
theorem dX7_cell_87 : decode cX7_cell 87 = .ok (.iconst 2, 1) := by decide +kernel
theorem dX7_cell_88 : decode cX7_cell 88 = .ok (.iadd, 1) := by decide +kernel
theorem dX7_cell_89 : decode cX7_cell 89 = .ok (.iaload, 1) := by decide +kernel
theorem dX7_cell_90 : decode cX7_cell 90 = .ok (.ireturn, 1) := by decide +kernel
theorem dX7_cell_91 : decode cX7_cell 91 = .ok (.aload_n 0, 1) := by decide +kernel
theorem dX7_cell_92 : decode cX7_cell 92 = .ok (.getfield 7, 3) := by decide +kernel
theorem dX7_cell_95 : decode cX7_cell 95 = .ok (.iload_n 3, 1) := by decide +kernel
theorem dX7_cell_96 : decode cX7_cell 96 = .ok (.iconst 3, 1) := by decide +kernel
theorem dX7_cell_97 : decode cX7_cell 97 = .ok (.iadd, 1) := by decide +kernel
theorem dX7_cell_98 : decode cX7_cell 98 = .ok (.iaload, 1) := by decide +kernel
theorem dX7_cell_99 : decode cX7_cell 99 = .ok (.ireturn, 1) := by decide +kernel
theorem dX7_cell_100 : decode cX7_cell 100 = .ok (.aload_n 0, 1) := by decide +kernel
theorem dX7_cell_101 : decode cX7_cell 101 = .ok (.getfield 7, 3) := by decide +kernel
theorem dX7_cell_104 : decode cX7_cell 104 = .ok (.iload_n 3, 1) := by decide +kernel
theorem dX7_cell_105 : decode cX7_cell 105 = .ok (.iconst 4, 1) := by decide +kernel
theorem dX7_cell_106 : decode cX7_cell 106 = .ok (.iadd, 1) := by decide +kernel
theorem dX7_cell_107 : decode cX7_cell 107 = .ok (.iaload, 1) := by decide +kernel
theorem dX7_cell_108 : decode cX7_cell 108 = .ok (.ireturn, 1) := by decide +kernel
theorem dX7_cell_109 : decode cX7_cell 109 = .ok (.aload_n 0, 1) := by decide +kernel
theorem dX7_cell_110 : decode cX7_cell 110 = .ok (.getfield 7, 3) := by decide +kernel
theorem dX7_cell_113 : decode cX7_cell 113 = .ok (.iload_n 3, 1) := by decide +kernel
theorem dX7_cell_114 : decode cX7_cell 114 = .ok (.bipush 9, 2) := by decide +kernel
theorem dX7_cell_116 : decode cX7_cell 116 = .ok (.iadd, 1) := by decide +kernel
theorem dX7_cell_117 : decode cX7_cell 117 = .ok (.iaload, 1) := by decide +kernel
theorem dX7_cell_118 : decode cX7_cell 118 = .ok (.ireturn, 1) := by decide +kernel
theorem dX7_cell_119 : decode cX7_cell 119 = .ok (.aload_n 0, 1) := by decide +kernel
theorem dX7_cell_120 : decode cX7_cell 120 = .ok (.getfield 7, 3) := by decide +kernel
theorem dX7_cell_123 : decode cX7_cell 123 = .ok (.iload_n 3, 1) := by decide +kernel
theorem dX7_cell_124 : decode cX7_cell 124 = .ok (.bipush 10, 2) := by decide +kernel
theorem dX7_cell_126 : decode cX7_cell 126 = .ok (.iadd, 1) := by decide +kernel
theorem dX7_cell_127 : decode cX7_cell 127 = .ok (.iaload, 1) := by decide +kernel
theorem dX7_cell_128 : decode cX7_cell 128 = .ok (.ireturn, 1) := by decide +kernel
theorem dX7_cell_129 : decode cX7_cell 129 = .ok (.aload_n 0, 1) := by decide +kernel
theorem dX7_cell_130 : decode cX7_cell 130 = .ok (.getfield 7, 3) := by decide +kernel
theorem dX7_cell_133 : decode cX7_cell 133 = .ok (.iload_n 3, 1) := by decide +kernel
theorem dX7_cell_134 : decode cX7_cell 134 = .ok (.bipush 11, 2) := by decide +kernel
theorem dX7_cell_136 : decode cX7_cell 136 = .ok (.iadd, 1) := by decide +kernel
theorem dX7_cell_137 : decode cX7_cell 137 = .ok (.iaload, 1) := by decide +kernel
theorem dX7_cell_138 : decode cX7_cell 138 = .ok (.ireturn, 1) := by decide +kernel
theorem dX7_cell_139 : decode cX7_cell 139 = .ok (.ldc 98, 2) := by decide +kernel
theorem dX7_cell_141 : decode cX7_cell 141 = .ok (.ireturn, 1) := by decide +kernel
set_option maxRecDepth 20000 in
theorem ggX7_shared_X7_isCell : GoodIn wsX7_shared wsX7_isCell := goodIn_r _ [6, 7, 8, 9, 5, 10] (by decide +kernel) (by decide +kernel)
set_option maxRecDepth 20000 in
theorem gX7_shared_X7_isCell : GoodIn wsX7_shared (va_wsS RX7 46 yX7_isCell wsX7_isCell) := goodIn_app (goodIn_of _ (by decide +kernel)) ggX7_shared_X7_isCell
set_option maxRecDepth 20000 in
theorem ggX7_shared_X7_isThread : GoodIn wsX7_shared wsX7_isThread := goodIn_r _ [13, 7, 8, 9, 5, 10] (by decide +kernel) (by decide +kernel)
set_option maxRecDepth 20000 in
theorem gX7_shared_X7_isThread : GoodIn wsX7_shared (va_wsS RX7 56 yX7_isThread wsX7_isThread) := goodIn_app (goodIn_of _ (by decide +kernel)) ggX7_shared_X7_isThread
set_option maxRecDepth 20000 in
theorem ggX7_shared_X7_of : GoodIn wsX7_shared wsX7_of := goodIn_r _ [16] (by decide +kernel) (by decide +kernel)
set_option maxRecDepth 20000 in
theorem gX7_shared_X7_of : GoodIn wsX7_shared (va_wsS RX7 37 yX7_of wsX7_of) := goodIn_app (goodIn_of _ (by decide +kernel)) ggX7_shared_X7_of
theorem dX7_shared_0 : decode cX7_shared 0 = .ok (.iload_n 1, 1) := by decide +kernel
theorem dX7_shared_1 : decode cX7_shared 1 = .ok (.invokestatic 46, 3) := by decide +kernel
theorem dX7_shared_4 : decode cX7_shared 4 = .ok (.ifCond .eq 26, 3) := by decide +kernel
theorem dX7_shared_7 : decode cX7_shared 7 = .ok (.iload_n 2, 1) := by decide +kernel
theorem dX7_shared_8 : decode cX7_shared 8 = .ok (.invokestatic 56, 3) := by decide +kernel
theorem dX7_shared_11 : decode cX7_shared 11 = .ok (.ifCond .eq 19, 3) := by decide +kernel
theorem dX7_shared_14 : decode cX7_shared 14 = .ok (.aload_n 0, 1) := by decide +kernel
theorem dX7_shared_15 : decode cX7_shared 15 = .ok (.getfield 7, 3) := by decide +kernel
theorem dX7_shared_18 : decode cX7_shared 18 = .ok (.iload_n 1, 1) := by decide +kernel
theorem dX7_shared_19 : decode cX7_shared 19 = .ok (.invokestatic 37, 3) := by decide +kernel
theorem dX7_shared_22 : decode cX7_shared 22 = .ok (.iconst 5, 1) := by decide +kernel
theorem dX7_shared_23 : decode cX7_shared 23 = .ok (.iadd, 1) := by decide +kernel
theorem dX7_shared_24 : decode cX7_shared 24 = .ok (.iload_n 2, 1) := by decide +kernel
theorem dX7_shared_25 : decode cX7_shared 25 = .ok (.iadd, 1) := by decide +kernel
theorem dX7_shared_26 : decode cX7_shared 26 = .ok (.iaload, 1) := by decide +kernel
theorem dX7_shared_27 : decode cX7_shared 27 = .ok (.goto 5, 3) := by decide +kernel
theorem dX7_shared_30 : decode cX7_shared 30 = .ok (.ldc 97, 2) := by decide +kernel
theorem dX7_shared_32 : decode cX7_shared 32 = .ok (.ireturn, 1) := by decide +kernel
set_option maxRecDepth 20000 in
theorem ggX7_would_X7_isThread : GoodIn wsX7_would wsX7_isThread := goodIn_r _ [7, 8, 9, 10, 6, 11] (by decide +kernel) (by decide +kernel)
set_option maxRecDepth 20000 in
theorem gX7_would_X7_isThread : GoodIn wsX7_would (va_wsS RX7 56 yX7_isThread wsX7_isThread) := goodIn_app (goodIn_of _ (by decide +kernel)) ggX7_would_X7_isThread
set_option maxRecDepth 20000 in
theorem ggX7_would_X7_isCell : GoodIn wsX7_would wsX7_isCell := goodIn_r _ [14, 8, 9, 10, 6, 11] (by decide +kernel) (by decide +kernel)
set_option maxRecDepth 20000 in
theorem gX7_would_X7_isCell : GoodIn wsX7_would (va_wsS RX7 46 yX7_isCell wsX7_isCell) := goodIn_app (goodIn_of _ (by decide +kernel)) ggX7_would_X7_isCell
set_option maxRecDepth 20000 in
theorem ggX7_would_X7_kindOf : GoodIn wsX7_would wsX7_kindOf := goodIn_r _ [18, 2, 19, 20, 6, 21, 22, 23, 24, 25, 26, 27, 28, 29, 30, 31, 32, 33, 34, 35, 36, 37, 38, 39] (by decide +kernel) (by decide +kernel)
set_option maxRecDepth 20000 in
theorem gX7_would_X7_kindOf : GoodIn wsX7_would (wsV RX7 62 RX7 yX7_kindOf wsX7_kindOf) := goodIn_app (goodIn_of _ (by decide +kernel)) ggX7_would_X7_kindOf
theorem dX7_would_0 : decode cX7_would 0 = .ok (.iload_n 1, 1) := by decide +kernel
theorem dX7_would_1 : decode cX7_would 1 = .ok (.invokestatic 56, 3) := by decide +kernel
theorem dX7_would_4 : decode cX7_would 4 = .ok (.ifCond .eq 10, 3) := by decide +kernel
theorem dX7_would_7 : decode cX7_would 7 = .ok (.iload_n 2, 1) := by decide +kernel
theorem dX7_would_8 : decode cX7_would 8 = .ok (.invokestatic 46, 3) := by decide +kernel
theorem dX7_would_11 : decode cX7_would 11 = .ok (.ifCond .ne 6, 3) := by decide +kernel
theorem dX7_would_14 : decode cX7_would 14 = .ok (.ldc 97, 2) := by decide +kernel
theorem dX7_would_16 : decode cX7_would 16 = .ok (.ireturn, 1) := by decide +kernel
theorem dX7_would_17 : decode cX7_would 17 = .ok (.aload_n 0, 1) := by decide +kernel
theorem dX7_would_18 : decode cX7_would 18 = .ok (.getfield 7, 3) := by decide +kernel
theorem dX7_would_21 : decode cX7_would 21 = .ok (.iconst 0, 1) := by decide +kernel
theorem dX7_would_22 : decode cX7_would 22 = .ok (.iload_n 1, 1) := by decide +kernel
theorem dX7_would_23 : decode cX7_would 23 = .ok (.iadd, 1) := by decide +kernel
theorem dX7_would_24 : decode cX7_would 24 = .ok (.iaload, 1) := by decide +kernel
theorem dX7_would_25 : decode cX7_would 25 = .ok (.iconst 1, 1) := by decide +kernel
theorem dX7_would_26 : decode cX7_would 26 = .ok (.if_icmp .ne 13, 3) := by decide +kernel
theorem dX7_would_29 : decode cX7_would 29 = .ok (.aload_n 0, 1) := by decide +kernel
theorem dX7_would_30 : decode cX7_would 30 = .ok (.iload_n 1, 1) := by decide +kernel
theorem dX7_would_31 : decode cX7_would 31 = .ok (.iload_n 2, 1) := by decide +kernel
theorem dX7_would_32 : decode cX7_would 32 = .ok (.iload_n 3, 1) := by decide +kernel
theorem dX7_would_33 : decode cX7_would 33 = .ok (.invokevirtual 62, 3) := by decide +kernel
theorem dX7_would_36 : decode cX7_would 36 = .ok (.goto 5, 3) := by decide +kernel
theorem dX7_would_39 : decode cX7_would 39 = .ok (.ldc 102, 2) := by decide +kernel
theorem dX7_would_41 : decode cX7_would 41 = .ok (.ireturn, 1) := by decide +kernel
set_option maxRecDepth 20000 in
theorem ggX7_guard_X7_isCell : GoodIn wsX7_guard wsX7_isCell := goodIn_r _ [6, 7, 8, 9, 5, 10] (by decide +kernel) (by decide +kernel)
set_option maxRecDepth 20000 in
theorem gX7_guard_X7_isCell : GoodIn wsX7_guard (va_wsS RX7 46 yX7_isCell wsX7_isCell) := goodIn_app (goodIn_of _ (by decide +kernel)) ggX7_guard_X7_isCell
set_option maxRecDepth 20000 in
theorem ggX7_guard_X7_isAccess : GoodIn wsX7_guard wsX7_isAccess := goodIn_r _ [14, 2, 15, 16, 17, 18, 19, 20, 21, 22, 23, 24, 25, 26, 27, 28] (by decide +kernel) (by decide +kernel)
set_option maxRecDepth 20000 in
theorem gX7_guard_X7_isAccess : GoodIn wsX7_guard (wsV RX7 222 RX7 yX7_isAccess wsX7_isAccess) := goodIn_app (goodIn_of _ (by decide +kernel)) ggX7_guard_X7_isAccess
theorem dX7_guard_0 : decode cX7_guard 0 = .ok (.iload_n 1, 1) := by decide +kernel
theorem dX7_guard_1 : decode cX7_guard 1 = .ok (.invokestatic 46, 3) := by decide +kernel
theorem dX7_guard_4 : decode cX7_guard 4 = .ok (.ifCond .ne 6, 3) := by decide +kernel
theorem dX7_guard_7 : decode cX7_guard 7 = .ok (.ldc 97, 2) := by decide +kernel
theorem dX7_guard_9 : decode cX7_guard 9 = .ok (.ireturn, 1) := by decide +kernel
theorem dX7_guard_10 : decode cX7_guard 10 = .ok (.bipush 7, 2) := by decide +kernel
theorem dX7_guard_12 : decode cX7_guard 12 = .ok (.istore_n 2, 1) := by decide +kernel
theorem dX7_guard_13 : decode cX7_guard 13 = .ok (.iconst 0, 1) := by decide +kernel
theorem dX7_guard_14 : decode cX7_guard 14 = .ok (.istore_n 3, 1) := by decide +kernel
theorem dX7_guard_15 : decode cX7_guard 15 = .ok (.iload_n 3, 1) := by decide +kernel
theorem dX7_guard_16 : decode cX7_guard 16 = .ok (.aload_n 0, 1) := by decide +kernel
theorem dX7_guard_17 : decode cX7_guard 17 = .ok (.getfield 7, 3) := by decide +kernel
theorem dX7_guard_20 : decode cX7_guard 20 = .ok (.bipush 91, 2) := by decide +kernel
theorem dX7_guard_22 : decode cX7_guard 22 = .ok (.iaload, 1) := by decide +kernel
theorem dX7_guard_23 : decode cX7_guard 23 = .ok (.if_icmp .ge 41, 3) := by decide +kernel
theorem dX7_guard_26 : decode cX7_guard 26 = .ok (.iload_n 2, 1) := by decide +kernel
theorem dX7_guard_27 : decode cX7_guard 27 = .ok (.aload_n 0, 1) := by decide +kernel
theorem dX7_guard_28 : decode cX7_guard 28 = .ok (.iload_n 3, 1) := by decide +kernel
theorem dX7_guard_29 : decode cX7_guard 29 = .ok (.iload_n 1, 1) := by decide +kernel
theorem dX7_guard_30 : decode cX7_guard 30 = .ok (.invokevirtual 222, 3) := by decide +kernel
theorem dX7_guard_33 : decode cX7_guard 33 = .ok (.ifCond .eq 21, 3) := by decide +kernel
theorem dX7_guard_36 : decode cX7_guard 36 = .ok (.aload_n 0, 1) := by decide +kernel
theorem dX7_guard_37 : decode cX7_guard 37 = .ok (.getfield 7, 3) := by decide +kernel
theorem dX7_guard_40 : decode cX7_guard 40 = .ok (.bipush 92, 2) := by decide +kernel
theorem dX7_guard_42 : decode cX7_guard 42 = .ok (.bipush 8, 2) := by decide +kernel
theorem dX7_guard_44 : decode cX7_guard 44 = .ok (.iload_n 3, 1) := by decide +kernel
theorem dX7_guard_45 : decode cX7_guard 45 = .ok (.imul, 1) := by decide +kernel
theorem dX7_guard_46 : decode cX7_guard 46 = .ok (.iadd, 1) := by decide +kernel
theorem dX7_guard_47 : decode cX7_guard 47 = .ok (.bipush 7, 2) := by decide +kernel
theorem dX7_guard_49 : decode cX7_guard 49 = .ok (.iadd, 1) := by decide +kernel
theorem dX7_guard_50 : decode cX7_guard 50 = .ok (.iaload, 1) := by decide +kernel
theorem dX7_guard_51 : decode cX7_guard 51 = .ok (.goto 5, 3) := by decide +kernel
theorem dX7_guard_54 : decode cX7_guard 54 = .ok (.bipush 7, 2) := by decide +kernel
theorem dX7_guard_56 : decode cX7_guard 56 = .ok (.iand, 1) := by decide +kernel
theorem dX7_guard_57 : decode cX7_guard 57 = .ok (.istore_n 2, 1) := by decide +kernel
theorem dX7_guard_58 : decode cX7_guard 58 = .ok (.iinc 3 1, 3) := by decide +kernel
theorem dX7_guard_61 : decode cX7_guard 61 = .ok (.goto (-46), 3) := by decide +kernel
theorem dX7_guard_64 : decode cX7_guard 64 = .ok (.iload_n 2, 1) := by decide +kernel
theorem dX7_guard_65 : decode cX7_guard 65 = .ok (.ireturn, 1) := by decide +kernel
set_option maxRecDepth 20000 in
theorem ggX7_keep_X7_in : GoodIn wsX7_keep wsX7_in := goodIn_r _ [7] (by decide +kernel) (by decide +kernel)
set_option maxRecDepth 20000 in
theorem gX7_keep_X7_in : GoodIn wsX7_keep (va_wsS RX7 31 yX7_in wsX7_in) := goodIn_app (goodIn_of _ (by decide +kernel)) ggX7_keep_X7_in
theorem dX7_keep_0 : decode cX7_keep 0 = .ok (.iload_n 1, 1) := by decide +kernel
theorem dX7_keep_1 : decode cX7_keep 1 = .ok (.i2l, 1) := by decide +kernel
theorem dX7_keep_2 : decode cX7_keep 2 = .ok (.lconst 0, 1) := by decide +kernel
theorem dX7_keep_3 : decode cX7_keep 3 = .ok (.lconst 1, 1) := by decide +kernel
theorem dX7_keep_4 : decode cX7_keep 4 = .ok (.invokestatic 31, 3) := by decide +kernel
theorem dX7_keep_7 : decode cX7_keep 7 = .ok (.ifCond .ne 6, 3) := by decide +kernel
theorem dX7_keep_10 : decode cX7_keep 10 = .ok (.ldc 97, 2) := by decide +kernel
theorem dX7_keep_12 : decode cX7_keep 12 = .ok (.ireturn, 1) := by decide +kernel
theorem dX7_keep_13 : decode cX7_keep 13 = .ok (.iconst 0, 1) := by decide +kernel
theorem dX7_keep_14 : decode cX7_keep 14 = .ok (.istore_n 2, 1) := by decide +kernel
theorem dX7_keep_15 : decode cX7_keep 15 = .ok (.iload_n 2, 1) := by decide +kernel
theorem dX7_keep_16 : decode cX7_keep 16 = .ok (.sipush 1372, 3) := by decide +kernel
theorem dX7_keep_19 : decode cX7_keep 19 = .ok (.if_icmp .ge 31, 3) := by decide +kernel
theorem dX7_keep_22 : decode cX7_keep 22 = .ok (.aload_n 0, 1) := by decide +kernel
theorem dX7_keep_23 : decode cX7_keep 23 = .ok (.getfield 7, 3) := by decide +kernel
theorem dX7_keep_26 : decode cX7_keep 26 = .ok (.sipush 1614, 3) := by decide +kernel
theorem dX7_keep_29 : decode cX7_keep 29 = .ok (.sipush 1372, 3) := by decide +kernel
theorem dX7_keep_32 : decode cX7_keep 32 = .ok (.iload_n 1, 1) := by decide +kernel
theorem dX7_keep_33 : decode cX7_keep 33 = .ok (.imul, 1) := by decide +kernel
theorem dX7_keep_34 : decode cX7_keep 34 = .ok (.iadd, 1) := by decide +kernel
theorem dX7_keep_35 : decode cX7_keep 35 = .ok (.iload_n 2, 1) := by decide +kernel
theorem dX7_keep_36 : decode cX7_keep 36 = .ok (.iadd, 1) := by decide +kernel
theorem dX7_keep_37 : decode cX7_keep 37 = .ok (.aload_n 0, 1) := by decide +kernel
theorem dX7_keep_38 : decode cX7_keep 38 = .ok (.getfield 7, 3) := by decide +kernel
theorem dX7_keep_41 : decode cX7_keep 41 = .ok (.iload_n 2, 1) := by decide +kernel
theorem dX7_keep_42 : decode cX7_keep 42 = .ok (.iaload, 1) := by decide +kernel
theorem dX7_keep_43 : decode cX7_keep 43 = .ok (.iastore, 1) := by decide +kernel
theorem dX7_keep_44 : decode cX7_keep 44 = .ok (.iinc 2 1, 3) := by decide +kernel
theorem dX7_keep_47 : decode cX7_keep 47 = .ok (.goto (-32), 3) := by decide +kernel
theorem dX7_keep_50 : decode cX7_keep 50 = .ok (.aload_n 0, 1) := by decide +kernel
theorem dX7_keep_51 : decode cX7_keep 51 = .ok (.getfield 13, 3) := by decide +kernel
theorem dX7_keep_54 : decode cX7_keep 54 = .ok (.iload_n 1, 1) := by decide +kernel
theorem dX7_keep_55 : decode cX7_keep 55 = .ok (.iconst 1, 1) := by decide +kernel
theorem dX7_keep_56 : decode cX7_keep 56 = .ok (.bastore, 1) := by decide +kernel
theorem dX7_keep_57 : decode cX7_keep 57 = .ok (.aload_n 0, 1) := by decide +kernel
theorem dX7_keep_58 : decode cX7_keep 58 = .ok (.getfield 7, 3) := by decide +kernel
theorem dX7_keep_61 : decode cX7_keep 61 = .ok (.bipush 91, 2) := by decide +kernel
theorem dX7_keep_63 : decode cX7_keep 63 = .ok (.iaload, 1) := by decide +kernel
theorem dX7_keep_64 : decode cX7_keep 64 = .ok (.ireturn, 1) := by decide +kernel
set_option maxRecDepth 20000 in
theorem ggX7_goBack_X7_in : GoodIn wsX7_goBack wsX7_in := goodIn_r _ [8] (by decide +kernel) (by decide +kernel)
set_option maxRecDepth 20000 in
theorem gX7_goBack_X7_in : GoodIn wsX7_goBack (va_wsS RX7 31 yX7_in wsX7_in) := goodIn_app (goodIn_of _ (by decide +kernel)) ggX7_goBack_X7_in
theorem dX7_goBack_0 : decode cX7_goBack 0 = .ok (.iload_n 1, 1) := by decide +kernel
theorem dX7_goBack_1 : decode cX7_goBack 1 = .ok (.i2l, 1) := by decide +kernel
theorem dX7_goBack_2 : decode cX7_goBack 2 = .ok (.lconst 0, 1) := by decide +kernel
theorem dX7_goBack_3 : decode cX7_goBack 3 = .ok (.lconst 1, 1) := by decide +kernel
theorem dX7_goBack_4 : decode cX7_goBack 4 = .ok (.invokestatic 31, 3) := by decide +kernel
theorem dX7_goBack_7 : decode cX7_goBack 7 = .ok (.ifCond .ne 6, 3) := by decide +kernel
theorem dX7_goBack_10 : decode cX7_goBack 10 = .ok (.ldc 97, 2) := by decide +kernel
theorem dX7_goBack_12 : decode cX7_goBack 12 = .ok (.ireturn, 1) := by decide +kernel
theorem dX7_goBack_13 : decode cX7_goBack 13 = .ok (.aload_n 0, 1) := by decide +kernel
theorem dX7_goBack_14 : decode cX7_goBack 14 = .ok (.getfield 13, 3) := by decide +kernel
theorem dX7_goBack_17 : decode cX7_goBack 17 = .ok (.iload_n 1, 1) := by decide +kernel
theorem dX7_goBack_18 : decode cX7_goBack 18 = .ok (.baload, 1) := by decide +kernel
theorem dX7_goBack_19 : decode cX7_goBack 19 = .ok (.ifCond .ne 6, 3) := by decide +kernel
theorem dX7_goBack_22 : decode cX7_goBack 22 = .ok (.ldc 102, 2) := by decide +kernel
theorem dX7_goBack_24 : decode cX7_goBack 24 = .ok (.ireturn, 1) := by decide +kernel
theorem dX7_goBack_25 : decode cX7_goBack 25 = .ok (.iconst 0, 1) := by decide +kernel
theorem dX7_goBack_26 : decode cX7_goBack 26 = .ok (.istore_n 2, 1) := by decide +kernel
theorem dX7_goBack_27 : decode cX7_goBack 27 = .ok (.iload_n 2, 1) := by decide +kernel
theorem dX7_goBack_28 : decode cX7_goBack 28 = .ok (.sipush 1372, 3) := by decide +kernel
theorem dX7_goBack_31 : decode cX7_goBack 31 = .ok (.if_icmp .ge 31, 3) := by decide +kernel
theorem dX7_goBack_34 : decode cX7_goBack 34 = .ok (.aload_n 0, 1) := by decide +kernel
theorem dX7_goBack_35 : decode cX7_goBack 35 = .ok (.getfield 7, 3) := by decide +kernel
theorem dX7_goBack_38 : decode cX7_goBack 38 = .ok (.iload_n 2, 1) := by decide +kernel
theorem dX7_goBack_39 : decode cX7_goBack 39 = .ok (.aload_n 0, 1) := by decide +kernel
theorem dX7_goBack_40 : decode cX7_goBack 40 = .ok (.getfield 7, 3) := by decide +kernel
theorem dX7_goBack_43 : decode cX7_goBack 43 = .ok (.sipush 1614, 3) := by decide +kernel
theorem dX7_goBack_46 : decode cX7_goBack 46 = .ok (.sipush 1372, 3) := by decide +kernel
theorem dX7_goBack_49 : decode cX7_goBack 49 = .ok (.iload_n 1, 1) := by decide +kernel
theorem dX7_goBack_50 : decode cX7_goBack 50 = .ok (.imul, 1) := by decide +kernel
theorem dX7_goBack_51 : decode cX7_goBack 51 = .ok (.iadd, 1) := by decide +kernel
theorem dX7_goBack_52 : decode cX7_goBack 52 = .ok (.iload_n 2, 1) := by decide +kernel
theorem dX7_goBack_53 : decode cX7_goBack 53 = .ok (.iadd, 1) := by decide +kernel
theorem dX7_goBack_54 : decode cX7_goBack 54 = .ok (.iaload, 1) := by decide +kernel
theorem dX7_goBack_55 : decode cX7_goBack 55 = .ok (.iastore, 1) := by decide +kernel
theorem dX7_goBack_56 : decode cX7_goBack 56 = .ok (.iinc 2 1, 3) := by decide +kernel
theorem dX7_goBack_59 : decode cX7_goBack 59 = .ok (.goto (-32), 3) := by decide +kernel
theorem dX7_goBack_62 : decode cX7_goBack 62 = .ok (.aload_n 0, 1) := by decide +kernel
theorem dX7_goBack_63 : decode cX7_goBack 63 = .ok (.getfield 7, 3) := by decide +kernel
theorem dX7_goBack_66 : decode cX7_goBack 66 = .ok (.bipush 91, 2) := by decide +kernel
theorem dX7_goBack_68 : decode cX7_goBack 68 = .ok (.iaload, 1) := by decide +kernel
theorem dX7_goBack_69 : decode cX7_goBack 69 = .ok (.ireturn, 1) := by decide +kernel
