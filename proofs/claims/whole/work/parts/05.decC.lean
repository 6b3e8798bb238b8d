set_option maxRecDepth 20000 in
theorem ggX6_init_X5_init : GoodIn wsX6_init wsX5_init := goodIn_r _ [17, 18, 2, 3, 19, 20, 21, 22, 23, 24, 25, 26, 27, 28, 29, 30, 31, 32, 33, 34, 35, 36, 37, 38, 39, 40, 41, 42, 43, 44, 45, 46, 47, 48, 49, 50, 51, 52, 53, 54, 55, 56, 57, 58, 59, 60, 61, 62, 63, 64, 6, 65, 66, 67, 68, 69, 70, 71, 72, 73, 74, 75, 76, 77, 78, 79, 80, 81, 82, 83, 84, 85, 86, 87, 88, 89, 90, 91, 92, 93, 94, 95, 96, 97, 98, 99, 100, 101, 102, 119, 120, 121, 122, 123, 124, 125, 141, 142, 143, 144, 145, 146, 147, 148, 149, 150, 151, 152, 153, 154, 155, 156, 157, 158, 159, 160] (by decide +kernel) (by decide +kernel)
set_option maxRecDepth 20000 in
theorem gX6_init_X5_init : GoodIn wsX6_init (wsX5_init) := ggX6_init_X5_init
set_option maxRecDepth 20000 in
theorem ggX6_init_X4_init : GoodIn wsX6_init wsX4_init := goodIn_r _ [104, 105, 2, 3, 106, 107, 108, 109, 110, 19, 111, 112, 113, 114, 115, 116, 117, 118, 130, 131, 132, 133, 134, 135, 136, 137, 138, 139, 140, 161, 162, 163] (by decide +kernel) (by decide +kernel)
set_option maxRecDepth 20000 in
theorem gX6_init_X4_init_n26 : GoodIn wsX6_init (wsX4_init) := ggX6_init_X4_init
theorem dX6_init_0 : decode cX6_init 0 = .ok (.aload_n 0, 1) := by decide +kernel
theorem dX6_init_1 : decode cX6_init 1 = .ok (.invokespecial 1, 3) := by decide +kernel
theorem dX6_init_4 : decode cX6_init 4 = .ok (.aload_n 0, 1) := by decide +kernel
theorem dX6_init_5 : decode cX6_init 5 = .ok (.new 7, 3) := by decide +kernel
theorem dX6_init_8 : decode cX6_init 8 = .ok (.dup, 1) := by decide +kernel
theorem dX6_init_9 : decode cX6_init 9 = .ok (.invokespecial 9, 3) := by decide +kernel
theorem dX6_init_12 : decode cX6_init 12 = .ok (.putfield 10, 3) := by decide +kernel
theorem dX6_init_15 : decode cX6_init 15 = .ok (.aload_n 0, 1) := by decide +kernel
theorem dX6_init_16 : decode cX6_init 16 = .ok (.iconst 2, 1) := by decide +kernel
theorem dX6_init_17 : decode cX6_init 17 = .ok (.anewarray 7, 3) := by decide +kernel
theorem dX6_init_20 : decode cX6_init 20 = .ok (.dup, 1) := by decide +kernel
theorem dX6_init_21 : decode cX6_init 21 = .ok (.iconst 0, 1) := by decide +kernel
theorem dX6_init_22 : decode cX6_init 22 = .ok (.new 7, 3) := by decide +kernel
theorem dX6_init_25 : decode cX6_init 25 = .ok (.dup, 1) := by decide +kernel
theorem dX6_init_26 : decode cX6_init 26 = .ok (.invokespecial 9, 3) := by decide +kernel
theorem dX6_init_29 : decode cX6_init 29 = .ok (.aastore, 1) := by decide +kernel
theorem dX6_init_30 : decode cX6_init 30 = .ok (.dup, 1) := by decide +kernel
theorem dX6_init_31 : decode cX6_init 31 = .ok (.iconst 1, 1) := by decide +kernel
theorem dX6_init_32 : decode cX6_init 32 = .ok (.new 7, 3) := by decide +kernel
theorem dX6_init_35 : decode cX6_init 35 = .ok (.dup, 1) := by decide +kernel
theorem dX6_init_36 : decode cX6_init 36 = .ok (.invokespecial 9, 3) := by decide +kernel
theorem dX6_init_39 : decode cX6_init 39 = .ok (.aastore, 1) := by decide +kernel
theorem dX6_init_40 : decode cX6_init 40 = .ok (.putfield 16, 3) := by decide +kernel
theorem dX6_init_43 : decode cX6_init 43 = .ok (.aload_n 0, 1) := by decide +kernel
theorem dX6_init_44 : decode cX6_init 44 = .ok (.iconst 2, 1) := by decide +kernel
theorem dX6_init_45 : decode cX6_init 45 = .ok (.newarray .boolean, 2) := by decide +kernel
theorem dX6_init_47 : decode cX6_init 47 = .ok (.putfield 20, 3) := by decide +kernel
theorem dX6_init_50 : decode cX6_init 50 = .ok (.aload_n 0, 1) := by decide +kernel
theorem dX6_init_51 : decode cX6_init 51 = .ok (.new 24, 3) := by decide +kernel
theorem dX6_init_54 : decode cX6_init 54 = .ok (.dup, 1) := by decide +kernel
theorem dX6_init_55 : decode cX6_init 55 = .ok (.invokespecial 26, 3) := by decide +kernel
theorem dX6_init_58 : decode cX6_init 58 = .ok (.putfield 27, 3) := by decide +kernel
theorem dX6_init_61 : decode cX6_init 61 = .ok (.return_, 1) := by decide +kernel
set_option maxRecDepth 20000 in
theorem ggX6_anew_X5_begin : GoodIn wsX6_anew wsX5_begin := goodIn_r _ [8, 9, 10, 11, 12, 13, 14, 15, 16, 17, 18, 19, 20, 21, 22, 23, 24, 25, 26, 27, 28, 29, 30, 31, 32, 33, 34, 35, 36, 37, 38, 39, 40, 41, 42, 43, 44, 45, 46, 47, 48, 49, 50, 51, 52, 53, 54, 55, 56, 57, 58, 63, 64, 65, 66, 67, 68, 69, 78, 79, 80, 81, 82, 83, 84, 85, 86, 87, 88, 89, 70, 71, 72, 73, 74, 75, 76, 77] (by decide +kernel) (by decide +kernel)
set_option maxRecDepth 20000 in
theorem gX6_anew_X5_begin : GoodIn wsX6_anew (wsV RX6 41 RX5 yX5_begin wsX5_begin) := goodIn_app (goodIn_of _ (by decide +kernel)) ggX6_anew_X5_begin
theorem dX6_anew_0 : decode cX6_anew 0 = .ok (.aload_n 0, 1) := by decide +kernel
theorem dX6_anew_1 : decode cX6_anew 1 = .ok (.getfield 10, 3) := by decide +kernel
theorem dX6_anew_4 : decode cX6_anew 4 = .ok (.getfield 31, 3) := by decide +kernel
theorem dX6_anew_7 : decode cX6_anew 7 = .ok (.getfield 35, 3) := by decide +kernel
theorem dX6_anew_10 : decode cX6_anew 10 = .ok (.istore_n 1, 1) := by decide +kernel
theorem dX6_anew_11 : decode cX6_anew 11 = .ok (.aload_n 0, 1) := by decide +kernel
theorem dX6_anew_12 : decode cX6_anew 12 = .ok (.getfield 10, 3) := by decide +kernel
theorem dX6_anew_15 : decode cX6_anew 15 = .ok (.invokevirtual 41, 3) := by decide +kernel
theorem dX6_anew_18 : decode cX6_anew 18 = .ok (.iload_n 1, 1) := by decide +kernel
theorem dX6_anew_19 : decode cX6_anew 19 = .ok (.ireturn, 1) := by decide +kernel
set_option maxRecDepth 20000 in
theorem ggX6_feed_X4_append : GoodIn wsX6_feed wsX4_append := goodIn_r _ [7, 8, 9, 10, 15, 16, 17, 18, 19, 20, 21, 22, 23, 24, 25] (by decide +kernel) (by decide +kernel)
set_option maxRecDepth 20000 in
theorem gX6_feed_X4_append : GoodIn wsX6_feed (wsV RX6 45 RX4 yX4_append wsX4_append) := goodIn_app (goodIn_of _ (by decide +kernel)) ggX6_feed_X4_append
theorem dX6_feed_0 : decode cX6_feed 0 = .ok (.iload_n 1, 1) := by decide +kernel
theorem dX6_feed_1 : decode cX6_feed 1 = .ok (.ifCond .lt 10, 3) := by decide +kernel
theorem dX6_feed_4 : decode cX6_feed 4 = .ok (.iload_n 1, 1) := by decide +kernel
theorem dX6_feed_5 : decode cX6_feed 5 = .ok (.sipush 255, 3) := by decide +kernel
theorem dX6_feed_8 : decode cX6_feed 8 = .ok (.if_icmp .le 6, 3) := by decide +kernel
theorem dX6_feed_11 : decode cX6_feed 11 = .ok (.ldc 44, 2) := by decide +kernel
theorem dX6_feed_13 : decode cX6_feed 13 = .ok (.ireturn, 1) := by decide +kernel
theorem dX6_feed_14 : decode cX6_feed 14 = .ok (.aload_n 0, 1) := by decide +kernel
theorem dX6_feed_15 : decode cX6_feed 15 = .ok (.getfield 27, 3) := by decide +kernel
theorem dX6_feed_18 : decode cX6_feed 18 = .ok (.iload_n 1, 1) := by decide +kernel
theorem dX6_feed_19 : decode cX6_feed 19 = .ok (.invokevirtual 45, 3) := by decide +kernel
theorem dX6_feed_22 : decode cX6_feed 22 = .ok (.ireturn, 1) := by decide +kernel
set_option maxRecDepth 20000 in
theorem ggX6_run_X4_tell : GoodIn wsX6_run wsX4_tell := goodIn_r _ [9, 10, 11, 12, 13, 14, 15, 16, 17, 18, 19, 20, 8, 21, 22, 23, 24, 25, 26, 27, 28, 29, 30, 31, 32, 33, 34, 35, 36, 37, 38, 39, 40, 41, 42, 43, 44, 45, 46, 47, 48, 49, 50, 51, 52, 53, 54, 55, 56, 57, 58, 59, 60, 61, 62, 63, 64, 65, 66, 67, 68, 69, 70, 71, 72, 73, 74, 75, 76, 77, 78, 79, 80, 81, 82, 83, 84, 85, 86, 87, 88, 89, 90, 91, 92, 93, 94, 95, 96, 97, 98, 99, 100, 101, 102, 103, 104, 105, 106, 107, 108, 109, 110, 111, 112, 113, 114, 115, 116, 117, 118, 119, 120, 121, 122, 123, 124, 125, 126, 127, 128, 129, 130, 131, 132, 133, 134, 135, 136, 137, 138, 139, 140, 141, 142, 143, 144, 145, 146, 147, 148, 149, 150, 151, 152, 153, 154, 155, 156, 157, 158, 159, 160, 161, 162, 163, 164, 165, 166, 167, 168, 169, 170, 171, 172, 173, 174, 175, 176, 177, 178, 179, 180, 181, 182, 183, 184, 185, 186, 187, 188, 189, 190, 191, 192, 193, 194, 195, 196, 197, 198, 199, 200, 201, 202, 203, 204, 205, 206, 207, 208, 209, 210, 230, 231, 232, 233, 234, 235, 236, 237, 238, 239, 240, 215, 216, 217, 218, 219, 220, 221, 222, 223, 224, 225, 226, 227, 228, 229, 241, 242, 243, 244, 245, 246, 247, 248, 249, 250, 251, 252, 253, 254, 255] (by decide +kernel) (by decide +kernel)
set_option maxRecDepth 20000 in
theorem gX6_run_X4_tell : GoodIn wsX6_run (wsV RX6 49 RX4 yX4_tell wsX4_tell) := goodIn_app (goodIn_of _ (by decide +kernel)) ggX6_run_X4_tell
theorem dX6_run_0 : decode cX6_run 0 = .ok (.aload_n 0, 1) := by decide +kernel
theorem dX6_run_1 : decode cX6_run 1 = .ok (.getfield 10, 3) := by decide +kernel
theorem dX6_run_4 : decode cX6_run 4 = .ok (.getfield 31, 3) := by decide +kernel
theorem dX6_run_7 : decode cX6_run 7 = .ok (.getfield 35, 3) := by decide +kernel
theorem dX6_run_10 : decode cX6_run 10 = .ok (.istore_n 1, 1) := by decide +kernel
theorem dX6_run_11 : decode cX6_run 11 = .ok (.aload_n 0, 1) := by decide +kernel
theorem dX6_run_12 : decode cX6_run 12 = .ok (.getfield 27, 3) := by decide +kernel
theorem dX6_run_15 : decode cX6_run 15 = .ok (.aload_n 0, 1) := by decide +kernel
theorem dX6_run_16 : decode cX6_run 16 = .ok (.getfield 10, 3) := by decide +kernel
theorem dX6_run_19 : decode cX6_run 19 = .ok (.invokevirtual 49, 3) := by decide +kernel
theorem dX6_run_22 : decode cX6_run 22 = .ok (.istore_n 2, 1) := by decide +kernel
theorem dX6_run_23 : decode cX6_run 23 = .ok (.iload_n 2, 1) := by decide +kernel
theorem dX6_run_24 : decode cX6_run 24 = .ok (.ifCond .ne 18, 3) := by decide +kernel
theorem dX6_run_27 : decode cX6_run 27 = .ok (.aload_n 0, 1) := by decide +kernel
theorem dX6_run_28 : decode cX6_run 28 = .ok (.getfield 10, 3) := by decide +kernel
theorem dX6_run_31 : decode cX6_run 31 = .ok (.getfield 31, 3) := by decide +kernel
theorem dX6_run_34 : decode cX6_run 34 = .ok (.getfield 35, 3) := by decide +kernel
theorem dX6_run_37 : decode cX6_run 37 = .ok (.iload_n 1, 1) := by decide +kernel
theorem dX6_run_38 : decode cX6_run 38 = .ok (.isub, 1) := by decide +kernel
theorem dX6_run_39 : decode cX6_run 39 = .ok (.goto 7, 3) := by decide +kernel
theorem dX6_run_42 : decode cX6_run 42 = .ok (.bipush (-10), 2) := by decide +kernel
theorem dX6_run_44 : decode cX6_run 44 = .ok (.iload_n 2, 1) := by decide +kernel
theorem dX6_run_45 : decode cX6_run 45 = .ok (.isub, 1) := by decide +kernel
theorem dX6_run_46 : decode cX6_run 46 = .ok (.ireturn, 1) := by decide +kernel
theorem dX6_fault_0 : decode cX6_fault 0 = .ok (.aload_n 0, 1) := by decide +kernel
theorem dX6_fault_1 : decode cX6_fault 1 = .ok (.getfield 27, 3) := by decide +kernel
theorem dX6_fault_4 : decode cX6_fault 4 = .ok (.getfield 53, 3) := by decide +kernel
theorem dX6_fault_7 : decode cX6_fault 7 = .ok (.ireturn, 1) := by decide +kernel
set_option maxRecDepth 20000 in
theorem ggX6_event_X6_refusalOf : GoodIn wsX6_event wsX6_refusalOf := goodIn_r _ [6, 7, 8, 1, 9, 10, 11, 12, 13, 14, 5, 15, 16, 17, 18, 19, 20, 21, 22, 23, 24, 25, 26, 27, 28, 29, 30, 31, 32, 33, 34, 35, 36, 37, 38, 39, 40, 41, 42, 43, 44, 45, 46, 47, 48, 49, 50, 51, 52, 53, 54, 168, 169, 170, 171, 172, 173, 174, 175, 176, 177, 178, 179, 180, 181, 182, 183, 184, 185, 186, 187, 188] (by decide +kernel) (by decide +kernel)
set_option maxRecDepth 20000 in
theorem gX6_event_X6_refusalOf : GoodIn wsX6_event (wsV RX6 56 RX6 yX6_refusalOf wsX6_refusalOf) := goodIn_app (goodIn_of _ (by decide +kernel)) ggX6_event_X6_refusalOf
set_option maxRecDepth 20000 in
theorem ggX6_event_X5_come : GoodIn wsX6_event wsX5_come := goodIn_r _ [58, 59, 60, 47, 61, 62, 38, 39, 40, 41, 42, 63, 64, 65, 25, 66, 67, 27, 68, 28, 69, 70, 71, 52, 72, 73, 74, 75, 76, 77, 50, 51, 53, 54, 78, 79, 80, 81, 33, 34, 35, 36, 82, 83, 84, 85, 86, 87, 88, 89, 90, 91, 92, 93, 94, 95, 96, 97, 98, 99, 100, 101, 102, 103, 104, 105, 106, 107, 108, 109, 110, 111, 112, 113, 114, 115, 116, 117, 118, 119, 120, 121, 122, 123, 124, 125, 126, 127, 128, 129, 130, 131, 132, 133, 134, 135, 136, 137, 138, 139, 140, 141, 142, 143, 144, 145, 146, 147, 148, 149, 150, 151, 152, 153, 154, 155, 156, 157, 158, 159, 160, 161, 162, 163, 164, 165, 166, 48, 49, 167, 172, 173, 174, 175, 176, 177, 178, 179, 180, 181, 182, 183, 184, 185, 186, 187, 188, 189, 190, 191, 192, 193, 194, 195, 196, 197, 198] (by decide +kernel) (by decide +kernel)
set_option maxRecDepth 20000 in
theorem gX6_event_X5_come : GoodIn wsX6_event (wsV RX6 60 RX5 yX5_come wsX5_come) := goodIn_app (goodIn_of _ (by decide +kernel)) ggX6_event_X5_come
theorem dX6_event_0 : decode cX6_event 0 = .ok (.aload_n 0, 1) := by decide +kernel
theorem dX6_event_1 : decode cX6_event 1 = .ok (.iload_n 1, 1) := by decide +kernel
theorem dX6_event_2 : decode cX6_event 2 = .ok (.iload_n 2, 1) := by decide +kernel
theorem dX6_event_3 : decode cX6_event 3 = .ok (.iload_n 3, 1) := by decide +kernel
theorem dX6_event_4 : decode cX6_event 4 = .ok (.invokevirtual 56, 3) := by decide +kernel
theorem dX6_event_7 : decode cX6_event 7 = .ok (.istore 4, 2) := by decide +kernel
theorem dX6_event_9 : decode cX6_event 9 = .ok (.iload 4, 2) := by decide +kernel
theorem dX6_event_11 : decode cX6_event 11 = .ok (.ifCond .ne 16, 3) := by decide +kernel
theorem dX6_event_14 : decode cX6_event 14 = .ok (.aload_n 0, 1) := by decide +kernel
theorem dX6_event_15 : decode cX6_event 15 = .ok (.getfield 10, 3) := by decide +kernel
theorem dX6_event_18 : decode cX6_event 18 = .ok (.iload_n 1, 1) := by decide +kernel
theorem dX6_event_19 : decode cX6_event 19 = .ok (.iload_n 2, 1) := by decide +kernel
theorem dX6_event_20 : decode cX6_event 20 = .ok (.iload_n 3, 1) := by decide +kernel
theorem dX6_event_21 : decode cX6_event 21 = .ok (.invokevirtual 60, 3) := by decide +kernel
theorem dX6_event_24 : decode cX6_event 24 = .ok (.goto 5, 3) := by decide +kernel
theorem dX6_event_27 : decode cX6_event 27 = .ok (.iload 4, 2) := by decide +kernel
theorem dX6_event_29 : decode cX6_event 29 = .ok (.ireturn, 1) := by decide +kernel
set_option maxRecDepth 20000 in
theorem ggX6_jump_X6_isIn : GoodIn wsX6_jump wsX6_isIn := goodIn_r _ [11] (by decide +kernel) (by decide +kernel)
set_option maxRecDepth 20000 in
theorem gX6_jump_X6_isIn : GoodIn wsX6_jump (va_wsS RX6 63 yX6_isIn wsX6_isIn) := goodIn_app (goodIn_of _ (by decide +kernel)) ggX6_jump_X6_isIn
set_option maxRecDepth 20000 in
theorem ggX6_jump_X5_goes : GoodIn wsX6_jump wsX5_goes := goodIn_r _ [16, 17, 32, 33, 34, 35, 36, 37, 38] (by decide +kernel) (by decide +kernel)
set_option maxRecDepth 20000 in
theorem gX6_jump_X5_goes : GoodIn wsX6_jump (wsV RX6 68 RX5 yX5_goes wsX5_goes) := goodIn_app (goodIn_of _ (by decide +kernel)) ggX6_jump_X5_goes
set_option maxRecDepth 20000 in
theorem ggX6_jump_X1_number : GoodIn wsX6_jump wsX1_number := goodIn_r _ [22, 23, 39, 40] (by decide +kernel) (by decide +kernel)
set_option maxRecDepth 20000 in
theorem gX6_jump_X1_number : GoodIn wsX6_jump (wsV RX6 77 RX1 yX1_number wsX1_number) := goodIn_app (goodIn_of _ (by decide +kernel)) ggX6_jump_X1_number
set_option maxRecDepth 20000 in
theorem ggX6_jump_X1_set : GoodIn wsX6_jump wsX1_set := goodIn_r _ [27, 23, 39, 40] (by decide +kernel) (by decide +kernel)
set_option maxRecDepth 20000 in
theorem gX6_jump_X1_set : GoodIn wsX6_jump (wsV RX6 85 RX1 yX1_set wsX1_set) := goodIn_app (goodIn_of _ (by decide +kernel)) ggX6_jump_X1_set
theorem dX6_jump_0 : decode cX6_jump 0 = .ok (.iload_n 1, 1) := by decide +kernel
theorem dX6_jump_1 : decode cX6_jump 1 = .ok (.iconst 4, 1) := by decide +kernel
theorem dX6_jump_2 : decode cX6_jump 2 = .ok (.invokestatic 63, 3) := by decide +kernel
theorem dX6_jump_5 : decode cX6_jump 5 = .ok (.ifCond .ne 6, 3) := by decide +kernel
theorem dX6_jump_8 : decode cX6_jump 8 = .ok (.ldc 67, 2) := by decide +kernel
theorem dX6_jump_10 : decode cX6_jump 10 = .ok (.ireturn, 1) := by decide +kernel
theorem dX6_jump_11 : decode cX6_jump 11 = .ok (.iload_n 2, 1) := by decide +kernel
theorem dX6_jump_12 : decode cX6_jump 12 = .ok (.iconst 1, 1) := by decide +kernel
theorem dX6_jump_13 : decode cX6_jump 13 = .ok (.if_icmp .ge 6, 3) := by decide +kernel
theorem dX6_jump_16 : decode cX6_jump 16 = .ok (.ldc 44, 2) := by decide +kernel
theorem dX6_jump_18 : decode cX6_jump 18 = .ok (.ireturn, 1) := by decide +kernel
theorem dX6_jump_19 : decode cX6_jump 19 = .ok (.aload_n 0, 1) := by decide +kernel
theorem dX6_jump_20 : decode cX6_jump 20 = .ok (.getfield 10, 3) := by decide +kernel
theorem dX6_jump_23 : decode cX6_jump 23 = .ok (.iload_n 1, 1) := by decide +kernel
theorem dX6_jump_24 : decode cX6_jump 24 = .ok (.invokevirtual 68, 3) := by decide +kernel
theorem dX6_jump_27 : decode cX6_jump 27 = .ok (.ifCond .ne 6, 3) := by decide +kernel
theorem dX6_jump_30 : decode cX6_jump 30 = .ok (.ldc 72, 2) := by decide +kernel
theorem dX6_jump_32 : decode cX6_jump 32 = .ok (.ireturn, 1) := by decide +kernel
theorem dX6_jump_33 : decode cX6_jump 33 = .ok (.aload_n 0, 1) := by decide +kernel
theorem dX6_jump_34 : decode cX6_jump 34 = .ok (.getfield 10, 3) := by decide +kernel
theorem dX6_jump_37 : decode cX6_jump 37 = .ok (.getfield 73, 3) := by decide +kernel
theorem dX6_jump_40 : decode cX6_jump 40 = .ok (.iload_n 1, 1) := by decide +kernel
theorem dX6_jump_41 : decode cX6_jump 41 = .ok (.iload_n 1, 1) := by decide +kernel
theorem dX6_jump_42 : decode cX6_jump 42 = .ok (.invokevirtual 77, 3) := by decide +kernel
theorem dX6_jump_45 : decode cX6_jump 45 = .ok (.istore_n 3, 1) := by decide +kernel
theorem dX6_jump_46 : decode cX6_jump 46 = .ok (.iload_n 2, 1) := by decide +kernel
theorem dX6_jump_47 : decode cX6_jump 47 = .ok (.ldc 83, 2) := by decide +kernel
theorem dX6_jump_49 : decode cX6_jump 49 = .ok (.iload_n 3, 1) := by decide +kernel
theorem dX6_jump_50 : decode cX6_jump 50 = .ok (.isub, 1) := by decide +kernel
theorem dX6_jump_51 : decode cX6_jump 51 = .ok (.if_icmp .le 6, 3) := by decide +kernel
theorem dX6_jump_54 : decode cX6_jump 54 = .ok (.ldc 84, 2) := by decide +kernel
theorem dX6_jump_56 : decode cX6_jump 56 = .ok (.ireturn, 1) := by decide +kernel
theorem dX6_jump_57 : decode cX6_jump 57 = .ok (.aload_n 0, 1) := by decide +kernel
theorem dX6_jump_58 : decode cX6_jump 58 = .ok (.getfield 10, 3) := by decide +kernel
theorem dX6_jump_61 : decode cX6_jump 61 = .ok (.getfield 73, 3) := by decide +kernel
theorem dX6_jump_64 : decode cX6_jump 64 = .ok (.iload_n 1, 1) := by decide +kernel
theorem dX6_jump_65 : decode cX6_jump 65 = .ok (.iload_n 1, 1) := by decide +kernel
theorem dX6_jump_66 : decode cX6_jump 66 = .ok (.iload_n 3, 1) := by decide +kernel
theorem dX6_jump_67 : decode cX6_jump 67 = .ok (.iload_n 2, 1) := by decide +kernel
theorem dX6_jump_68 : decode cX6_jump 68 = .ok (.iadd, 1) := by decide +kernel
theorem dX6_jump_69 : decode cX6_jump 69 = .ok (.invokevirtual 85, 3) := by decide +kernel
theorem dX6_jump_72 : decode cX6_jump 72 = .ok (.iload_n 3, 1) := by decide +kernel
theorem dX6_jump_73 : decode cX6_jump 73 = .ok (.iload_n 2, 1) := by decide +kernel
theorem dX6_jump_74 : decode cX6_jump 74 = .ok (.iadd, 1) := by decide +kernel
theorem dX6_jump_75 : decode cX6_jump 75 = .ok (.ireturn, 1) := by decide +kernel
set_option maxRecDepth 20000 in
theorem ggX6_drift_X6_lotBehind : GoodIn wsX6_drift wsX6_lotBehind := goodIn_r _ [11, 12, 13] (by decide +kernel) (by decide +kernel)
set_option maxRecDepth 20000 in
theorem gX6_drift_X6_lotBehind : GoodIn wsX6_drift (va_wsS RX6 90 yX6_lotBehind wsX6_lotBehind) := goodIn_app (goodIn_of _ (by decide +kernel)) ggX6_drift_X6_lotBehind
set_option maxRecDepth 20000 in
theorem ggX6_drift_X6_boundOf : GoodIn wsX6_drift wsX6_boundOf := goodIn_r _ [16] (by decide +kernel) (by decide +kernel)
set_option maxRecDepth 20000 in
theorem gX6_drift_X6_boundOf : GoodIn wsX6_drift (va_wsS RX6 98 yX6_boundOf wsX6_boundOf) := goodIn_app (goodIn_of _ (by decide +kernel)) ggX6_drift_X6_boundOf
set_option maxRecDepth 20000 in
theorem ggX6_drift_X6_refusalOf : GoodIn wsX6_drift wsX6_refusalOf := goodIn_r _ [20, 21, 2, 3, 22, 4, 23, 24, 25, 26, 10, 27, 14, 15, 16, 28, 29, 30, 31, 32, 33, 34, 35, 36, 37, 38, 39, 40, 41, 42, 43, 44, 45, 46, 47, 48, 49, 50, 51, 52, 53, 54, 55, 56, 57, 58, 59, 60, 61, 62, 63, 177, 178, 179, 180, 181, 182, 183, 184, 185, 186, 187, 188, 189, 190, 191, 192, 193, 194, 195, 196, 197] (by decide +kernel) (by decide +kernel)
set_option maxRecDepth 20000 in
theorem gX6_drift_X6_refusalOf : GoodIn wsX6_drift (wsV RX6 56 RX6 yX6_refusalOf wsX6_refusalOf) := goodIn_app (goodIn_of _ (by decide +kernel)) ggX6_drift_X6_refusalOf
set_option maxRecDepth 20000 in
theorem ggX6_drift_X5_come : GoodIn wsX6_drift wsX5_come := goodIn_r _ [67, 68, 69, 56, 70, 71, 47, 48, 49, 50, 51, 72, 73, 74, 34, 75, 76, 36, 77, 37, 78, 79, 80, 61, 81, 82, 83, 84, 85, 86, 59, 60, 62, 63, 87, 88, 89, 90, 42, 43, 44, 45, 91, 92, 93, 94, 95, 96, 97, 98, 99, 100, 101, 102, 103, 104, 105, 106, 107, 108, 109, 110, 111, 112, 113, 114, 115, 116, 117, 118, 119, 120, 121, 122, 123, 124, 125, 126, 127, 128, 129, 130, 131, 132, 133, 134, 135, 136, 137, 138, 139, 140, 141, 142, 143, 144, 145, 146, 147, 148, 149, 150, 151, 152, 153, 154, 155, 156, 157, 158, 159, 160, 161, 162, 163, 164, 165, 166, 167, 168, 169, 170, 171, 172, 173, 174, 175, 57, 58, 176, 181, 182, 183, 184, 185, 186, 187, 188, 189, 190, 191, 192, 193, 194, 195, 196, 197, 198, 199, 200, 201, 202, 203, 204, 205, 206, 207] (by decide +kernel) (by decide +kernel)
set_option maxRecDepth 20000 in
theorem gX6_drift_X5_come : GoodIn wsX6_drift (wsV RX6 60 RX5 yX5_come wsX5_come) := goodIn_app (goodIn_of _ (by decide +kernel)) ggX6_drift_X5_come
theorem dX6_drift_0 : decode cX6_drift 0 = .ok (.iload_n 1, 1) := by decide +kernel
theorem dX6_drift_1 : decode cX6_drift 1 = .ok (.iconst 1, 1) := by decide +kernel
theorem dX6_drift_2 : decode cX6_drift 2 = .ok (.if_icmp .lt 20, 3) := by decide +kernel
theorem dX6_drift_5 : decode cX6_drift 5 = .ok (.iload_n 1, 1) := by decide +kernel
theorem dX6_drift_6 : decode cX6_drift 6 = .ok (.bipush 40, 2) := by decide +kernel
theorem dX6_drift_8 : decode cX6_drift 8 = .ok (.if_icmp .gt 14, 3) := by decide +kernel
theorem dX6_drift_11 : decode cX6_drift 11 = .ok (.iload_n 2, 1) := by decide +kernel
theorem dX6_drift_12 : decode cX6_drift 12 = .ok (.iconst 1, 1) := by decide +kernel
theorem dX6_drift_13 : decode cX6_drift 13 = .ok (.if_icmp .lt 9, 3) := by decide +kernel
theorem dX6_drift_16 : decode cX6_drift 16 = .ok (.iload_n 2, 1) := by decide +kernel
theorem dX6_drift_17 : decode cX6_drift 17 = .ok (.ldc 89, 2) := by decide +kernel
theorem dX6_drift_19 : decode cX6_drift 19 = .ok (.if_icmp .le 6, 3) := by decide +kernel
theorem dX6_drift_22 : decode cX6_drift 22 = .ok (.ldc 44, 2) := by decide +kernel
theorem dX6_drift_24 : decode cX6_drift 24 = .ok (.ireturn, 1) := by decide +kernel
theorem dX6_drift_25 : decode cX6_drift 25 = .ok (.aload_n 0, 1) := by decide +kernel
theorem dX6_drift_26 : decode cX6_drift 26 = .ok (.getfield 10, 3) := by decide +kernel
theorem dX6_drift_29 : decode cX6_drift 29 = .ok (.getfield 31, 3) := by decide +kernel
theorem dX6_drift_32 : decode cX6_drift 32 = .ok (.getfield 35, 3) := by decide +kernel
theorem dX6_drift_35 : decode cX6_drift 35 = .ok (.istore_n 3, 1) := by decide +kernel
theorem dX6_drift_36 : decode cX6_drift 36 = .ok (.iload_n 2, 1) := by decide +kernel
theorem dX6_drift_37 : decode cX6_drift 37 = .ok (.i2l, 1) := by decide +kernel
theorem dX6_drift_38 : decode cX6_drift 38 = .ok (.lstore 4, 2) := by decide +kernel
theorem dX6_drift_40 : decode cX6_drift 40 = .ok (.iconst 0, 1) := by decide +kernel
theorem dX6_drift_41 : decode cX6_drift 41 = .ok (.istore 6, 2) := by decide +kernel
theorem dX6_drift_43 : decode cX6_drift 43 = .ok (.iload 6, 2) := by decide +kernel
theorem dX6_drift_45 : decode cX6_drift 45 = .ok (.iload_n 1, 1) := by decide +kernel
theorem dX6_drift_46 : decode cX6_drift 46 = .ok (.if_icmp .ge 87, 3) := by decide +kernel
theorem dX6_drift_49 : decode cX6_drift 49 = .ok (.lload 4, 2) := by decide +kernel
theorem dX6_drift_51 : decode cX6_drift 51 = .ok (.invokestatic 90, 3) := by decide +kernel
theorem dX6_drift_54 : decode cX6_drift 54 = .ok (.lstore 4, 2) := by decide +kernel
theorem dX6_drift_56 : decode cX6_drift 56 = .ok (.lload 4, 2) := by decide +kernel
theorem dX6_drift_58 : decode cX6_drift 58 = .ok (.ldc2_w 94, 3) := by decide +kernel
theorem dX6_drift_61 : decode cX6_drift 61 = .ok (.lrem, 1) := by decide +kernel
theorem dX6_drift_62 : decode cX6_drift 62 = .ok (.l2i, 1) := by decide +kernel
theorem dX6_drift_63 : decode cX6_drift 63 = .ok (.istore 7, 2) := by decide +kernel
theorem dX6_drift_65 : decode cX6_drift 65 = .ok (.lload 4, 2) := by decide +kernel
theorem dX6_drift_67 : decode cX6_drift 67 = .ok (.invokestatic 90, 3) := by decide +kernel
theorem dX6_drift_70 : decode cX6_drift 70 = .ok (.lstore 4, 2) := by decide +kernel
theorem dX6_drift_72 : decode cX6_drift 72 = .ok (.lload 4, 2) := by decide +kernel
theorem dX6_drift_74 : decode cX6_drift 74 = .ok (.ldc2_w 96, 3) := by decide +kernel
theorem dX6_drift_77 : decode cX6_drift 77 = .ok (.lrem, 1) := by decide +kernel
theorem dX6_drift_78 : decode cX6_drift 78 = .ok (.l2i, 1) := by decide +kernel
theorem dX6_drift_79 : decode cX6_drift 79 = .ok (.istore 8, 2) := by decide +kernel
theorem dX6_drift_81 : decode cX6_drift 81 = .ok (.lload 4, 2) := by decide +kernel
theorem dX6_drift_83 : decode cX6_drift 83 = .ok (.invokestatic 90, 3) := by decide +kernel
theorem dX6_drift_86 : decode cX6_drift 86 = .ok (.lstore 4, 2) := by decide +kernel
theorem dX6_drift_88 : decode cX6_drift 88 = .ok (.lload 4, 2) := by decide +kernel
theorem dX6_drift_90 : decode cX6_drift 90 = .ok (.iload 8, 2) := by decide +kernel
theorem dX6_drift_92 : decode cX6_drift 92 = .ok (.invokestatic 98, 3) := by decide +kernel
theorem dX6_drift_95 : decode cX6_drift 95 = .ok (.i2l, 1) := by decide +kernel
theorem dX6_drift_96 : decode cX6_drift 96 = .ok (.lrem, 1) := by decide +kernel
theorem dX6_drift_97 : decode cX6_drift 97 = .ok (.l2i, 1) := by decide +kernel
theorem dX6_drift_98 : decode cX6_drift 98 = .ok (.istore 9, 2) := by decide +kernel
theorem dX6_drift_100 : decode cX6_drift 100 = .ok (.aload_n 0, 1) := by decide +kernel
theorem dX6_drift_101 : decode cX6_drift 101 = .ok (.iload 7, 2) := by decide +kernel
theorem dX6_drift_103 : decode cX6_drift 103 = .ok (.iload 8, 2) := by decide +kernel
theorem dX6_drift_105 : decode cX6_drift 105 = .ok (.iload 9, 2) := by decide +kernel
theorem dX6_drift_107 : decode cX6_drift 107 = .ok (.invokevirtual 56, 3) := by decide +kernel
theorem dX6_drift_110 : decode cX6_drift 110 = .ok (.ifCond .ne 17, 3) := by decide +kernel
theorem dX6_drift_113 : decode cX6_drift 113 = .ok (.aload_n 0, 1) := by decide +kernel
theorem dX6_drift_114 : decode cX6_drift 114 = .ok (.getfield 10, 3) := by decide +kernel
theorem dX6_drift_117 : decode cX6_drift 117 = .ok (.iload 7, 2) := by decide +kernel
theorem dX6_drift_119 : decode cX6_drift 119 = .ok (.iload 8, 2) := by decide +kernel
theorem dX6_drift_121 : decode cX6_drift 121 = .ok (.iload 9, 2) := by decide +kernel
theorem dX6_drift_123 : decode cX6_drift 123 = .ok (.invokevirtual 60, 3) := by decide +kernel
theorem dX6_drift_126 : decode cX6_drift 126 = .ok (.pop, 1) := by decide +kernel
theorem dX6_drift_127 : decode cX6_drift 127 = .ok (.iinc 6 1, 3) := by decide +kernel
theorem dX6_drift_130 : decode cX6_drift 130 = .ok (.goto (-87), 3) := by decide +kernel
theorem dX6_drift_133 : decode cX6_drift 133 = .ok (.aload_n 0, 1) := by decide +kernel
theorem dX6_drift_134 : decode cX6_drift 134 = .ok (.getfield 10, 3) := by decide +kernel
theorem dX6_drift_137 : decode cX6_drift 137 = .ok (.getfield 31, 3) := by decide +kernel
theorem dX6_drift_140 : decode cX6_drift 140 = .ok (.getfield 35, 3) := by decide +kernel
theorem dX6_drift_143 : decode cX6_drift 143 = .ok (.iload_n 3, 1) := by decide +kernel
theorem dX6_drift_144 : decode cX6_drift 144 = .ok (.isub, 1) := by decide +kernel
theorem dX6_drift_145 : decode cX6_drift 145 = .ok (.ireturn, 1) := by decide +kernel
set_option maxRecDepth 20000 in
theorem ggX6_told_X5_threadsThat : GoodIn wsX6_told wsX5_threadsThat := goodIn_r _ [13, 14, 48, 49, 50, 51, 52, 53, 54] (by decide +kernel) (by decide +kernel)
set_option maxRecDepth 20000 in
theorem gX6_told_X5_threadsThat : GoodIn wsX6_told (wsV RX6 101 RX5 yX5_threadsThat wsX5_threadsThat) := goodIn_app (goodIn_of _ (by decide +kernel)) ggX6_told_X5_threadsThat
set_option maxRecDepth 20000 in
theorem ggX6_told_X5_heldLocks : GoodIn wsX6_told wsX5_heldLocks := goodIn_r _ [18, 19, 20, 21, 12, 22, 23, 48, 49, 50, 51, 52, 53, 54] (by decide +kernel) (by decide +kernel)
set_option maxRecDepth 20000 in
theorem gX6_told_X5_heldLocks : GoodIn wsX6_told (wsV RX6 104 RX5 yX5_heldLocks wsX5_heldLocks) := goodIn_app (goodIn_of _ (by decide +kernel)) ggX6_told_X5_heldLocks
set_option maxRecDepth 20000 in
theorem ggX6_told_X3_cellsWithRace : GoodIn wsX6_told wsX3_cellsWithRace := goodIn_r _ [28, 29, 30, 31, 27, 32, 33, 55, 56, 57, 58, 59, 60, 61, 62] (by decide +kernel) (by decide +kernel)
set_option maxRecDepth 20000 in
theorem gX6_told_X3_cellsWithRace : GoodIn wsX6_told (wsV RX6 108 RX3 yX3_cellsWithRace wsX3_cellsWithRace) := goodIn_app (goodIn_of _ (by decide +kernel)) ggX6_told_X3_cellsWithRace
set_option maxRecDepth 20000 in
theorem ggX6_told_X3_racesOfAll : GoodIn wsX6_told wsX3_racesOfAll := goodIn_r _ [37, 29, 30, 31, 27, 32, 33, 55, 56, 57, 58, 59, 60, 61, 62] (by decide +kernel) (by decide +kernel)
set_option maxRecDepth 20000 in
theorem gX6_told_X3_racesOfAll : GoodIn wsX6_told (wsV RX6 111 RX3 yX3_racesOfAll wsX3_racesOfAll) := goodIn_app (goodIn_of _ (by decide +kernel)) ggX6_told_X3_racesOfAll
set_option maxRecDepth 20000 in
theorem ggX6_told_X5_promotionsOfAll : GoodIn wsX6_told wsX5_promotionsOfAll := goodIn_r _ [41, 42, 43, 48, 49, 50, 51, 52, 53, 54, 77, 78, 79, 80, 81, 82, 83, 84, 85, 86] (by decide +kernel) (by decide +kernel)
set_option maxRecDepth 20000 in
theorem gX6_told_X5_promotionsOfAll : GoodIn wsX6_told (wsV RX6 124 RX5 yX5_promotionsOfAll wsX5_promotionsOfAll) := goodIn_app (goodIn_of _ (by decide +kernel)) ggX6_told_X5_promotionsOfAll
theorem dX6_told_0 : decode cX6_told 0 = .ok (.iload_n 1, 1) := by decide +kernel
theorem dX6_told_1 : decode cX6_told 1 = .ok (.tableswitch 137 0 8 #[51, 62, 71, 80, 88, 99, 110, 118, 129], 51) := by decide +kernel
theorem dX6_told_52 : decode cX6_told 52 = .ok (.aload_n 0, 1) := by decide +kernel
theorem dX6_told_53 : decode cX6_told 53 = .ok (.getfield 10, 3) := by decide +kernel
theorem dX6_told_56 : decode cX6_told 56 = .ok (.getfield 31, 3) := by decide +kernel
theorem dX6_told_59 : decode cX6_told 59 = .ok (.getfield 35, 3) := by decide +kernel
theorem dX6_told_62 : decode cX6_told 62 = .ok (.ireturn, 1) := by decide +kernel
theorem dX6_told_63 : decode cX6_told 63 = .ok (.aload_n 0, 1) := by decide +kernel
theorem dX6_told_64 : decode cX6_told 64 = .ok (.getfield 10, 3) := by decide +kernel
theorem dX6_told_67 : decode cX6_told 67 = .ok (.iconst 1, 1) := by decide +kernel
theorem dX6_told_68 : decode cX6_told 68 = .ok (.invokevirtual 101, 3) := by decide +kernel
theorem dX6_told_71 : decode cX6_told 71 = .ok (.ireturn, 1) := by decide +kernel
theorem dX6_told_72 : decode cX6_told 72 = .ok (.aload_n 0, 1) := by decide +kernel
theorem dX6_told_73 : decode cX6_told 73 = .ok (.getfield 10, 3) := by decide +kernel
theorem dX6_told_76 : decode cX6_told 76 = .ok (.iconst 2, 1) := by decide +kernel
theorem dX6_told_77 : decode cX6_told 77 = .ok (.invokevirtual 101, 3) := by decide +kernel
theorem dX6_told_80 : decode cX6_told 80 = .ok (.ireturn, 1) := by decide +kernel
theorem dX6_told_81 : decode cX6_told 81 = .ok (.aload_n 0, 1) := by decide +kernel
theorem dX6_told_82 : decode cX6_told 82 = .ok (.getfield 10, 3) := by decide +kernel
theorem dX6_told_85 : decode cX6_told 85 = .ok (.invokevirtual 104, 3) := by decide +kernel
theorem dX6_told_88 : decode cX6_told 88 = .ok (.ireturn, 1) := by decide +kernel
theorem dX6_told_89 : decode cX6_told 89 = .ok (.aload_n 0, 1) := by decide +kernel
theorem dX6_told_90 : decode cX6_told 90 = .ok (.getfield 10, 3) := by decide +kernel
theorem dX6_told_93 : decode cX6_told 93 = .ok (.getfield 31, 3) := by decide +kernel
theorem dX6_told_96 : decode cX6_told 96 = .ok (.invokevirtual 108, 3) := by decide +kernel
theorem dX6_told_99 : decode cX6_told 99 = .ok (.ireturn, 1) := by decide +kernel
theorem dX6_told_100 : decode cX6_told 100 = .ok (.aload_n 0, 1) := by decide +kernel
theorem dX6_told_101 : decode cX6_told 101 = .ok (.getfield 10, 3) := by decide +kernel
theorem dX6_told_104 : decode cX6_told 104 = .ok (.getfield 31, 3) := by decide +kernel
theorem dX6_told_107 : decode cX6_told 107 = .ok (.invokevirtual 111, 3) := by decide +kernel
theorem dX6_told_110 : decode cX6_told 110 = .ok (.ireturn, 1) := by decide +kernel
theorem dX6_told_111 : decode cX6_told 111 = .ok (.aload_n 0, 1) := by decide +kernel
theorem dX6_told_112 : decode cX6_told 112 = .ok (.getfield 27, 3) := by decide +kernel
theorem dX6_told_115 : decode cX6_told 115 = .ok (.getfield 114, 3) := by decide +kernel
theorem dX6_told_118 : decode cX6_told 118 = .ok (.ireturn, 1) := by decide +kernel
theorem dX6_told_119 : decode cX6_told 119 = .ok (.aload_n 0, 1) := by decide +kernel
theorem dX6_told_120 : decode cX6_told 120 = .ok (.getfield 27, 3) := by decide +kernel
theorem dX6_told_123 : decode cX6_told 123 = .ok (.getfield 117, 3) := by decide +kernel
theorem dX6_told_126 : decode cX6_told 126 = .ok (.getfield 121, 3) := by decide +kernel
theorem dX6_told_129 : decode cX6_told 129 = .ok (.ireturn, 1) := by decide +kernel
theorem dX6_told_130 : decode cX6_told 130 = .ok (.aload_n 0, 1) := by decide +kernel
theorem dX6_told_131 : decode cX6_told 131 = .ok (.getfield 10, 3) := by decide +kernel
theorem dX6_told_134 : decode cX6_told 134 = .ok (.invokevirtual 124, 3) := by decide +kernel
theorem dX6_told_137 : decode cX6_told 137 = .ok (.ireturn, 1) := by decide +kernel
theorem dX6_told_138 : decode cX6_told 138 = .ok (.ldc 44, 2) := by decide +kernel
theorem dX6_told_140 : decode cX6_told 140 = .ok (.ireturn, 1) := by decide +kernel
set_option maxRecDepth 20000 in
theorem ggX6_clock_X6_isIn : GoodIn wsX6_clock wsX6_isIn := goodIn_r _ [11] (by decide +kernel) (by decide +kernel)
set_option maxRecDepth 20000 in
theorem gX6_clock_X6_isIn : GoodIn wsX6_clock (va_wsS RX6 63 yX6_isIn wsX6_isIn) := goodIn_app (goodIn_of _ (by decide +kernel)) ggX6_clock_X6_isIn
set_option maxRecDepth 20000 in
theorem ggX6_clock_X1_number : GoodIn wsX6_clock wsX1_number := goodIn_r _ [16, 17, 29, 30] (by decide +kernel) (by decide +kernel)
set_option maxRecDepth 20000 in
theorem gX6_clock_X1_number : GoodIn wsX6_clock (wsV RX6 77 RX1 yX1_number wsX1_number) := goodIn_app (goodIn_of _ (by decide +kernel)) ggX6_clock_X1_number
theorem dX6_clock_0 : decode cX6_clock 0 = .ok (.iload_n 3, 1) := by decide +kernel
theorem dX6_clock_1 : decode cX6_clock 1 = .ok (.iconst 4, 1) := by decide +kernel
theorem dX6_clock_2 : decode cX6_clock 2 = .ok (.invokestatic 63, 3) := by decide +kernel
theorem dX6_clock_5 : decode cX6_clock 5 = .ok (.ifCond .ne 6, 3) := by decide +kernel
theorem dX6_clock_8 : decode cX6_clock 8 = .ok (.ldc 67, 2) := by decide +kernel
theorem dX6_clock_10 : decode cX6_clock 10 = .ok (.ireturn, 1) := by decide +kernel
theorem dX6_clock_11 : decode cX6_clock 11 = .ok (.iload_n 1, 1) := by decide +kernel
theorem dX6_clock_12 : decode cX6_clock 12 = .ok (.iconst 3, 1) := by decide +kernel
theorem dX6_clock_13 : decode cX6_clock 13 = .ok (.invokestatic 63, 3) := by decide +kernel
theorem dX6_clock_16 : decode cX6_clock 16 = .ok (.ifCond .ne 6, 3) := by decide +kernel
theorem dX6_clock_19 : decode cX6_clock 19 = .ok (.ldc 44, 2) := by decide +kernel
theorem dX6_clock_21 : decode cX6_clock 21 = .ok (.ireturn, 1) := by decide +kernel
theorem dX6_clock_22 : decode cX6_clock 22 = .ok (.iload_n 1, 1) := by decide +kernel
theorem dX6_clock_23 : decode cX6_clock 23 = .ok (.ifCond .ne 13, 3) := by decide +kernel
theorem dX6_clock_26 : decode cX6_clock 26 = .ok (.aload_n 0, 1) := by decide +kernel
theorem dX6_clock_27 : decode cX6_clock 27 = .ok (.getfield 10, 3) := by decide +kernel
theorem dX6_clock_30 : decode cX6_clock 30 = .ok (.getfield 73, 3) := by decide +kernel
theorem dX6_clock_33 : decode cX6_clock 33 = .ok (.goto 25, 3) := by decide +kernel
theorem dX6_clock_36 : decode cX6_clock 36 = .ok (.iload_n 1, 1) := by decide +kernel
theorem dX6_clock_37 : decode cX6_clock 37 = .ok (.iconst 1, 1) := by decide +kernel
theorem dX6_clock_38 : decode cX6_clock 38 = .ok (.if_icmp .ne 13, 3) := by decide +kernel
theorem dX6_clock_41 : decode cX6_clock 41 = .ok (.aload_n 0, 1) := by decide +kernel
theorem dX6_clock_42 : decode cX6_clock 42 = .ok (.getfield 10, 3) := by decide +kernel
theorem dX6_clock_45 : decode cX6_clock 45 = .ok (.getfield 127, 3) := by decide +kernel
theorem dX6_clock_48 : decode cX6_clock 48 = .ok (.goto 10, 3) := by decide +kernel
theorem dX6_clock_51 : decode cX6_clock 51 = .ok (.aload_n 0, 1) := by decide +kernel
theorem dX6_clock_52 : decode cX6_clock 52 = .ok (.getfield 10, 3) := by decide +kernel
theorem dX6_clock_55 : decode cX6_clock 55 = .ok (.getfield 130, 3) := by decide +kernel
theorem dX6_clock_58 : decode cX6_clock 58 = .ok (.astore 4, 2) := by decide +kernel
theorem dX6_clock_60 : decode cX6_clock 60 = .ok (.iload_n 2, 1) := by decide +kernel
theorem dX6_clock_61 : decode cX6_clock 61 = .ok (.aload 4, 2) := by decide +kernel
theorem dX6_clock_63 : decode cX6_clock 63 = .ok (.getfield 133, 3) := by decide +kernel
theorem dX6_clock_66 : decode cX6_clock 66 = .ok (.invokestatic 63, 3) := by decide +kernel
theorem dX6_clock_69 : decode cX6_clock 69 = .ok (.ifCond .eq 13, 3) := by decide +kernel
theorem dX6_clock_72 : decode cX6_clock 72 = .ok (.aload 4, 2) := by decide +kernel
theorem dX6_clock_74 : decode cX6_clock 74 = .ok (.iload_n 2, 1) := by decide +kernel
theorem dX6_clock_75 : decode cX6_clock 75 = .ok (.iload_n 3, 1) := by decide +kernel
theorem dX6_clock_76 : decode cX6_clock 76 = .ok (.invokevirtual 77, 3) := by decide +kernel
theorem dX6_clock_79 : decode cX6_clock 79 = .ok (.goto 5, 3) := by decide +kernel
theorem dX6_clock_82 : decode cX6_clock 82 = .ok (.ldc 67, 2) := by decide +kernel
theorem dX6_clock_84 : decode cX6_clock 84 = .ok (.ireturn, 1) := by decide +kernel
set_option maxRecDepth 20000 in
theorem ggX6_eventOf_X6_isIn : GoodIn wsX6_eventOf wsX6_isIn := goodIn_r _ [14] (by decide +kernel) (by decide +kernel)
set_option maxRecDepth 20000 in
theorem gX6_eventOf_X6_isIn : GoodIn wsX6_eventOf (va_wsS RX6 63 yX6_isIn wsX6_isIn) := goodIn_app (goodIn_of _ (by decide +kernel)) ggX6_eventOf_X6_isIn
set_option maxRecDepth 20000 in
theorem ggX6_eventOf_X1_number : GoodIn wsX6_eventOf wsX1_number := goodIn_r _ [19, 20, 40, 41] (by decide +kernel) (by decide +kernel)
set_option maxRecDepth 20000 in
theorem gX6_eventOf_X1_number : GoodIn wsX6_eventOf (wsV RX6 77 RX1 yX1_number wsX1_number) := goodIn_app (goodIn_of _ (by decide +kernel)) ggX6_eventOf_X1_number
theorem dX6_eventOf_0 : decode cX6_eventOf 0 = .ok (.aload_n 0, 1) := by decide +kernel
theorem dX6_eventOf_1 : decode cX6_eventOf 1 = .ok (.getfield 10, 3) := by decide +kernel
theorem dX6_eventOf_4 : decode cX6_eventOf 4 = .ok (.getfield 31, 3) := by decide +kernel
theorem dX6_eventOf_7 : decode cX6_eventOf 7 = .ok (.astore_n 3, 1) := by decide +kernel
theorem dX6_eventOf_8 : decode cX6_eventOf 8 = .ok (.iload_n 1, 1) := by decide +kernel
theorem dX6_eventOf_9 : decode cX6_eventOf 9 = .ok (.aload_n 3, 1) := by decide +kernel
theorem dX6_eventOf_10 : decode cX6_eventOf 10 = .ok (.getfield 35, 3) := by decide +kernel
theorem dX6_eventOf_13 : decode cX6_eventOf 13 = .ok (.invokestatic 63, 3) := by decide +kernel
theorem dX6_eventOf_16 : decode cX6_eventOf 16 = .ok (.ifCond .ne 6, 3) := by decide +kernel
theorem dX6_eventOf_19 : decode cX6_eventOf 19 = .ok (.ldc 67, 2) := by decide +kernel
theorem dX6_eventOf_21 : decode cX6_eventOf 21 = .ok (.ireturn, 1) := by decide +kernel
theorem dX6_eventOf_22 : decode cX6_eventOf 22 = .ok (.iload_n 2, 1) := by decide +kernel
theorem dX6_eventOf_23 : decode cX6_eventOf 23 = .ok (.tableswitch 85 0 7 #[45, 52, 59, 66, 66, 66, 66, 78], 45) := by decide +kernel
theorem dX6_eventOf_68 : decode cX6_eventOf 68 = .ok (.aload_n 3, 1) := by decide +kernel
theorem dX6_eventOf_69 : decode cX6_eventOf 69 = .ok (.getfield 136, 3) := by decide +kernel
theorem dX6_eventOf_72 : decode cX6_eventOf 72 = .ok (.iload_n 1, 1) := by decide +kernel
theorem dX6_eventOf_73 : decode cX6_eventOf 73 = .ok (.iaload, 1) := by decide +kernel
theorem dX6_eventOf_74 : decode cX6_eventOf 74 = .ok (.ireturn, 1) := by decide +kernel
theorem dX6_eventOf_75 : decode cX6_eventOf 75 = .ok (.aload_n 3, 1) := by decide +kernel
theorem dX6_eventOf_76 : decode cX6_eventOf 76 = .ok (.getfield 140, 3) := by decide +kernel
theorem dX6_eventOf_79 : decode cX6_eventOf 79 = .ok (.iload_n 1, 1) := by decide +kernel
theorem dX6_eventOf_80 : decode cX6_eventOf 80 = .ok (.iaload, 1) := by decide +kernel
theorem dX6_eventOf_81 : decode cX6_eventOf 81 = .ok (.ireturn, 1) := by decide +kernel
theorem dX6_eventOf_82 : decode cX6_eventOf 82 = .ok (.aload_n 3, 1) := by decide +kernel
theorem dX6_eventOf_83 : decode cX6_eventOf 83 = .ok (.getfield 143, 3) := by decide +kernel
theorem dX6_eventOf_86 : decode cX6_eventOf 86 = .ok (.iload_n 1, 1) := by decide +kernel
theorem dX6_eventOf_87 : decode cX6_eventOf 87 = .ok (.iaload, 1) := by decide +kernel
theorem dX6_eventOf_88 : decode cX6_eventOf 88 = .ok (.ireturn, 1) := by decide +kernel
theorem dX6_eventOf_89 : decode cX6_eventOf 89 = .ok (.aload_n 3, 1) := by decide +kernel
theorem dX6_eventOf_90 : decode cX6_eventOf 90 = .ok (.getfield 146, 3) := by decide +kernel
theorem dX6_eventOf_93 : decode cX6_eventOf 93 = .ok (.iload_n 1, 1) := by decide +kernel
theorem dX6_eventOf_94 : decode cX6_eventOf 94 = .ok (.iload_n 2, 1) := by decide +kernel
theorem dX6_eventOf_95 : decode cX6_eventOf 95 = .ok (.iconst 3, 1) := by decide +kernel
theorem dX6_eventOf_96 : decode cX6_eventOf 96 = .ok (.isub, 1) := by decide +kernel
theorem dX6_eventOf_97 : decode cX6_eventOf 97 = .ok (.invokevirtual 77, 3) := by decide +kernel
theorem dX6_eventOf_100 : decode cX6_eventOf 100 = .ok (.ireturn, 1) := by decide +kernel
theorem dX6_eventOf_101 : decode cX6_eventOf 101 = .ok (.aload_n 3, 1) := by decide +kernel
theorem dX6_eventOf_102 : decode cX6_eventOf 102 = .ok (.getfield 149, 3) := by decide +kernel
theorem dX6_eventOf_105 : decode cX6_eventOf 105 = .ok (.iload_n 1, 1) := by decide +kernel
theorem dX6_eventOf_106 : decode cX6_eventOf 106 = .ok (.iaload, 1) := by decide +kernel
theorem dX6_eventOf_107 : decode cX6_eventOf 107 = .ok (.ireturn, 1) := by decide +kernel
theorem dX6_eventOf_108 : decode cX6_eventOf 108 = .ok (.ldc 44, 2) := by decide +kernel
theorem dX6_eventOf_110 : decode cX6_eventOf 110 = .ok (.ireturn, 1) := by decide +kernel
set_option maxRecDepth 20000 in
theorem ggX6_holder_X6_isIn : GoodIn wsX6_holder wsX6_isIn := goodIn_r _ [7] (by decide +kernel) (by decide +kernel)
set_option maxRecDepth 20000 in
theorem gX6_holder_X6_isIn : GoodIn wsX6_holder (va_wsS RX6 63 yX6_isIn wsX6_isIn) := goodIn_app (goodIn_of _ (by decide +kernel)) ggX6_holder_X6_isIn
theorem dX6_holder_0 : decode cX6_holder 0 = .ok (.iload_n 1, 1) := by decide +kernel
theorem dX6_holder_1 : decode cX6_holder 1 = .ok (.iconst 3, 1) := by decide +kernel
theorem dX6_holder_2 : decode cX6_holder 2 = .ok (.invokestatic 63, 3) := by decide +kernel
theorem dX6_holder_5 : decode cX6_holder 5 = .ok (.ifCond .eq 15, 3) := by decide +kernel
theorem dX6_holder_8 : decode cX6_holder 8 = .ok (.aload_n 0, 1) := by decide +kernel
theorem dX6_holder_9 : decode cX6_holder 9 = .ok (.getfield 10, 3) := by decide +kernel
theorem dX6_holder_12 : decode cX6_holder 12 = .ok (.getfield 152, 3) := by decide +kernel
theorem dX6_holder_15 : decode cX6_holder 15 = .ok (.iload_n 1, 1) := by decide +kernel
theorem dX6_holder_16 : decode cX6_holder 16 = .ok (.iaload, 1) := by decide +kernel
theorem dX6_holder_17 : decode cX6_holder 17 = .ok (.goto 5, 3) := by decide +kernel
theorem dX6_holder_20 : decode cX6_holder 20 = .ok (.ldc 67, 2) := by decide +kernel
theorem dX6_holder_22 : decode cX6_holder 22 = .ok (.ireturn, 1) := by decide +kernel
set_option maxRecDepth 20000 in
theorem ggX6_journal_X6_isIn : GoodIn wsX6_journal wsX6_isIn := goodIn_r _ [10] (by decide +kernel) (by decide +kernel)
set_option maxRecDepth 20000 in
theorem gX6_journal_X6_isIn : GoodIn wsX6_journal (va_wsS RX6 63 yX6_isIn wsX6_isIn) := goodIn_app (goodIn_of _ (by decide +kernel)) ggX6_journal_X6_isIn
theorem dX6_journal_0 : decode cX6_journal 0 = .ok (.iload_n 2, 1) := by decide +kernel
theorem dX6_journal_1 : decode cX6_journal 1 = .ok (.iconst 2, 1) := by decide +kernel
theorem dX6_journal_2 : decode cX6_journal 2 = .ok (.invokestatic 63, 3) := by decide +kernel
theorem dX6_journal_5 : decode cX6_journal 5 = .ok (.ifCond .ne 6, 3) := by decide +kernel
theorem dX6_journal_8 : decode cX6_journal 8 = .ok (.ldc 44, 2) := by decide +kernel
theorem dX6_journal_10 : decode cX6_journal 10 = .ok (.ireturn, 1) := by decide +kernel
theorem dX6_journal_11 : decode cX6_journal 11 = .ok (.aload_n 0, 1) := by decide +kernel
theorem dX6_journal_12 : decode cX6_journal 12 = .ok (.getfield 27, 3) := by decide +kernel
theorem dX6_journal_15 : decode cX6_journal 15 = .ok (.getfield 117, 3) := by decide +kernel
theorem dX6_journal_18 : decode cX6_journal 18 = .ok (.astore_n 3, 1) := by decide +kernel
theorem dX6_journal_19 : decode cX6_journal 19 = .ok (.iload_n 1, 1) := by decide +kernel
theorem dX6_journal_20 : decode cX6_journal 20 = .ok (.aload_n 3, 1) := by decide +kernel
theorem dX6_journal_21 : decode cX6_journal 21 = .ok (.getfield 121, 3) := by decide +kernel
theorem dX6_journal_24 : decode cX6_journal 24 = .ok (.invokestatic 63, 3) := by decide +kernel
theorem dX6_journal_27 : decode cX6_journal 27 = .ok (.ifCond .ne 5, 3) := by decide +kernel
theorem dX6_journal_30 : decode cX6_journal 30 = .ok (.iconst (-1), 1) := by decide +kernel
theorem dX6_journal_31 : decode cX6_journal 31 = .ok (.ireturn, 1) := by decide +kernel
theorem dX6_journal_32 : decode cX6_journal 32 = .ok (.iload_n 2, 1) := by decide +kernel
theorem dX6_journal_33 : decode cX6_journal 33 = .ok (.ifCond .ne 12, 3) := by decide +kernel
theorem dX6_journal_36 : decode cX6_journal 36 = .ok (.aload_n 3, 1) := by decide +kernel
theorem dX6_journal_37 : decode cX6_journal 37 = .ok (.getfield 155, 3) := by decide +kernel
theorem dX6_journal_40 : decode cX6_journal 40 = .ok (.iload_n 1, 1) := by decide +kernel
theorem dX6_journal_41 : decode cX6_journal 41 = .ok (.iaload, 1) := by decide +kernel
theorem dX6_journal_42 : decode cX6_journal 42 = .ok (.goto 9, 3) := by decide +kernel
theorem dX6_journal_45 : decode cX6_journal 45 = .ok (.aload_n 3, 1) := by decide +kernel
theorem dX6_journal_46 : decode cX6_journal 46 = .ok (.getfield 156, 3) := by decide +kernel
theorem dX6_journal_49 : decode cX6_journal 49 = .ok (.iload_n 1, 1) := by decide +kernel
theorem dX6_journal_50 : decode cX6_journal 50 = .ok (.iaload, 1) := by decide +kernel
theorem dX6_journal_51 : decode cX6_journal 51 = .ok (.ireturn, 1) := by decide +kernel
set_option maxRecDepth 20000 in
theorem ggX6_ahead_X6_isIn : GoodIn wsX6_ahead wsX6_isIn := goodIn_r _ [8] (by decide +kernel) (by decide +kernel)
set_option maxRecDepth 20000 in
theorem gX6_ahead_X6_isIn : GoodIn wsX6_ahead (va_wsS RX6 63 yX6_isIn wsX6_isIn) := goodIn_app (goodIn_of _ (by decide +kernel)) ggX6_ahead_X6_isIn
set_option maxRecDepth 20000 in
theorem ggX6_ahead_X3_isAhead : GoodIn wsX6_ahead wsX3_isAhead := goodIn_r _ [13, 14, 15, 16, 17, 18, 19, 20, 21, 33, 34, 35, 36, 37, 38, 39, 40, 41, 42] (by decide +kernel) (by decide +kernel)
set_option maxRecDepth 20000 in
theorem gX6_ahead_X3_isAhead : GoodIn wsX6_ahead (wsV RX6 159 RX3 yX3_isAhead wsX3_isAhead) := goodIn_app (goodIn_of _ (by decide +kernel)) ggX6_ahead_X3_isAhead
theorem dX6_ahead_0 : decode cX6_ahead 0 = .ok (.aload_n 0, 1) := by decide +kernel
theorem dX6_ahead_1 : decode cX6_ahead 1 = .ok (.getfield 10, 3) := by decide +kernel
theorem dX6_ahead_4 : decode cX6_ahead 4 = .ok (.getfield 31, 3) := by decide +kernel
theorem dX6_ahead_7 : decode cX6_ahead 7 = .ok (.astore_n 3, 1) := by decide +kernel
theorem dX6_ahead_8 : decode cX6_ahead 8 = .ok (.iload_n 1, 1) := by decide +kernel
theorem dX6_ahead_9 : decode cX6_ahead 9 = .ok (.aload_n 3, 1) := by decide +kernel
theorem dX6_ahead_10 : decode cX6_ahead 10 = .ok (.getfield 35, 3) := by decide +kernel
theorem dX6_ahead_13 : decode cX6_ahead 13 = .ok (.invokestatic 63, 3) := by decide +kernel
theorem dX6_ahead_16 : decode cX6_ahead 16 = .ok (.ifCond .eq 19, 3) := by decide +kernel
theorem dX6_ahead_19 : decode cX6_ahead 19 = .ok (.iload_n 2, 1) := by decide +kernel
theorem dX6_ahead_20 : decode cX6_ahead 20 = .ok (.aload_n 3, 1) := by decide +kernel
theorem dX6_ahead_21 : decode cX6_ahead 21 = .ok (.getfield 35, 3) := by decide +kernel
theorem dX6_ahead_24 : decode cX6_ahead 24 = .ok (.invokestatic 63, 3) := by decide +kernel
theorem dX6_ahead_27 : decode cX6_ahead 27 = .ok (.ifCond .eq 8, 3) := by decide +kernel
theorem dX6_ahead_30 : decode cX6_ahead 30 = .ok (.iload_n 1, 1) := by decide +kernel
theorem dX6_ahead_31 : decode cX6_ahead 31 = .ok (.iload_n 2, 1) := by decide +kernel
theorem dX6_ahead_32 : decode cX6_ahead 32 = .ok (.if_icmp .ne 6, 3) := by decide +kernel
theorem dX6_ahead_35 : decode cX6_ahead 35 = .ok (.ldc 67, 2) := by decide +kernel
theorem dX6_ahead_37 : decode cX6_ahead 37 = .ok (.ireturn, 1) := by decide +kernel
theorem dX6_ahead_38 : decode cX6_ahead 38 = .ok (.aload_n 3, 1) := by decide +kernel
theorem dX6_ahead_39 : decode cX6_ahead 39 = .ok (.iload_n 1, 1) := by decide +kernel
theorem dX6_ahead_40 : decode cX6_ahead 40 = .ok (.iload_n 2, 1) := by decide +kernel
theorem dX6_ahead_41 : decode cX6_ahead 41 = .ok (.invokevirtual 159, 3) := by decide +kernel
theorem dX6_ahead_44 : decode cX6_ahead 44 = .ok (.ifCond .eq 7, 3) := by decide +kernel
theorem dX6_ahead_47 : decode cX6_ahead 47 = .ok (.iconst 1, 1) := by decide +kernel
theorem dX6_ahead_48 : decode cX6_ahead 48 = .ok (.goto 4, 3) := by decide +kernel
theorem dX6_ahead_51 : decode cX6_ahead 51 = .ok (.iconst 0, 1) := by decide +kernel
theorem dX6_ahead_52 : decode cX6_ahead 52 = .ok (.ireturn, 1) := by decide +kernel
set_option maxRecDepth 20000 in
theorem ggX6_races_X6_isIn : GoodIn wsX6_races wsX6_isIn := goodIn_r _ [9] (by decide +kernel) (by decide +kernel)
set_option maxRecDepth 20000 in
theorem gX6_races_X6_isIn : GoodIn wsX6_races (va_wsS RX6 63 yX6_isIn wsX6_isIn) := goodIn_app (goodIn_of _ (by decide +kernel)) ggX6_races_X6_isIn
set_option maxRecDepth 20000 in
theorem ggX6_races_X3_racesOfCell : GoodIn wsX6_races wsX3_racesOfCell := goodIn_r _ [14, 15, 27, 28, 29, 30, 31, 32, 33, 34] (by decide +kernel) (by decide +kernel)
set_option maxRecDepth 20000 in
theorem gX6_races_X3_racesOfCell : GoodIn wsX6_races (wsV RX6 162 RX3 yX3_racesOfCell wsX3_racesOfCell) := goodIn_app (goodIn_of _ (by decide +kernel)) ggX6_races_X3_racesOfCell
theorem dX6_races_0 : decode cX6_races 0 = .ok (.iload_n 1, 1) := by decide +kernel
theorem dX6_races_1 : decode cX6_races 1 = .ok (.iconst 4, 1) := by decide +kernel
theorem dX6_races_2 : decode cX6_races 2 = .ok (.invokestatic 63, 3) := by decide +kernel
theorem dX6_races_5 : decode cX6_races 5 = .ok (.ifCond .ne 6, 3) := by decide +kernel
theorem dX6_races_8 : decode cX6_races 8 = .ok (.ldc 67, 2) := by decide +kernel
theorem dX6_races_10 : decode cX6_races 10 = .ok (.ireturn, 1) := by decide +kernel
theorem dX6_races_11 : decode cX6_races 11 = .ok (.iload_n 2, 1) := by decide +kernel
theorem dX6_races_12 : decode cX6_races 12 = .ok (.iconst 4, 1) := by decide +kernel
theorem dX6_races_13 : decode cX6_races 13 = .ok (.invokestatic 63, 3) := by decide +kernel
theorem dX6_races_16 : decode cX6_races 16 = .ok (.ifCond .ne 6, 3) := by decide +kernel
theorem dX6_races_19 : decode cX6_races 19 = .ok (.ldc 44, 2) := by decide +kernel
theorem dX6_races_21 : decode cX6_races 21 = .ok (.ireturn, 1) := by decide +kernel
theorem dX6_races_22 : decode cX6_races 22 = .ok (.iload_n 2, 1) := by decide +kernel
theorem dX6_races_23 : decode cX6_races 23 = .ok (.iconst 3, 1) := by decide +kernel
theorem dX6_races_24 : decode cX6_races 24 = .ok (.if_icmp .ne 17, 3) := by decide +kernel
theorem dX6_races_27 : decode cX6_races 27 = .ok (.aload_n 0, 1) := by decide +kernel
theorem dX6_races_28 : decode cX6_races 28 = .ok (.getfield 10, 3) := by decide +kernel
theorem dX6_races_31 : decode cX6_races 31 = .ok (.getfield 31, 3) := by decide +kernel
theorem dX6_races_34 : decode cX6_races 34 = .ok (.iload_n 1, 1) := by decide +kernel
theorem dX6_races_35 : decode cX6_races 35 = .ok (.invokevirtual 162, 3) := by decide +kernel
theorem dX6_races_38 : decode cX6_races 38 = .ok (.goto 19, 3) := by decide +kernel
theorem dX6_races_41 : decode cX6_races 41 = .ok (.aload_n 0, 1) := by decide +kernel
theorem dX6_races_42 : decode cX6_races 42 = .ok (.getfield 10, 3) := by decide +kernel
theorem dX6_races_45 : decode cX6_races 45 = .ok (.getfield 31, 3) := by decide +kernel
theorem dX6_races_48 : decode cX6_races 48 = .ok (.getfield 165, 3) := by decide +kernel
theorem dX6_races_51 : decode cX6_races 51 = .ok (.iload_n 1, 1) := by decide +kernel
theorem dX6_races_52 : decode cX6_races 52 = .ok (.iconst 3, 1) := by decide +kernel
theorem dX6_races_53 : decode cX6_races 53 = .ok (.imul, 1) := by decide +kernel
theorem dX6_races_54 : decode cX6_races 54 = .ok (.iload_n 2, 1) := by decide +kernel
theorem dX6_races_55 : decode cX6_races 55 = .ok (.iadd, 1) := by decide +kernel
theorem dX6_races_56 : decode cX6_races 56 = .ok (.iaload, 1) := by decide +kernel
theorem dX6_races_57 : decode cX6_races 57 = .ok (.ireturn, 1) := by decide +kernel
set_option maxRecDepth 20000 in
theorem ggX6_race_X6_isIn : GoodIn wsX6_race wsX6_isIn := goodIn_r _ [8] (by decide +kernel) (by decide +kernel)
set_option maxRecDepth 20000 in
theorem gX6_race_X6_isIn : GoodIn wsX6_race (va_wsS RX6 63 yX6_isIn wsX6_isIn) := goodIn_app (goodIn_of _ (by decide +kernel)) ggX6_race_X6_isIn
set_option maxRecDepth 20000 in
theorem ggX6_race_X3_partOfRace : GoodIn wsX6_race wsX3_partOfRace := goodIn_r _ [13, 14, 15, 16, 17, 18, 19, 12, 20, 21, 22, 23, 24, 25, 26, 27, 28, 29, 30, 31, 32, 33, 34, 35, 36, 37, 38, 39, 40, 41, 53, 54, 55, 56, 57, 58, 59, 60, 61, 62] (by decide +kernel) (by decide +kernel)
set_option maxRecDepth 20000 in
theorem gX6_race_X3_partOfRace : GoodIn wsX6_race (wsV RX6 168 RX3 yX3_partOfRace wsX3_partOfRace) := goodIn_app (goodIn_of _ (by decide +kernel)) ggX6_race_X3_partOfRace
theorem dX6_race_0 : decode cX6_race 0 = .ok (.iload_n 1, 1) := by decide +kernel
theorem dX6_race_1 : decode cX6_race 1 = .ok (.iconst 4, 1) := by decide +kernel
theorem dX6_race_2 : decode cX6_race 2 = .ok (.invokestatic 63, 3) := by decide +kernel
theorem dX6_race_5 : decode cX6_race 5 = .ok (.ifCond .ne 6, 3) := by decide +kernel
theorem dX6_race_8 : decode cX6_race 8 = .ok (.ldc 67, 2) := by decide +kernel
theorem dX6_race_10 : decode cX6_race 10 = .ok (.ireturn, 1) := by decide +kernel
theorem dX6_race_11 : decode cX6_race 11 = .ok (.iload_n 3, 1) := by decide +kernel
theorem dX6_race_12 : decode cX6_race 12 = .ok (.iconst 3, 1) := by decide +kernel
theorem dX6_race_13 : decode cX6_race 13 = .ok (.invokestatic 63, 3) := by decide +kernel
theorem dX6_race_16 : decode cX6_race 16 = .ok (.ifCond .eq 7, 3) := by decide +kernel
theorem dX6_race_19 : decode cX6_race 19 = .ok (.iload_n 2, 1) := by decide +kernel
theorem dX6_race_20 : decode cX6_race 20 = .ok (.ifCond .ge 6, 3) := by decide +kernel
theorem dX6_race_23 : decode cX6_race 23 = .ok (.ldc 44, 2) := by decide +kernel
theorem dX6_race_25 : decode cX6_race 25 = .ok (.ireturn, 1) := by decide +kernel
theorem dX6_race_26 : decode cX6_race 26 = .ok (.aload_n 0, 1) := by decide +kernel
theorem dX6_race_27 : decode cX6_race 27 = .ok (.getfield 10, 3) := by decide +kernel
theorem dX6_race_30 : decode cX6_race 30 = .ok (.getfield 31, 3) := by decide +kernel
theorem dX6_race_33 : decode cX6_race 33 = .ok (.iload_n 1, 1) := by decide +kernel
theorem dX6_race_34 : decode cX6_race 34 = .ok (.iload_n 2, 1) := by decide +kernel
theorem dX6_race_35 : decode cX6_race 35 = .ok (.iload_n 3, 1) := by decide +kernel
theorem dX6_race_36 : decode cX6_race 36 = .ok (.invokevirtual 168, 3) := by decide +kernel
theorem dX6_race_39 : decode cX6_race 39 = .ok (.ireturn, 1) := by decide +kernel
set_option maxRecDepth 20000 in
theorem ggX6_cell_X6_isIn : GoodIn wsX6_cell wsX6_isIn := goodIn_r _ [16] (by decide +kernel) (by decide +kernel)
set_option maxRecDepth 20000 in
theorem gX6_cell_X6_isIn : GoodIn wsX6_cell (va_wsS RX6 63 yX6_isIn wsX6_isIn) := goodIn_app (goodIn_of _ (by decide +kernel)) ggX6_cell_X6_isIn
theorem dX6_cell_0 : decode cX6_cell 0 = .ok (.iload_n 1, 1) := by decide +kernel
theorem dX6_cell_1 : decode cX6_cell 1 = .ok (.iconst 4, 1) := by decide +kernel
theorem dX6_cell_2 : decode cX6_cell 2 = .ok (.invokestatic 63, 3) := by decide +kernel
theorem dX6_cell_5 : decode cX6_cell 5 = .ok (.ifCond .ne 6, 3) := by decide +kernel
theorem dX6_cell_8 : decode cX6_cell 8 = .ok (.ldc 67, 2) := by decide +kernel
theorem dX6_cell_10 : decode cX6_cell 10 = .ok (.ireturn, 1) := by decide +kernel
theorem dX6_cell_11 : decode cX6_cell 11 = .ok (.aload_n 0, 1) := by decide +kernel
theorem dX6_cell_12 : decode cX6_cell 12 = .ok (.getfield 10, 3) := by decide +kernel
theorem dX6_cell_15 : decode cX6_cell 15 = .ok (.getfield 171, 3) := by decide +kernel
theorem dX6_cell_18 : decode cX6_cell 18 = .ok (.iload_n 1, 1) := by decide +kernel
theorem dX6_cell_19 : decode cX6_cell 19 = .ok (.aaload, 1) := by decide +kernel
theorem dX6_cell_20 : decode cX6_cell 20 = .ok (.astore_n 3, 1) := by decide +kernel
theorem dX6_cell_21 : decode cX6_cell 21 = .ok (.iload_n 2, 1) := by decide +kernel
theorem dX6_cell_22 : decode cX6_cell 22 = .ok (.tableswitch 94 0 7 #[46, 51, 56, 61, 66, 79, 84, 89], 46) := by decide +kernel
theorem dX6_cell_68 : decode cX6_cell 68 = .ok (.aload_n 3, 1) := by decide +kernel
theorem dX6_cell_69 : decode cX6_cell 69 = .ok (.getfield 175, 3) := by decide +kernel
theorem dX6_cell_72 : decode cX6_cell 72 = .ok (.ireturn, 1) := by decide +kernel
theorem dX6_cell_73 : decode cX6_cell 73 = .ok (.aload_n 3, 1) := by decide +kernel
theorem dX6_cell_74 : decode cX6_cell 74 = .ok (.getfield 180, 3) := by decide +kernel
theorem dX6_cell_77 : decode cX6_cell 77 = .ok (.ireturn, 1) := by decide +kernel
theorem dX6_cell_78 : decode cX6_cell 78 = .ok (.aload_n 3, 1) := by decide +kernel
theorem dX6_cell_79 : decode cX6_cell 79 = .ok (.getfield 183, 3) := by decide +kernel
theorem dX6_cell_82 : decode cX6_cell 82 = .ok (.ireturn, 1) := by decide +kernel
theorem dX6_cell_83 : decode cX6_cell 83 = .ok (.aload_n 3, 1) := by decide +kernel
theorem dX6_cell_84 : decode cX6_cell 84 = .ok (.getfield 186, 3) := by decide +kernel
theorem dX6_cell_87 : decode cX6_cell 87 = .ok (.ireturn, 1) := by decide +kernel
theorem dX6_cell_88 : decode cX6_cell 88 = .ok (.aload_n 3, 1) := by decide +kernel
theorem dX6_cell_89 : decode cX6_cell 89 = .ok (.getfield 189, 3) := by decide +kernel
theorem dX6_cell_92 : decode cX6_cell 92 = .ok (.ifCond .eq 7, 3) := by decide +kernel
theorem dX6_cell_95 : decode cX6_cell 95 = .ok (.iconst 1, 1) := by decide +kernel
theorem dX6_cell_96 : decode cX6_cell 96 = .ok (.goto 4, 3) := by decide +kernel
theorem dX6_cell_99 : decode cX6_cell 99 = .ok (.iconst 0, 1) := by decide +kernel
theorem dX6_cell_100 : decode cX6_cell 100 = .ok (.ireturn, 1) := by decide +kernel
theorem dX6_cell_101 : decode cX6_cell 101 = .ok (.aload_n 3, 1) := by decide +kernel
theorem dX6_cell_102 : decode cX6_cell 102 = .ok (.getfield 193, 3) := by decide +kernel
theorem dX6_cell_105 : decode cX6_cell 105 = .ok (.ireturn, 1) := by decide +kernel
theorem dX6_cell_106 : decode cX6_cell 106 = .ok (.aload_n 3, 1) := by decide +kernel
theorem dX6_cell_107 : decode cX6_cell 107 = .ok (.getfield 196, 3) := by decide +kernel
theorem dX6_cell_110 : decode cX6_cell 110 = .ok (.ireturn, 1) := by decide +kernel
theorem dX6_cell_111 : decode cX6_cell 111 = .ok (.aload_n 3, 1) := by decide +kernel
theorem dX6_cell_112 : decode cX6_cell 112 = .ok (.getfield 199, 3) := by decide +kernel
theorem dX6_cell_115 : decode cX6_cell 115 = .ok (.ireturn, 1) := by decide +kernel
theorem dX6_cell_116 : decode cX6_cell 116 = .ok (.ldc 44, 2) := by decide +kernel
theorem dX6_cell_118 : decode cX6_cell 118 = .ok (.ireturn, 1) := by decide +kernel
set_option maxRecDepth 20000 in
theorem ggX6_shared_X6_isIn : GoodIn wsX6_shared wsX6_isIn := goodIn_r _ [8] (by decide +kernel) (by decide +kernel)
set_option maxRecDepth 20000 in
theorem gX6_shared_X6_isIn : GoodIn wsX6_shared (va_wsS RX6 63 yX6_isIn wsX6_isIn) := goodIn_app (goodIn_of _ (by decide +kernel)) ggX6_shared_X6_isIn
theorem dX6_shared_0 : decode cX6_shared 0 = .ok (.iload_n 1, 1) := by decide +kernel
theorem dX6_shared_1 : decode cX6_shared 1 = .ok (.iconst 4, 1) := by decide +kernel
theorem dX6_shared_2 : decode cX6_shared 2 = .ok (.invokestatic 63, 3) := by decide +kernel
theorem dX6_shared_5 : decode cX6_shared 5 = .ok (.ifCond .eq 11, 3) := by decide +kernel
theorem dX6_shared_8 : decode cX6_shared 8 = .ok (.iload_n 2, 1) := by decide +kernel
theorem dX6_shared_9 : decode cX6_shared 9 = .ok (.iconst 4, 1) := by decide +kernel
theorem dX6_shared_10 : decode cX6_shared 10 = .ok (.invokestatic 63, 3) := by decide +kernel
theorem dX6_shared_13 : decode cX6_shared 13 = .ok (.ifCond .ne 6, 3) := by decide +kernel
theorem dX6_shared_16 : decode cX6_shared 16 = .ok (.ldc 67, 2) := by decide +kernel
theorem dX6_shared_18 : decode cX6_shared 18 = .ok (.ireturn, 1) := by decide +kernel
theorem dX6_shared_19 : decode cX6_shared 19 = .ok (.aload_n 0, 1) := by decide +kernel
theorem dX6_shared_20 : decode cX6_shared 20 = .ok (.getfield 10, 3) := by decide +kernel
theorem dX6_shared_23 : decode cX6_shared 23 = .ok (.getfield 171, 3) := by decide +kernel
theorem dX6_shared_26 : decode cX6_shared 26 = .ok (.iload_n 1, 1) := by decide +kernel
theorem dX6_shared_27 : decode cX6_shared 27 = .ok (.aaload, 1) := by decide +kernel
theorem dX6_shared_28 : decode cX6_shared 28 = .ok (.getfield 202, 3) := by decide +kernel
theorem dX6_shared_31 : decode cX6_shared 31 = .ok (.iload_n 2, 1) := by decide +kernel
theorem dX6_shared_32 : decode cX6_shared 32 = .ok (.iaload, 1) := by decide +kernel
theorem dX6_shared_33 : decode cX6_shared 33 = .ok (.ireturn, 1) := by decide +kernel
set_option maxRecDepth 20000 in
theorem ggX6_would_X6_isIn : GoodIn wsX6_would wsX6_isIn := goodIn_r _ [9] (by decide +kernel) (by decide +kernel)
set_option maxRecDepth 20000 in
theorem gX6_would_X6_isIn : GoodIn wsX6_would (va_wsS RX6 63 yX6_isIn wsX6_isIn) := goodIn_app (goodIn_of _ (by decide +kernel)) ggX6_would_X6_isIn
set_option maxRecDepth 20000 in
theorem ggX6_would_X5_goes : GoodIn wsX6_would wsX5_goes := goodIn_r _ [14, 15, 41, 42, 43, 44, 45, 46, 47] (by decide +kernel) (by decide +kernel)
set_option maxRecDepth 20000 in
theorem gX6_would_X5_goes : GoodIn wsX6_would (wsV RX6 68 RX5 yX5_goes wsX5_goes) := goodIn_app (goodIn_of _ (by decide +kernel)) ggX6_would_X5_goes
set_option maxRecDepth 20000 in
theorem ggX6_would_X2_kindOf : GoodIn wsX6_would wsX2_kindOf := goodIn_r _ [20, 21, 22, 23, 24, 25, 26, 27, 28, 29, 30, 31, 19, 32, 33, 34, 35, 36, 48, 49, 50, 51, 52, 53, 54, 55, 56, 57, 58, 59] (by decide +kernel) (by decide +kernel)
set_option maxRecDepth 20000 in
theorem gX6_would_X2_kindOf : GoodIn wsX6_would (wsV RX6 205 RX2 yX2_kindOf wsX2_kindOf) := goodIn_app (goodIn_of _ (by decide +kernel)) ggX6_would_X2_kindOf
theorem dX6_would_0 : decode cX6_would 0 = .ok (.iload_n 1, 1) := by decide +kernel
theorem dX6_would_1 : decode cX6_would 1 = .ok (.iconst 4, 1) := by decide +kernel
theorem dX6_would_2 : decode cX6_would 2 = .ok (.invokestatic 63, 3) := by decide +kernel
theorem dX6_would_5 : decode cX6_would 5 = .ok (.ifCond .eq 11, 3) := by decide +kernel
theorem dX6_would_8 : decode cX6_would 8 = .ok (.iload_n 2, 1) := by decide +kernel
theorem dX6_would_9 : decode cX6_would 9 = .ok (.iconst 4, 1) := by decide +kernel
theorem dX6_would_10 : decode cX6_would 10 = .ok (.invokestatic 63, 3) := by decide +kernel
theorem dX6_would_13 : decode cX6_would 13 = .ok (.ifCond .ne 6, 3) := by decide +kernel
theorem dX6_would_16 : decode cX6_would 16 = .ok (.ldc 67, 2) := by decide +kernel
theorem dX6_would_18 : decode cX6_would 18 = .ok (.ireturn, 1) := by decide +kernel
theorem dX6_would_19 : decode cX6_would 19 = .ok (.aload_n 0, 1) := by decide +kernel
theorem dX6_would_20 : decode cX6_would 20 = .ok (.getfield 10, 3) := by decide +kernel
theorem dX6_would_23 : decode cX6_would 23 = .ok (.iload_n 1, 1) := by decide +kernel
theorem dX6_would_24 : decode cX6_would 24 = .ok (.invokevirtual 68, 3) := by decide +kernel
theorem dX6_would_27 : decode cX6_would 27 = .ok (.ifCond .ne 6, 3) := by decide +kernel
theorem dX6_would_30 : decode cX6_would 30 = .ok (.ldc 72, 2) := by decide +kernel
theorem dX6_would_32 : decode cX6_would 32 = .ok (.ireturn, 1) := by decide +kernel
theorem dX6_would_33 : decode cX6_would 33 = .ok (.aload_n 0, 1) := by decide +kernel
theorem dX6_would_34 : decode cX6_would 34 = .ok (.getfield 10, 3) := by decide +kernel
theorem dX6_would_37 : decode cX6_would 37 = .ok (.getfield 171, 3) := by decide +kernel
theorem dX6_would_40 : decode cX6_would 40 = .ok (.iload_n 2, 1) := by decide +kernel
theorem dX6_would_41 : decode cX6_would 41 = .ok (.aaload, 1) := by decide +kernel
theorem dX6_would_42 : decode cX6_would 42 = .ok (.iload_n 3, 1) := by decide +kernel
theorem dX6_would_43 : decode cX6_would 43 = .ok (.aload_n 0, 1) := by decide +kernel
theorem dX6_would_44 : decode cX6_would 44 = .ok (.getfield 10, 3) := by decide +kernel
theorem dX6_would_47 : decode cX6_would 47 = .ok (.getfield 73, 3) := by decide +kernel
theorem dX6_would_50 : decode cX6_would 50 = .ok (.iload_n 1, 1) := by decide +kernel
theorem dX6_would_51 : decode cX6_would 51 = .ok (.invokevirtual 205, 3) := by decide +kernel
theorem dX6_would_54 : decode cX6_would 54 = .ok (.ireturn, 1) := by decide +kernel
set_option maxRecDepth 20000 in
theorem ggX6_guard_X6_isIn : GoodIn wsX6_guard wsX6_isIn := goodIn_r _ [8] (by decide +kernel) (by decide +kernel)
set_option maxRecDepth 20000 in
theorem gX6_guard_X6_isIn : GoodIn wsX6_guard (va_wsS RX6 63 yX6_isIn wsX6_isIn) := goodIn_app (goodIn_of _ (by decide +kernel)) ggX6_guard_X6_isIn
theorem dX6_guard_0 : decode cX6_guard 0 = .ok (.iload_n 1, 1) := by decide +kernel
theorem dX6_guard_1 : decode cX6_guard 1 = .ok (.iconst 4, 1) := by decide +kernel
theorem dX6_guard_2 : decode cX6_guard 2 = .ok (.invokestatic 63, 3) := by decide +kernel
theorem dX6_guard_5 : decode cX6_guard 5 = .ok (.ifCond .eq 18, 3) := by decide +kernel
theorem dX6_guard_8 : decode cX6_guard 8 = .ok (.aload_n 0, 1) := by decide +kernel
theorem dX6_guard_9 : decode cX6_guard 9 = .ok (.getfield 10, 3) := by decide +kernel
theorem dX6_guard_12 : decode cX6_guard 12 = .ok (.getfield 171, 3) := by decide +kernel
theorem dX6_guard_15 : decode cX6_guard 15 = .ok (.iload_n 1, 1) := by decide +kernel
theorem dX6_guard_16 : decode cX6_guard 16 = .ok (.aaload, 1) := by decide +kernel
theorem dX6_guard_17 : decode cX6_guard 17 = .ok (.getfield 209, 3) := by decide +kernel
theorem dX6_guard_20 : decode cX6_guard 20 = .ok (.goto 5, 3) := by decide +kernel
theorem dX6_guard_23 : decode cX6_guard 23 = .ok (.ldc 67, 2) := by decide +kernel
theorem dX6_guard_25 : decode cX6_guard 25 = .ok (.ireturn, 1) := by decide +kernel
set_option maxRecDepth 20000 in
theorem ggX6_keep_X6_isIn : GoodIn wsX6_keep wsX6_isIn := goodIn_r _ [10] (by decide +kernel) (by decide +kernel)
set_option maxRecDepth 20000 in
theorem gX6_keep_X6_isIn : GoodIn wsX6_keep (va_wsS RX6 63 yX6_isIn wsX6_isIn) := goodIn_app (goodIn_of _ (by decide +kernel)) ggX6_keep_X6_isIn
set_option maxRecDepth 20000 in
theorem ggX6_keep_X5_copy : GoodIn wsX6_keep wsX5_copy := goodIn_r _ [15, 16, 17, 18, 19, 20, 21, 22, 23, 24, 25, 26, 27, 28, 29, 30, 31, 32, 33, 34, 35, 36, 37, 38, 39, 40, 41, 42, 43, 44, 45, 46, 47, 48, 49, 50, 51, 52, 53, 54, 55, 56, 57, 58, 59, 60, 61, 62, 63, 64, 69, 70, 71, 72, 73, 74, 75, 84, 85, 86, 87, 88, 89, 90, 91, 92, 93, 94, 95, 76, 77, 78, 79, 80, 81, 82, 83] (by decide +kernel) (by decide +kernel)
set_option maxRecDepth 20000 in
theorem gX6_keep_X5_copy : GoodIn wsX6_keep (wsV RX6 212 RX5 yX5_copy wsX5_copy) := goodIn_app (goodIn_of _ (by decide +kernel)) ggX6_keep_X5_copy
theorem dX6_keep_0 : decode cX6_keep 0 = .ok (.iload_n 1, 1) := by decide +kernel
theorem dX6_keep_1 : decode cX6_keep 1 = .ok (.iconst 2, 1) := by decide +kernel
theorem dX6_keep_2 : decode cX6_keep 2 = .ok (.invokestatic 63, 3) := by decide +kernel
theorem dX6_keep_5 : decode cX6_keep 5 = .ok (.ifCond .ne 6, 3) := by decide +kernel
theorem dX6_keep_8 : decode cX6_keep 8 = .ok (.ldc 67, 2) := by decide +kernel
theorem dX6_keep_10 : decode cX6_keep 10 = .ok (.ireturn, 1) := by decide +kernel
theorem dX6_keep_11 : decode cX6_keep 11 = .ok (.aload_n 0, 1) := by decide +kernel
theorem dX6_keep_12 : decode cX6_keep 12 = .ok (.getfield 16, 3) := by decide +kernel
theorem dX6_keep_15 : decode cX6_keep 15 = .ok (.iload_n 1, 1) := by decide +kernel
theorem dX6_keep_16 : decode cX6_keep 16 = .ok (.aaload, 1) := by decide +kernel
theorem dX6_keep_17 : decode cX6_keep 17 = .ok (.aload_n 0, 1) := by decide +kernel
theorem dX6_keep_18 : decode cX6_keep 18 = .ok (.getfield 10, 3) := by decide +kernel
theorem dX6_keep_21 : decode cX6_keep 21 = .ok (.invokevirtual 212, 3) := by decide +kernel
theorem dX6_keep_24 : decode cX6_keep 24 = .ok (.aload_n 0, 1) := by decide +kernel
theorem dX6_keep_25 : decode cX6_keep 25 = .ok (.getfield 20, 3) := by decide +kernel
theorem dX6_keep_28 : decode cX6_keep 28 = .ok (.iload_n 1, 1) := by decide +kernel
theorem dX6_keep_29 : decode cX6_keep 29 = .ok (.iconst 1, 1) := by decide +kernel
theorem dX6_keep_30 : decode cX6_keep 30 = .ok (.bastore, 1) := by decide +kernel
theorem dX6_keep_31 : decode cX6_keep 31 = .ok (.aload_n 0, 1) := by decide +kernel
theorem dX6_keep_32 : decode cX6_keep 32 = .ok (.getfield 10, 3) := by decide +kernel
theorem dX6_keep_35 : decode cX6_keep 35 = .ok (.getfield 31, 3) := by decide +kernel
theorem dX6_keep_38 : decode cX6_keep 38 = .ok (.getfield 35, 3) := by decide +kernel
theorem dX6_keep_41 : decode cX6_keep 41 = .ok (.ireturn, 1) := by decide +kernel
set_option maxRecDepth 20000 in
theorem ggX6_goBack_X6_isIn : GoodIn wsX6_goBack wsX6_isIn := goodIn_r _ [11] (by decide +kernel) (by decide +kernel)
set_option maxRecDepth 20000 in
theorem gX6_goBack_X6_isIn : GoodIn wsX6_goBack (va_wsS RX6 63 yX6_isIn wsX6_isIn) := goodIn_app (goodIn_of _ (by decide +kernel)) ggX6_goBack_X6_isIn
set_option maxRecDepth 20000 in
theorem ggX6_goBack_X5_copy : GoodIn wsX6_goBack wsX5_copy := goodIn_r _ [16, 17, 18, 19, 20, 21, 22, 23, 24, 25, 26, 27, 28, 29, 30, 31, 32, 33, 34, 35, 36, 37, 38, 39, 40, 41, 42, 43, 44, 45, 46, 47, 48, 49, 50, 51, 52, 53, 54, 55, 56, 57, 58, 59, 60, 61, 62, 63, 64, 65, 70, 71, 72, 73, 74, 75, 76, 85, 86, 87, 88, 89, 90, 91, 92, 93, 94, 95, 96, 77, 78, 79, 80, 81, 82, 83, 84] (by decide +kernel) (by decide +kernel)
set_option maxRecDepth 20000 in
theorem gX6_goBack_X5_copy : GoodIn wsX6_goBack (wsV RX6 212 RX5 yX5_copy wsX5_copy) := goodIn_app (goodIn_of _ (by decide +kernel)) ggX6_goBack_X5_copy
theorem dX6_goBack_0 : decode cX6_goBack 0 = .ok (.iload_n 1, 1) := by decide +kernel
theorem dX6_goBack_1 : decode cX6_goBack 1 = .ok (.iconst 2, 1) := by decide +kernel
theorem dX6_goBack_2 : decode cX6_goBack 2 = .ok (.invokestatic 63, 3) := by decide +kernel
theorem dX6_goBack_5 : decode cX6_goBack 5 = .ok (.ifCond .ne 6, 3) := by decide +kernel
theorem dX6_goBack_8 : decode cX6_goBack 8 = .ok (.ldc 67, 2) := by decide +kernel
theorem dX6_goBack_10 : decode cX6_goBack 10 = .ok (.ireturn, 1) := by decide +kernel
theorem dX6_goBack_11 : decode cX6_goBack 11 = .ok (.aload_n 0, 1) := by decide +kernel
theorem dX6_goBack_12 : decode cX6_goBack 12 = .ok (.getfield 20, 3) := by decide +kernel
theorem dX6_goBack_15 : decode cX6_goBack 15 = .ok (.iload_n 1, 1) := by decide +kernel
theorem dX6_goBack_16 : decode cX6_goBack 16 = .ok (.baload, 1) := by decide +kernel
theorem dX6_goBack_17 : decode cX6_goBack 17 = .ok (.ifCond .ne 6, 3) := by decide +kernel
theorem dX6_goBack_20 : decode cX6_goBack 20 = .ok (.ldc 72, 2) := by decide +kernel
theorem dX6_goBack_22 : decode cX6_goBack 22 = .ok (.ireturn, 1) := by decide +kernel
theorem dX6_goBack_23 : decode cX6_goBack 23 = .ok (.aload_n 0, 1) := by decide +kernel
theorem dX6_goBack_24 : decode cX6_goBack 24 = .ok (.getfield 10, 3) := by decide +kernel
theorem dX6_goBack_27 : decode cX6_goBack 27 = .ok (.aload_n 0, 1) := by decide +kernel
theorem dX6_goBack_28 : decode cX6_goBack 28 = .ok (.getfield 16, 3) := by decide +kernel
theorem dX6_goBack_31 : decode cX6_goBack 31 = .ok (.iload_n 1, 1) := by decide +kernel
theorem dX6_goBack_32 : decode cX6_goBack 32 = .ok (.aaload, 1) := by decide +kernel
theorem dX6_goBack_33 : decode cX6_goBack 33 = .ok (.invokevirtual 212, 3) := by decide +kernel
theorem dX6_goBack_36 : decode cX6_goBack 36 = .ok (.aload_n 0, 1) := by decide +kernel
theorem dX6_goBack_37 : decode cX6_goBack 37 = .ok (.getfield 10, 3) := by decide +kernel
theorem dX6_goBack_40 : decode cX6_goBack 40 = .ok (.getfield 31, 3) := by decide +kernel
theorem dX6_goBack_43 : decode cX6_goBack 43 = .ok (.getfield 35, 3) := by decide +kernel
theorem dX6_goBack_46 : decode cX6_goBack 46 = .ok (.ireturn, 1) := by decide +kernel
set_option maxRecDepth 20000 in
theorem ggX6_refusalOf_X6_isIn : GoodIn wsX6_refusalOf wsX6_isIn := goodIn_r _ [11] (by decide +kernel) (by decide +kernel)
set_option maxRecDepth 20000 in
theorem gX6_refusalOf_X6_isIn : GoodIn wsX6_refusalOf (va_wsS RX6 63 yX6_isIn wsX6_isIn) := goodIn_app (goodIn_of _ (by decide +kernel)) ggX6_refusalOf_X6_isIn
set_option maxRecDepth 20000 in
theorem ggX6_refusalOf_X6_boundOf : GoodIn wsX6_refusalOf wsX6_boundOf := goodIn_r _ [14] (by decide +kernel) (by decide +kernel)
set_option maxRecDepth 20000 in
theorem gX6_refusalOf_X6_boundOf : GoodIn wsX6_refusalOf (va_wsS RX6 98 yX6_boundOf wsX6_boundOf) := goodIn_app (goodIn_of _ (by decide +kernel)) ggX6_refusalOf_X6_boundOf
set_option maxRecDepth 20000 in
theorem ggX6_refusalOf_X6_isItself : GoodIn wsX6_refusalOf wsX6_isItself := goodIn_r _ [17] (by decide +kernel) (by decide +kernel)
set_option maxRecDepth 20000 in
theorem gX6_refusalOf_X6_isItself : GoodIn wsX6_refusalOf (va_wsS RX6 216 yX6_isItself wsX6_isItself) := goodIn_app (goodIn_of _ (by decide +kernel)) ggX6_refusalOf_X6_isItself
set_option maxRecDepth 20000 in
theorem ggX6_refusalOf_X5_canBe : GoodIn wsX6_refusalOf wsX5_canBe := goodIn_r _ [22, 23, 24, 25, 26, 27, 21, 28, 29, 30, 31, 32, 55, 56, 57, 58, 59, 60, 61] (by decide +kernel) (by decide +kernel)
set_option maxRecDepth 20000 in
theorem gX6_refusalOf_X5_canBe : GoodIn wsX6_refusalOf (wsV RX6 220 RX5 yX5_canBe wsX5_canBe) := goodIn_app (goodIn_of _ (by decide +kernel)) ggX6_refusalOf_X5_canBe
set_option maxRecDepth 20000 in
theorem ggX6_refusalOf_X3_hasRoom : GoodIn wsX6_refusalOf wsX3_hasRoom := goodIn_r _ [37, 38, 62, 63, 64, 65, 66, 67, 68, 69] (by decide +kernel) (by decide +kernel)
set_option maxRecDepth 20000 in
theorem gX6_refusalOf_X3_hasRoom : GoodIn wsX6_refusalOf (wsV RX6 223 RX3 yX3_hasRoom wsX3_hasRoom) := goodIn_app (goodIn_of _ (by decide +kernel)) ggX6_refusalOf_X3_hasRoom
set_option maxRecDepth 20000 in
theorem ggX6_refusalOf_X5_stepIsMuch : GoodIn wsX6_refusalOf wsX5_stepIsMuch := goodIn_r _ [42, 43, 44, 45, 46, 47, 48, 49, 50, 55, 56, 57, 58, 59, 60, 61, 70, 71] (by decide +kernel) (by decide +kernel)
set_option maxRecDepth 20000 in
theorem gX6_refusalOf_X5_stepIsMuch : GoodIn wsX6_refusalOf (wsV RX6 227 RX5 yX5_stepIsMuch wsX5_stepIsMuch) := goodIn_app (goodIn_of _ (by decide +kernel)) ggX6_refusalOf_X5_stepIsMuch
theorem dX6_refusalOf_0 : decode cX6_refusalOf 0 = .ok (.iload_n 1, 1) := by decide +kernel
theorem dX6_refusalOf_1 : decode cX6_refusalOf 1 = .ok (.iconst 4, 1) := by decide +kernel
theorem dX6_refusalOf_2 : decode cX6_refusalOf 2 = .ok (.invokestatic 63, 3) := by decide +kernel
theorem dX6_refusalOf_5 : decode cX6_refusalOf 5 = .ok (.ifCond .ne 6, 3) := by decide +kernel
theorem dX6_refusalOf_8 : decode cX6_refusalOf 8 = .ok (.ldc 67, 2) := by decide +kernel
theorem dX6_refusalOf_10 : decode cX6_refusalOf 10 = .ok (.ireturn, 1) := by decide +kernel
theorem dX6_refusalOf_11 : decode cX6_refusalOf 11 = .ok (.iload_n 2, 1) := by decide +kernel
theorem dX6_refusalOf_12 : decode cX6_refusalOf 12 = .ok (.bipush 8, 2) := by decide +kernel
theorem dX6_refusalOf_14 : decode cX6_refusalOf 14 = .ok (.invokestatic 63, 3) := by decide +kernel
theorem dX6_refusalOf_17 : decode cX6_refusalOf 17 = .ok (.ifCond .ne 6, 3) := by decide +kernel
theorem dX6_refusalOf_20 : decode cX6_refusalOf 20 = .ok (.ldc 44, 2) := by decide +kernel
theorem dX6_refusalOf_22 : decode cX6_refusalOf 22 = .ok (.ireturn, 1) := by decide +kernel
theorem dX6_refusalOf_23 : decode cX6_refusalOf 23 = .ok (.iload_n 3, 1) := by decide +kernel
theorem dX6_refusalOf_24 : decode cX6_refusalOf 24 = .ok (.iload_n 2, 1) := by decide +kernel
theorem dX6_refusalOf_25 : decode cX6_refusalOf 25 = .ok (.invokestatic 98, 3) := by decide +kernel
theorem dX6_refusalOf_28 : decode cX6_refusalOf 28 = .ok (.invokestatic 63, 3) := by decide +kernel
theorem dX6_refusalOf_31 : decode cX6_refusalOf 31 = .ok (.ifCond .eq 12, 3) := by decide +kernel
theorem dX6_refusalOf_34 : decode cX6_refusalOf 34 = .ok (.iload_n 1, 1) := by decide +kernel
theorem dX6_refusalOf_35 : decode cX6_refusalOf 35 = .ok (.iload_n 2, 1) := by decide +kernel
theorem dX6_refusalOf_36 : decode cX6_refusalOf 36 = .ok (.iload_n 3, 1) := by decide +kernel
theorem dX6_refusalOf_37 : decode cX6_refusalOf 37 = .ok (.invokestatic 216, 3) := by decide +kernel
theorem dX6_refusalOf_40 : decode cX6_refusalOf 40 = .ok (.ifCond .eq 6, 3) := by decide +kernel
theorem dX6_refusalOf_43 : decode cX6_refusalOf 43 = .ok (.ldc 67, 2) := by decide +kernel
theorem dX6_refusalOf_45 : decode cX6_refusalOf 45 = .ok (.ireturn, 1) := by decide +kernel
theorem dX6_refusalOf_46 : decode cX6_refusalOf 46 = .ok (.aload_n 0, 1) := by decide +kernel
theorem dX6_refusalOf_47 : decode cX6_refusalOf 47 = .ok (.getfield 10, 3) := by decide +kernel
theorem dX6_refusalOf_50 : decode cX6_refusalOf 50 = .ok (.iload_n 1, 1) := by decide +kernel
theorem dX6_refusalOf_51 : decode cX6_refusalOf 51 = .ok (.iload_n 2, 1) := by decide +kernel
theorem dX6_refusalOf_52 : decode cX6_refusalOf 52 = .ok (.iload_n 3, 1) := by decide +kernel
theorem dX6_refusalOf_53 : decode cX6_refusalOf 53 = .ok (.invokevirtual 220, 3) := by decide +kernel
theorem dX6_refusalOf_56 : decode cX6_refusalOf 56 = .ok (.ifCond .ne 6, 3) := by decide +kernel
theorem dX6_refusalOf_59 : decode cX6_refusalOf 59 = .ok (.ldc 72, 2) := by decide +kernel
theorem dX6_refusalOf_61 : decode cX6_refusalOf 61 = .ok (.ireturn, 1) := by decide +kernel
theorem dX6_refusalOf_62 : decode cX6_refusalOf 62 = .ok (.aload_n 0, 1) := by decide +kernel
theorem dX6_refusalOf_63 : decode cX6_refusalOf 63 = .ok (.getfield 10, 3) := by decide +kernel
theorem dX6_refusalOf_66 : decode cX6_refusalOf 66 = .ok (.getfield 31, 3) := by decide +kernel
theorem dX6_refusalOf_69 : decode cX6_refusalOf 69 = .ok (.iconst 1, 1) := by decide +kernel
theorem dX6_refusalOf_70 : decode cX6_refusalOf 70 = .ok (.invokevirtual 223, 3) := by decide +kernel
theorem dX6_refusalOf_73 : decode cX6_refusalOf 73 = .ok (.ifCond .ne 6, 3) := by decide +kernel
theorem dX6_refusalOf_76 : decode cX6_refusalOf 76 = .ok (.ldc 226, 2) := by decide +kernel
theorem dX6_refusalOf_78 : decode cX6_refusalOf 78 = .ok (.ireturn, 1) := by decide +kernel
theorem dX6_refusalOf_79 : decode cX6_refusalOf 79 = .ok (.aload_n 0, 1) := by decide +kernel
theorem dX6_refusalOf_80 : decode cX6_refusalOf 80 = .ok (.getfield 10, 3) := by decide +kernel
theorem dX6_refusalOf_83 : decode cX6_refusalOf 83 = .ok (.iload_n 1, 1) := by decide +kernel
theorem dX6_refusalOf_84 : decode cX6_refusalOf 84 = .ok (.iload_n 2, 1) := by decide +kernel
theorem dX6_refusalOf_85 : decode cX6_refusalOf 85 = .ok (.invokevirtual 227, 3) := by decide +kernel
theorem dX6_refusalOf_88 : decode cX6_refusalOf 88 = .ok (.ifCond .eq 8, 3) := by decide +kernel
theorem dX6_refusalOf_91 : decode cX6_refusalOf 91 = .ok (.ldc 84, 2) := by decide +kernel
theorem dX6_refusalOf_93 : decode cX6_refusalOf 93 = .ok (.goto 4, 3) := by decide +kernel
theorem dX6_refusalOf_96 : decode cX6_refusalOf 96 = .ok (.iconst 0, 1) := by decide +kernel
theorem dX6_refusalOf_97 : decode cX6_refusalOf 97 = .ok (.ireturn, 1) := by decide +kernel
theorem dX6_isIn_0 : decode cX6_isIn 0 = .ok (.iload_n 0, 1) := by decide +kernel
theorem dX6_isIn_1 : decode cX6_isIn 1 = .ok (.ifCond .lt 12, 3) := by decide +kernel
theorem dX6_isIn_4 : decode cX6_isIn 4 = .ok (.iload_n 0, 1) := by decide +kernel
theorem dX6_isIn_5 : decode cX6_isIn 5 = .ok (.iload_n 1, 1) := by decide +kernel
theorem dX6_isIn_6 : decode cX6_isIn 6 = .ok (.if_icmp .ge 7, 3) := by decide +kernel
theorem dX6_isIn_9 : decode cX6_isIn 9 = .ok (.iconst 1, 1) := by decide +kernel
theorem dX6_isIn_10 : decode cX6_isIn 10 = .ok (.goto 4, 3) := by decide +kernel
theorem dX6_isIn_13 : decode cX6_isIn 13 = .ok (.iconst 0, 1) := by decide +kernel
theorem dX6_isIn_14 : decode cX6_isIn 14 = .ok (.ireturn, 1) := by decide +kernel
theorem dX6_isItself_0 : decode cX6_isItself 0 = .ok (.iload_n 1, 1) := by decide +kernel
theorem dX6_isItself_1 : decode cX6_isItself 1 = .ok (.bipush 6, 2) := by decide +kernel
theorem dX6_isItself_3 : decode cX6_isItself 3 = .ok (.if_icmp .eq 9, 3) := by decide +kernel
theorem dX6_isItself_6 : decode cX6_isItself 6 = .ok (.iload_n 1, 1) := by decide +kernel
theorem dX6_isItself_7 : decode cX6_isItself 7 = .ok (.bipush 7, 2) := by decide +kernel
theorem dX6_isItself_9 : decode cX6_isItself 9 = .ok (.if_icmp .ne 12, 3) := by decide +kernel
theorem dX6_isItself_12 : decode cX6_isItself 12 = .ok (.iload_n 2, 1) := by decide +kernel
theorem dX6_isItself_13 : decode cX6_isItself 13 = .ok (.iload_n 0, 1) := by decide +kernel
theorem dX6_isItself_14 : decode cX6_isItself 14 = .ok (.if_icmp .ne 7, 3) := by decide +kernel
theorem dX6_isItself_17 : decode cX6_isItself 17 = .ok (.iconst 1, 1) := by decide +kernel
theorem dX6_isItself_18 : decode cX6_isItself 18 = .ok (.goto 4, 3) := by decide +kernel
theorem dX6_isItself_21 : decode cX6_isItself 21 = .ok (.iconst 0, 1) := by decide +kernel
theorem dX6_isItself_22 : decode cX6_isItself 22 = .ok (.ireturn, 1) := by decide +kernel
theorem dX6_boundOf_0 : decode cX6_boundOf 0 = .ok (.iload_n 0, 1) := by decide +kernel
theorem dX6_boundOf_1 : decode cX6_boundOf 1 = .ok (.tableswitch 45 0 5 #[39, 39, 41, 41, 43, 43], 39) := by decide +kernel
theorem dX6_boundOf_40 : decode cX6_boundOf 40 = .ok (.iconst 4, 1) := by decide +kernel
theorem dX6_boundOf_41 : decode cX6_boundOf 41 = .ok (.ireturn, 1) := by decide +kernel
theorem dX6_boundOf_42 : decode cX6_boundOf 42 = .ok (.iconst 3, 1) := by decide +kernel
theorem dX6_boundOf_43 : decode cX6_boundOf 43 = .ok (.ireturn, 1) := by decide +kernel
theorem dX6_boundOf_44 : decode cX6_boundOf 44 = .ok (.iconst 2, 1) := by decide +kernel
theorem dX6_boundOf_45 : decode cX6_boundOf 45 = .ok (.ireturn, 1) := by decide +kernel
theorem dX6_boundOf_46 : decode cX6_boundOf 46 = .ok (.iconst 4, 1) := by decide +kernel
theorem dX6_boundOf_47 : decode cX6_boundOf 47 = .ok (.ireturn, 1) := by decide +kernel
theorem dX6_lotBehind_0 : decode cX6_lotBehind 0 = .ok (.lload_n 0, 1) := by decide +kernel
theorem dX6_lotBehind_1 : decode cX6_lotBehind 1 = .ok (.ldc2_w 230, 3) := by decide +kernel
theorem dX6_lotBehind_4 : decode cX6_lotBehind 4 = .ok (.lmul, 1) := by decide +kernel
theorem dX6_lotBehind_5 : decode cX6_lotBehind 5 = .ok (.ldc2_w 232, 3) := by decide +kernel
theorem dX6_lotBehind_8 : decode cX6_lotBehind 8 = .ok (.lrem, 1) := by decide +kernel
theorem dX6_lotBehind_9 : decode cX6_lotBehind 9 = .ok (.lreturn, 1) := by decide +kernel
