set_option maxRecDepth 20000 in
theorem ggX4_init_X0_init : GoodIn wsX4_init wsX0_init := goodIn_r _ [14, 15, 2, 3, 9, 16, 17, 29, 30, 31] (by decide +kernel) (by decide +kernel)
set_option maxRecDepth 20000 in
theorem gX4_init_X0_init_n17 : GoodIn wsX4_init (wsX0_init) := ggX4_init_X0_init
theorem dX4_init_0 : decode cX4_init 0 = .ok (.aload_n 0, 1) := by decide +kernel
theorem dX4_init_1 : decode cX4_init 1 = .ok (.invokespecial 3, 3) := by decide +kernel
theorem dX4_init_4 : decode cX4_init 4 = .ok (.aload_n 0, 1) := by decide +kernel
theorem dX4_init_5 : decode cX4_init 5 = .ok (.iconst (-1), 1) := by decide +kernel
theorem dX4_init_6 : decode cX4_init 6 = .ok (.putfield 9, 3) := by decide +kernel
theorem dX4_init_9 : decode cX4_init 9 = .ok (.aload_n 0, 1) := by decide +kernel
theorem dX4_init_10 : decode cX4_init 10 = .ok (.new 15, 3) := by decide +kernel
theorem dX4_init_13 : decode cX4_init 13 = .ok (.dup, 1) := by decide +kernel
theorem dX4_init_14 : decode cX4_init 14 = .ok (.invokespecial 17, 3) := by decide +kernel
theorem dX4_init_17 : decode cX4_init 17 = .ok (.putfield 18, 3) := by decide +kernel
theorem dX4_init_20 : decode cX4_init 20 = .ok (.aload_n 0, 1) := by decide +kernel
theorem dX4_init_21 : decode cX4_init 21 = .ok (.sipush 240, 3) := by decide +kernel
theorem dX4_init_24 : decode cX4_init 24 = .ok (.newarray .int, 2) := by decide +kernel
theorem dX4_init_26 : decode cX4_init 26 = .ok (.putfield 22, 3) := by decide +kernel
theorem dX4_init_29 : decode cX4_init 29 = .ok (.aload_n 0, 1) := by decide +kernel
theorem dX4_init_30 : decode cX4_init 30 = .ok (.sipush 240, 3) := by decide +kernel
theorem dX4_init_33 : decode cX4_init 33 = .ok (.newarray .int, 2) := by decide +kernel
theorem dX4_init_35 : decode cX4_init 35 = .ok (.putfield 26, 3) := by decide +kernel
theorem dX4_init_38 : decode cX4_init 38 = .ok (.aload_n 0, 1) := by decide +kernel
theorem dX4_init_39 : decode cX4_init 39 = .ok (.sipush 240, 3) := by decide +kernel
theorem dX4_init_42 : decode cX4_init 42 = .ok (.newarray .int, 2) := by decide +kernel
theorem dX4_init_44 : decode cX4_init 44 = .ok (.putfield 29, 3) := by decide +kernel
theorem dX4_init_47 : decode cX4_init 47 = .ok (.return_, 1) := by decide +kernel
theorem dX4_append_0 : decode cX4_append 0 = .ok (.aload_n 0, 1) := by decide +kernel
theorem dX4_append_1 : decode cX4_append 1 = .ok (.getfield 32, 3) := by decide +kernel
theorem dX4_append_4 : decode cX4_append 4 = .ok (.sipush 240, 3) := by decide +kernel
theorem dX4_append_7 : decode cX4_append 7 = .ok (.if_icmp .lt 6, 3) := by decide +kernel
theorem dX4_append_10 : decode cX4_append 10 = .ok (.ldc 35, 2) := by decide +kernel
theorem dX4_append_12 : decode cX4_append 12 = .ok (.ireturn, 1) := by decide +kernel
theorem dX4_append_13 : decode cX4_append 13 = .ok (.aload_n 0, 1) := by decide +kernel
theorem dX4_append_14 : decode cX4_append 14 = .ok (.getfield 22, 3) := by decide +kernel
theorem dX4_append_17 : decode cX4_append 17 = .ok (.aload_n 0, 1) := by decide +kernel
theorem dX4_append_18 : decode cX4_append 18 = .ok (.getfield 32, 3) := by decide +kernel
theorem dX4_append_21 : decode cX4_append 21 = .ok (.iload_n 1, 1) := by decide +kernel
theorem dX4_append_22 : decode cX4_append 22 = .ok (.iastore, 1) := by decide +kernel
theorem dX4_append_23 : decode cX4_append 23 = .ok (.aload_n 0, 1) := by decide +kernel
theorem dX4_append_24 : decode cX4_append 24 = .ok (.dup, 1) := by decide +kernel
theorem dX4_append_25 : decode cX4_append 25 = .ok (.getfield 32, 3) := by decide +kernel
theorem dX4_append_28 : decode cX4_append 28 = .ok (.iconst 1, 1) := by decide +kernel
theorem dX4_append_29 : decode cX4_append 29 = .ok (.iadd, 1) := by decide +kernel
theorem dX4_append_30 : decode cX4_append 30 = .ok (.putfield 32, 3) := by decide +kernel
theorem dX4_append_33 : decode cX4_append 33 = .ok (.aload_n 0, 1) := by decide +kernel
theorem dX4_append_34 : decode cX4_append 34 = .ok (.getfield 32, 3) := by decide +kernel
theorem dX4_append_37 : decode cX4_append 37 = .ok (.ireturn, 1) := by decide +kernel
set_option maxRecDepth 20000 in
theorem ggX4_tell_X4_faultOfFigure : GoodIn wsX4_tell wsX4_faultOfFigure := goodIn_r _ [13, 7, 14, 15, 16, 203, 204, 205, 206, 207, 208, 209, 210, 211, 212, 213] (by decide +kernel) (by decide +kernel)
set_option maxRecDepth 20000 in
theorem gX4_tell_X4_faultOfFigure : GoodIn wsX4_tell (wsV RX4 48 RX4 yX4_faultOfFigure wsX4_faultOfFigure) := goodIn_app (goodIn_of _ (by decide +kernel)) ggX4_tell_X4_faultOfFigure
set_option maxRecDepth 20000 in
theorem ggX4_tell_X4_tellThread : GoodIn wsX4_tell wsX4_tellThread := goodIn_r _ [20, 2, 1, 21, 22, 23, 24, 25, 26, 27, 28, 29, 12, 30, 4, 31, 32, 203, 204, 205, 206, 207, 208, 209, 210, 211, 212, 213, 214, 215, 216, 217, 218, 219, 220] (by decide +kernel) (by decide +kernel)
set_option maxRecDepth 20000 in
theorem gX4_tell_X4_tellThread : GoodIn wsX4_tell (wsV RX4 55 RX4 yX4_tellThread wsX4_tellThread) := goodIn_app (goodIn_of _ (by decide +kernel)) ggX4_tell_X4_tellThread
set_option maxRecDepth 20000 in
theorem ggX4_tell_X4_tellEvent : GoodIn wsX4_tell wsX4_tellEvent := goodIn_r _ [36, 7, 37, 3, 2, 1, 38, 39, 40, 41, 42, 43, 44, 45, 46, 47, 24, 48, 49, 26, 50, 22, 23, 25, 51, 52, 53, 54, 55, 56, 57, 58, 59, 60, 61, 62, 63, 64, 65, 66, 67, 68, 69, 70, 71, 72, 73, 74, 75, 76, 77, 78, 79, 80, 81, 82, 83, 84, 85, 86, 87, 88, 89, 90, 91, 92, 93, 94, 95, 96, 97, 98, 99, 100, 101, 102, 103, 104, 105, 106, 107, 108, 109, 110, 111, 112, 113, 114, 115, 116, 117, 118, 119, 120, 121, 122, 123, 124, 125, 126, 127, 128, 129, 130, 131, 132, 133, 134, 135, 136, 137, 138, 139, 140, 141, 142, 143, 144, 145, 146, 147, 148, 149, 150, 151, 152, 153, 154, 155, 156, 157, 158, 159, 160, 161, 162, 163, 164, 165, 166, 167, 168, 169, 170, 171, 172, 173, 174, 175, 176, 177, 178, 179, 27, 28, 29, 12, 30, 4, 31, 32, 180, 181, 182, 183, 184, 185, 186, 187, 188, 189, 190, 191, 203, 204, 205, 206, 207, 208, 209, 210, 211, 212, 213, 214, 215, 216, 217, 218, 219, 220, 221, 222, 223, 224, 225, 226, 227, 228, 229, 230, 231, 232, 233, 234, 235, 236, 237, 238, 239, 240, 241, 242, 243] (by decide +kernel) (by decide +kernel)
set_option maxRecDepth 20000 in
theorem gX4_tell_X4_tellEvent : GoodIn wsX4_tell (wsV RX4 59 RX4 yX4_tellEvent wsX4_tellEvent) := goodIn_app (goodIn_of _ (by decide +kernel)) ggX4_tell_X4_tellEvent
set_option maxRecDepth 20000 in
theorem ggX4_tell_X4_shutLast : GoodIn wsX4_tell wsX4_shutLast := goodIn_r _ [195, 4, 32, 2, 31, 3, 38, 67, 68, 69, 24, 70, 71, 72, 59, 73, 74, 40, 41, 42, 43, 44, 75, 76, 77, 78, 79, 49, 80, 26, 81, 82, 83, 64, 84, 85, 86, 87, 88, 89, 62, 63, 65, 66, 90, 91, 92, 93, 51, 52, 53, 54, 94, 95, 96, 97, 98, 99, 100, 101, 102, 103, 104, 105, 106, 107, 108, 109, 110, 111, 112, 113, 114, 115, 116, 117, 118, 119, 120, 121, 122, 123, 124, 125, 126, 127, 128, 129, 130, 131, 132, 133, 134, 135, 136, 137, 138, 139, 140, 141, 142, 143, 144, 145, 146, 147, 148, 149, 150, 151, 152, 153, 154, 155, 156, 157, 158, 159, 160, 161, 162, 163, 164, 165, 166, 167, 168, 169, 170, 171, 172, 173, 174, 175, 176, 177, 178, 60, 61, 179, 180, 181, 182, 183, 184, 185, 186, 187, 188, 189, 190, 191, 203, 204, 205, 206, 207, 208, 209, 210, 211, 212, 213, 214, 215, 216, 217, 218, 219, 220, 221, 222, 223, 224, 225, 226, 227, 228, 229, 230, 231, 232, 233, 234, 235, 236, 237, 238, 239, 240, 241, 242, 243] (by decide +kernel) (by decide +kernel)
set_option maxRecDepth 20000 in
theorem gX4_tell_X4_shutLast : GoodIn wsX4_tell (wsV RX4 62 RX4 yX4_shutLast wsX4_shutLast) := goodIn_app (goodIn_of _ (by decide +kernel)) ggX4_tell_X4_shutLast
set_option maxRecDepth 20000 in
theorem ggX4_tell_X4_tellSign : GoodIn wsX4_tell wsX4_tellSign := goodIn_r _ [199, 1, 7, 200, 201, 12, 202, 203, 204, 205, 206, 207, 208, 209, 210, 211, 212, 213] (by decide +kernel) (by decide +kernel)
set_option maxRecDepth 20000 in
theorem gX4_tell_X4_tellSign : GoodIn wsX4_tell (wsV RX4 66 RX4 yX4_tellSign wsX4_tellSign) := goodIn_app (goodIn_of _ (by decide +kernel)) ggX4_tell_X4_tellSign
theorem dX4_tell_0 : decode cX4_tell 0 = .ok (.aload_n 0, 1) := by decide +kernel
theorem dX4_tell_1 : decode cX4_tell 1 = .ok (.iconst 0, 1) := by decide +kernel
theorem dX4_tell_2 : decode cX4_tell 2 = .ok (.putfield 36, 3) := by decide +kernel
theorem dX4_tell_5 : decode cX4_tell 5 = .ok (.aload_n 0, 1) := by decide +kernel
theorem dX4_tell_6 : decode cX4_tell 6 = .ok (.iconst 0, 1) := by decide +kernel
theorem dX4_tell_7 : decode cX4_tell 7 = .ok (.putfield 39, 3) := by decide +kernel
theorem dX4_tell_10 : decode cX4_tell 10 = .ok (.aload_n 0, 1) := by decide +kernel
theorem dX4_tell_11 : decode cX4_tell 11 = .ok (.iconst 0, 1) := by decide +kernel
theorem dX4_tell_12 : decode cX4_tell 12 = .ok (.putfield 42, 3) := by decide +kernel
theorem dX4_tell_15 : decode cX4_tell 15 = .ok (.aload_n 0, 1) := by decide +kernel
theorem dX4_tell_16 : decode cX4_tell 16 = .ok (.iconst 0, 1) := by decide +kernel
theorem dX4_tell_17 : decode cX4_tell 17 = .ok (.putfield 45, 3) := by decide +kernel
theorem dX4_tell_20 : decode cX4_tell 20 = .ok (.iconst 0, 1) := by decide +kernel
theorem dX4_tell_21 : decode cX4_tell 21 = .ok (.istore_n 2, 1) := by decide +kernel
theorem dX4_tell_22 : decode cX4_tell 22 = .ok (.iconst 0, 1) := by decide +kernel
theorem dX4_tell_23 : decode cX4_tell 23 = .ok (.istore_n 3, 1) := by decide +kernel
theorem dX4_tell_24 : decode cX4_tell 24 = .ok (.iload_n 3, 1) := by decide +kernel
theorem dX4_tell_25 : decode cX4_tell 25 = .ok (.aload_n 0, 1) := by decide +kernel
theorem dX4_tell_26 : decode cX4_tell 26 = .ok (.getfield 32, 3) := by decide +kernel
theorem dX4_tell_29 : decode cX4_tell 29 = .ok (.if_icmp .ge 122, 3) := by decide +kernel
theorem dX4_tell_32 : decode cX4_tell 32 = .ok (.iload_n 2, 1) := by decide +kernel
theorem dX4_tell_33 : decode cX4_tell 33 = .ok (.ifCond .ne 118, 3) := by decide +kernel
theorem dX4_tell_36 : decode cX4_tell 36 = .ok (.aload_n 0, 1) := by decide +kernel
theorem dX4_tell_37 : decode cX4_tell 37 = .ok (.getfield 22, 3) := by decide +kernel
theorem dX4_tell_40 : decode cX4_tell 40 = .ok (.iload_n 3, 1) := by decide +kernel
theorem dX4_tell_41 : decode cX4_tell 41 = .ok (.iaload, 1) := by decide +kernel
theorem dX4_tell_42 : decode cX4_tell 42 = .ok (.istore 4, 2) := by decide +kernel
theorem dX4_tell_44 : decode cX4_tell 44 = .ok (.iinc 3 1, 3) := by decide +kernel
theorem dX4_tell_47 : decode cX4_tell 47 = .ok (.iload 4, 2) := by decide +kernel
theorem dX4_tell_49 : decode cX4_tell 49 = .ok (.bipush 32, 2) := by decide +kernel
theorem dX4_tell_51 : decode cX4_tell 51 = .ok (.if_icmp .ne 6, 3) := by decide +kernel
theorem dX4_tell_54 : decode cX4_tell 54 = .ok (.goto (-30), 3) := by decide +kernel
theorem dX4_tell_57 : decode cX4_tell 57 = .ok (.aload_n 0, 1) := by decide +kernel
theorem dX4_tell_58 : decode cX4_tell 58 = .ok (.getfield 36, 3) := by decide +kernel
theorem dX4_tell_61 : decode cX4_tell 61 = .ok (.iconst 1, 1) := by decide +kernel
theorem dX4_tell_62 : decode cX4_tell 62 = .ok (.if_icmp .ne 50, 3) := by decide +kernel
theorem dX4_tell_65 : decode cX4_tell 65 = .ok (.aload_n 0, 1) := by decide +kernel
theorem dX4_tell_66 : decode cX4_tell 66 = .ok (.iload 4, 2) := by decide +kernel
theorem dX4_tell_68 : decode cX4_tell 68 = .ok (.invokevirtual 48, 3) := by decide +kernel
theorem dX4_tell_71 : decode cX4_tell 71 = .ok (.istore_n 2, 1) := by decide +kernel
theorem dX4_tell_72 : decode cX4_tell 72 = .ok (.iload_n 2, 1) := by decide +kernel
theorem dX4_tell_73 : decode cX4_tell 73 = .ok (.ifCond .ne 75, 3) := by decide +kernel
theorem dX4_tell_76 : decode cX4_tell 76 = .ok (.aload_n 0, 1) := by decide +kernel
theorem dX4_tell_77 : decode cX4_tell 77 = .ok (.getfield 52, 3) := by decide +kernel
theorem dX4_tell_80 : decode cX4_tell 80 = .ok (.bipush 8, 2) := by decide +kernel
theorem dX4_tell_82 : decode cX4_tell 82 = .ok (.if_icmp .ne 16, 3) := by decide +kernel
theorem dX4_tell_85 : decode cX4_tell 85 = .ok (.aload_n 0, 1) := by decide +kernel
theorem dX4_tell_86 : decode cX4_tell 86 = .ok (.iload 4, 2) := by decide +kernel
theorem dX4_tell_88 : decode cX4_tell 88 = .ok (.bipush 48, 2) := by decide +kernel
theorem dX4_tell_90 : decode cX4_tell 90 = .ok (.isub, 1) := by decide +kernel
theorem dX4_tell_91 : decode cX4_tell 91 = .ok (.aload_n 1, 1) := by decide +kernel
theorem dX4_tell_92 : decode cX4_tell 92 = .ok (.invokevirtual 55, 3) := by decide +kernel
theorem dX4_tell_95 : decode cX4_tell 95 = .ok (.goto 13, 3) := by decide +kernel
theorem dX4_tell_98 : decode cX4_tell 98 = .ok (.aload_n 0, 1) := by decide +kernel
theorem dX4_tell_99 : decode cX4_tell 99 = .ok (.iload 4, 2) := by decide +kernel
theorem dX4_tell_101 : decode cX4_tell 101 = .ok (.bipush 48, 2) := by decide +kernel
theorem dX4_tell_103 : decode cX4_tell 103 = .ok (.isub, 1) := by decide +kernel
theorem dX4_tell_104 : decode cX4_tell 104 = .ok (.aload_n 1, 1) := by decide +kernel
theorem dX4_tell_105 : decode cX4_tell 105 = .ok (.invokevirtual 59, 3) := by decide +kernel
theorem dX4_tell_108 : decode cX4_tell 108 = .ok (.istore_n 2, 1) := by decide +kernel
theorem dX4_tell_109 : decode cX4_tell 109 = .ok (.goto 39, 3) := by decide +kernel
theorem dX4_tell_112 : decode cX4_tell 112 = .ok (.aload_n 0, 1) := by decide +kernel
theorem dX4_tell_113 : decode cX4_tell 113 = .ok (.getfield 36, 3) := by decide +kernel
theorem dX4_tell_116 : decode cX4_tell 116 = .ok (.ifCond .ne 25, 3) := by decide +kernel
theorem dX4_tell_119 : decode cX4_tell 119 = .ok (.iload 4, 2) := by decide +kernel
theorem dX4_tell_121 : decode cX4_tell 121 = .ok (.bipush 41, 2) := by decide +kernel
theorem dX4_tell_123 : decode cX4_tell 123 = .ok (.if_icmp .ne 18, 3) := by decide +kernel
theorem dX4_tell_126 : decode cX4_tell 126 = .ok (.aload_n 0, 1) := by decide +kernel
theorem dX4_tell_127 : decode cX4_tell 127 = .ok (.getfield 45, 3) := by decide +kernel
theorem dX4_tell_130 : decode cX4_tell 130 = .ok (.ifCond .le 11, 3) := by decide +kernel
theorem dX4_tell_133 : decode cX4_tell 133 = .ok (.aload_n 0, 1) := by decide +kernel
theorem dX4_tell_134 : decode cX4_tell 134 = .ok (.aload_n 1, 1) := by decide +kernel
theorem dX4_tell_135 : decode cX4_tell 135 = .ok (.invokevirtual 62, 3) := by decide +kernel
theorem dX4_tell_138 : decode cX4_tell 138 = .ok (.goto 10, 3) := by decide +kernel
theorem dX4_tell_141 : decode cX4_tell 141 = .ok (.aload_n 0, 1) := by decide +kernel
theorem dX4_tell_142 : decode cX4_tell 142 = .ok (.iload 4, 2) := by decide +kernel
theorem dX4_tell_144 : decode cX4_tell 144 = .ok (.invokevirtual 66, 3) := by decide +kernel
theorem dX4_tell_147 : decode cX4_tell 147 = .ok (.istore_n 2, 1) := by decide +kernel
theorem dX4_tell_148 : decode cX4_tell 148 = .ok (.goto (-124), 3) := by decide +kernel
theorem dX4_tell_151 : decode cX4_tell 151 = .ok (.aload_n 0, 1) := by decide +kernel
theorem dX4_tell_152 : decode cX4_tell 152 = .ok (.iload_n 2, 1) := by decide +kernel
theorem dX4_tell_153 : decode cX4_tell 153 = .ok (.ifCond .ne 7, 3) := by decide +kernel
theorem dX4_tell_156 : decode cX4_tell 156 = .ok (.iconst (-1), 1) := by decide +kernel
theorem dX4_tell_157 : decode cX4_tell 157 = .ok (.goto 6, 3) := by decide +kernel
theorem dX4_tell_160 : decode cX4_tell 160 = .ok (.iload_n 3, 1) := by decide +kernel
theorem dX4_tell_161 : decode cX4_tell 161 = .ok (.iconst 1, 1) := by decide +kernel
theorem dX4_tell_162 : decode cX4_tell 162 = .ok (.isub, 1) := by decide +kernel
theorem dX4_tell_163 : decode cX4_tell 163 = .ok (.putfield 9, 3) := by decide +kernel
theorem dX4_tell_166 : decode cX4_tell 166 = .ok (.iload_n 2, 1) := by decide +kernel
theorem dX4_tell_167 : decode cX4_tell 167 = .ok (.ifCond .ne 27, 3) := by decide +kernel
theorem dX4_tell_170 : decode cX4_tell 170 = .ok (.aload_n 0, 1) := by decide +kernel
theorem dX4_tell_171 : decode cX4_tell 171 = .ok (.getfield 36, 3) := by decide +kernel
theorem dX4_tell_174 : decode cX4_tell 174 = .ok (.ifCond .ne 10, 3) := by decide +kernel
theorem dX4_tell_177 : decode cX4_tell 177 = .ok (.aload_n 0, 1) := by decide +kernel
theorem dX4_tell_178 : decode cX4_tell 178 = .ok (.getfield 45, 3) := by decide +kernel
theorem dX4_tell_181 : decode cX4_tell 181 = .ok (.ifCond .le 13, 3) := by decide +kernel
theorem dX4_tell_184 : decode cX4_tell 184 = .ok (.iconst 1, 1) := by decide +kernel
theorem dX4_tell_185 : decode cX4_tell 185 = .ok (.istore_n 2, 1) := by decide +kernel
theorem dX4_tell_186 : decode cX4_tell 186 = .ok (.aload_n 0, 1) := by decide +kernel
theorem dX4_tell_187 : decode cX4_tell 187 = .ok (.aload_n 0, 1) := by decide +kernel
theorem dX4_tell_188 : decode cX4_tell 188 = .ok (.getfield 32, 3) := by decide +kernel
theorem dX4_tell_191 : decode cX4_tell 191 = .ok (.putfield 9, 3) := by decide +kernel
theorem dX4_tell_194 : decode cX4_tell 194 = .ok (.aload_n 0, 1) := by decide +kernel
theorem dX4_tell_195 : decode cX4_tell 195 = .ok (.getfield 45, 3) := by decide +kernel
theorem dX4_tell_198 : decode cX4_tell 198 = .ok (.istore 4, 2) := by decide +kernel
theorem dX4_tell_200 : decode cX4_tell 200 = .ok (.iload 4, 2) := by decide +kernel
theorem dX4_tell_202 : decode cX4_tell 202 = .ok (.ifCond .le 14, 3) := by decide +kernel
theorem dX4_tell_205 : decode cX4_tell 205 = .ok (.aload_n 0, 1) := by decide +kernel
theorem dX4_tell_206 : decode cX4_tell 206 = .ok (.aload_n 1, 1) := by decide +kernel
theorem dX4_tell_207 : decode cX4_tell 207 = .ok (.invokevirtual 62, 3) := by decide +kernel
theorem dX4_tell_210 : decode cX4_tell 210 = .ok (.iinc 4 (-1), 3) := by decide +kernel
theorem dX4_tell_213 : decode cX4_tell 213 = .ok (.goto (-13), 3) := by decide +kernel
theorem dX4_tell_216 : decode cX4_tell 216 = .ok (.aload_n 0, 1) := by decide +kernel
theorem dX4_tell_217 : decode cX4_tell 217 = .ok (.iconst 0, 1) := by decide +kernel
theorem dX4_tell_218 : decode cX4_tell 218 = .ok (.putfield 32, 3) := by decide +kernel
theorem dX4_tell_221 : decode cX4_tell 221 = .ok (.iload_n 2, 1) := by decide +kernel
theorem dX4_tell_222 : decode cX4_tell 222 = .ok (.ireturn, 1) := by decide +kernel
set_option maxRecDepth 20000 in
theorem ggX4_faultOfFigure_X6_boundOf : GoodIn wsX4_faultOfFigure wsX6_boundOf := goodIn_r _ [4] (by decide +kernel) (by decide +kernel)
set_option maxRecDepth 20000 in
theorem gX4_faultOfFigure_X6_boundOf_n69 : GoodIn wsX4_faultOfFigure (wsX6_boundOf) := ggX4_faultOfFigure_X6_boundOf
theorem dX4_faultOfFigure_0 : decode cX4_faultOfFigure 0 = .ok (.iload_n 1, 1) := by decide +kernel
theorem dX4_faultOfFigure_1 : decode cX4_faultOfFigure 1 = .ok (.bipush 48, 2) := by decide +kernel
theorem dX4_faultOfFigure_3 : decode cX4_faultOfFigure 3 = .ok (.if_icmp .lt 9, 3) := by decide +kernel
theorem dX4_faultOfFigure_6 : decode cX4_faultOfFigure 6 = .ok (.iload_n 1, 1) := by decide +kernel
theorem dX4_faultOfFigure_7 : decode cX4_faultOfFigure 7 = .ok (.bipush 57, 2) := by decide +kernel
theorem dX4_faultOfFigure_9 : decode cX4_faultOfFigure 9 = .ok (.if_icmp .le 5, 3) := by decide +kernel
theorem dX4_faultOfFigure_12 : decode cX4_faultOfFigure 12 = .ok (.iconst 1, 1) := by decide +kernel
theorem dX4_faultOfFigure_13 : decode cX4_faultOfFigure 13 = .ok (.ireturn, 1) := by decide +kernel
theorem dX4_faultOfFigure_14 : decode cX4_faultOfFigure 14 = .ok (.iload_n 1, 1) := by decide +kernel
theorem dX4_faultOfFigure_15 : decode cX4_faultOfFigure 15 = .ok (.bipush 48, 2) := by decide +kernel
theorem dX4_faultOfFigure_17 : decode cX4_faultOfFigure 17 = .ok (.isub, 1) := by decide +kernel
theorem dX4_faultOfFigure_18 : decode cX4_faultOfFigure 18 = .ok (.aload_n 0, 1) := by decide +kernel
theorem dX4_faultOfFigure_19 : decode cX4_faultOfFigure 19 = .ok (.getfield 52, 3) := by decide +kernel
theorem dX4_faultOfFigure_22 : decode cX4_faultOfFigure 22 = .ok (.invokestatic 69, 3) := by decide +kernel
theorem dX4_faultOfFigure_25 : decode cX4_faultOfFigure 25 = .ok (.if_icmp .ge 7, 3) := by decide +kernel
theorem dX4_faultOfFigure_28 : decode cX4_faultOfFigure 28 = .ok (.iconst 0, 1) := by decide +kernel
theorem dX4_faultOfFigure_29 : decode cX4_faultOfFigure 29 = .ok (.goto 4, 3) := by decide +kernel
theorem dX4_faultOfFigure_32 : decode cX4_faultOfFigure 32 = .ok (.iconst 2, 1) := by decide +kernel
theorem dX4_faultOfFigure_33 : decode cX4_faultOfFigure 33 = .ok (.ireturn, 1) := by decide +kernel
set_option maxRecDepth 20000 in
theorem ggX4_tellSign_X4_itemOf : GoodIn wsX4_tellSign wsX4_itemOf := goodIn_r _ [6] (by decide +kernel) (by decide +kernel)
set_option maxRecDepth 20000 in
theorem gX4_tellSign_X4_itemOf : GoodIn wsX4_tellSign (va_wsS RX4 72 yX4_itemOf wsX4_itemOf) := goodIn_app (goodIn_of _ (by decide +kernel)) ggX4_tellSign_X4_itemOf
theorem dX4_tellSign_0 : decode cX4_tellSign 0 = .ok (.aload_n 0, 1) := by decide +kernel
theorem dX4_tellSign_1 : decode cX4_tellSign 1 = .ok (.getfield 36, 3) := by decide +kernel
theorem dX4_tellSign_4 : decode cX4_tellSign 4 = .ok (.ifCond .ne 30, 3) := by decide +kernel
theorem dX4_tellSign_7 : decode cX4_tellSign 7 = .ok (.aload_n 0, 1) := by decide +kernel
theorem dX4_tellSign_8 : decode cX4_tellSign 8 = .ok (.iload_n 1, 1) := by decide +kernel
theorem dX4_tellSign_9 : decode cX4_tellSign 9 = .ok (.invokestatic 72, 3) := by decide +kernel
theorem dX4_tellSign_12 : decode cX4_tellSign 12 = .ok (.putfield 52, 3) := by decide +kernel
theorem dX4_tellSign_15 : decode cX4_tellSign 15 = .ok (.aload_n 0, 1) := by decide +kernel
theorem dX4_tellSign_16 : decode cX4_tellSign 16 = .ok (.iconst 1, 1) := by decide +kernel
theorem dX4_tellSign_17 : decode cX4_tellSign 17 = .ok (.putfield 36, 3) := by decide +kernel
theorem dX4_tellSign_20 : decode cX4_tellSign 20 = .ok (.aload_n 0, 1) := by decide +kernel
theorem dX4_tellSign_21 : decode cX4_tellSign 21 = .ok (.getfield 52, 3) := by decide +kernel
theorem dX4_tellSign_24 : decode cX4_tellSign 24 = .ok (.iconst (-1), 1) := by decide +kernel
theorem dX4_tellSign_25 : decode cX4_tellSign 25 = .ok (.if_icmp .ne 7, 3) := by decide +kernel
theorem dX4_tellSign_28 : decode cX4_tellSign 28 = .ok (.iconst 1, 1) := by decide +kernel
theorem dX4_tellSign_29 : decode cX4_tellSign 29 = .ok (.goto 4, 3) := by decide +kernel
theorem dX4_tellSign_32 : decode cX4_tellSign 32 = .ok (.iconst 0, 1) := by decide +kernel
theorem dX4_tellSign_33 : decode cX4_tellSign 33 = .ok (.ireturn, 1) := by decide +kernel
theorem dX4_tellSign_34 : decode cX4_tellSign 34 = .ok (.aload_n 0, 1) := by decide +kernel
theorem dX4_tellSign_35 : decode cX4_tellSign 35 = .ok (.getfield 36, 3) := by decide +kernel
theorem dX4_tellSign_38 : decode cX4_tellSign 38 = .ok (.iconst 2, 1) := by decide +kernel
theorem dX4_tellSign_39 : decode cX4_tellSign 39 = .ok (.if_icmp .ne 8, 3) := by decide +kernel
theorem dX4_tellSign_42 : decode cX4_tellSign 42 = .ok (.bipush 59, 2) := by decide +kernel
theorem dX4_tellSign_44 : decode cX4_tellSign 44 = .ok (.goto 5, 3) := by decide +kernel
theorem dX4_tellSign_47 : decode cX4_tellSign 47 = .ok (.bipush 40, 2) := by decide +kernel
theorem dX4_tellSign_49 : decode cX4_tellSign 49 = .ok (.istore_n 2, 1) := by decide +kernel
theorem dX4_tellSign_50 : decode cX4_tellSign 50 = .ok (.aload_n 0, 1) := by decide +kernel
theorem dX4_tellSign_51 : decode cX4_tellSign 51 = .ok (.iconst 0, 1) := by decide +kernel
theorem dX4_tellSign_52 : decode cX4_tellSign 52 = .ok (.putfield 36, 3) := by decide +kernel
theorem dX4_tellSign_55 : decode cX4_tellSign 55 = .ok (.iload_n 1, 1) := by decide +kernel
theorem dX4_tellSign_56 : decode cX4_tellSign 56 = .ok (.iload_n 2, 1) := by decide +kernel
theorem dX4_tellSign_57 : decode cX4_tellSign 57 = .ok (.if_icmp .ne 7, 3) := by decide +kernel
theorem dX4_tellSign_60 : decode cX4_tellSign 60 = .ok (.iconst 0, 1) := by decide +kernel
theorem dX4_tellSign_61 : decode cX4_tellSign 61 = .ok (.goto 4, 3) := by decide +kernel
theorem dX4_tellSign_64 : decode cX4_tellSign 64 = .ok (.iconst 1, 1) := by decide +kernel
theorem dX4_tellSign_65 : decode cX4_tellSign 65 = .ok (.ireturn, 1) := by decide +kernel
set_option maxRecDepth 20000 in
theorem ggX4_tellThread_X5_goes : GoodIn wsX4_tellThread wsX5_goes := goodIn_r _ [7, 8, 28, 29, 30, 31, 32, 33, 34] (by decide +kernel) (by decide +kernel)
set_option maxRecDepth 20000 in
theorem gX4_tellThread_X5_goes : GoodIn wsX4_tellThread (wsV RX4 75 RX5 yX5_goes wsX5_goes) := goodIn_app (goodIn_of _ (by decide +kernel)) ggX4_tellThread_X5_goes
set_option maxRecDepth 20000 in
theorem ggX4_tellThread_X4_open : GoodIn wsX4_tellThread wsX4_open := goodIn_r _ [13, 14, 15, 16, 1, 17, 18, 19, 20, 21, 22, 23, 24, 25, 26, 27] (by decide +kernel) (by decide +kernel)
set_option maxRecDepth 20000 in
theorem gX4_tellThread_X4_open : GoodIn wsX4_tellThread (wsV RX4 81 RX4 yX4_open wsX4_open) := goodIn_app (goodIn_of _ (by decide +kernel)) ggX4_tellThread_X4_open
theorem dX4_tellThread_0 : decode cX4_tellThread 0 = .ok (.aload_n 2, 1) := by decide +kernel
theorem dX4_tellThread_1 : decode cX4_tellThread 1 = .ok (.iload_n 1, 1) := by decide +kernel
theorem dX4_tellThread_2 : decode cX4_tellThread 2 = .ok (.invokevirtual 75, 3) := by decide +kernel
theorem dX4_tellThread_5 : decode cX4_tellThread 5 = .ok (.ifCond .ne 5, 3) := by decide +kernel
theorem dX4_tellThread_8 : decode cX4_tellThread 8 = .ok (.iconst 4, 1) := by decide +kernel
theorem dX4_tellThread_9 : decode cX4_tellThread 9 = .ok (.ireturn, 1) := by decide +kernel
theorem dX4_tellThread_10 : decode cX4_tellThread 10 = .ok (.aload_n 0, 1) := by decide +kernel
theorem dX4_tellThread_11 : decode cX4_tellThread 11 = .ok (.iconst (-1), 1) := by decide +kernel
theorem dX4_tellThread_12 : decode cX4_tellThread 12 = .ok (.invokevirtual 81, 3) := by decide +kernel
theorem dX4_tellThread_15 : decode cX4_tellThread 15 = .ok (.aload_n 0, 1) := by decide +kernel
theorem dX4_tellThread_16 : decode cX4_tellThread 16 = .ok (.iload_n 1, 1) := by decide +kernel
theorem dX4_tellThread_17 : decode cX4_tellThread 17 = .ok (.putfield 39, 3) := by decide +kernel
theorem dX4_tellThread_20 : decode cX4_tellThread 20 = .ok (.aload_n 0, 1) := by decide +kernel
theorem dX4_tellThread_21 : decode cX4_tellThread 21 = .ok (.iconst 3, 1) := by decide +kernel
theorem dX4_tellThread_22 : decode cX4_tellThread 22 = .ok (.putfield 36, 3) := by decide +kernel
theorem dX4_tellThread_25 : decode cX4_tellThread 25 = .ok (.iconst 0, 1) := by decide +kernel
theorem dX4_tellThread_26 : decode cX4_tellThread 26 = .ok (.ireturn, 1) := by decide +kernel
set_option maxRecDepth 20000 in
theorem ggX4_tellEvent_X3_hasRoom : GoodIn wsX4_tellEvent wsX3_hasRoom := goodIn_r _ [11, 12, 191, 192, 193, 194, 195, 196, 197, 198] (by decide +kernel) (by decide +kernel)
set_option maxRecDepth 20000 in
theorem gX4_tellEvent_X3_hasRoom : GoodIn wsX4_tellEvent (wsV RX4 89 RX3 yX3_hasRoom wsX3_hasRoom) := goodIn_app (goodIn_of _ (by decide +kernel)) ggX4_tellEvent_X3_hasRoom
set_option maxRecDepth 20000 in
theorem ggX4_tellEvent_X5_canBe : GoodIn wsX4_tellEvent wsX5_canBe := goodIn_r _ [17, 18, 19, 20, 21, 22, 16, 23, 24, 25, 26, 27, 184, 185, 186, 187, 188, 189, 190] (by decide +kernel) (by decide +kernel)
set_option maxRecDepth 20000 in
theorem gX4_tellEvent_X5_canBe : GoodIn wsX4_tellEvent (wsV RX4 94 RX5 yX5_canBe wsX5_canBe) := goodIn_app (goodIn_of _ (by decide +kernel)) ggX4_tellEvent_X5_canBe
set_option maxRecDepth 20000 in
theorem ggX4_tellEvent_X5_stepIsMuch : GoodIn wsX4_tellEvent wsX5_stepIsMuch := goodIn_r _ [31, 32, 33, 34, 35, 36, 37, 38, 39, 184, 185, 186, 187, 188, 189, 190, 199, 200] (by decide +kernel) (by decide +kernel)
set_option maxRecDepth 20000 in
theorem gX4_tellEvent_X5_stepIsMuch : GoodIn wsX4_tellEvent (wsV RX4 98 RX5 yX5_stepIsMuch wsX5_stepIsMuch) := goodIn_app (goodIn_of _ (by decide +kernel)) ggX4_tellEvent_X5_stepIsMuch
set_option maxRecDepth 20000 in
theorem ggX4_tellEvent_X5_come : GoodIn wsX4_tellEvent wsX5_come := goodIn_r _ [43, 44, 45, 32, 46, 47, 8, 9, 10, 11, 12, 48, 49, 50, 16, 51, 52, 18, 53, 19, 54, 55, 56, 37, 57, 58, 59, 60, 61, 62, 35, 36, 38, 39, 63, 64, 65, 66, 24, 25, 26, 27, 67, 68, 69, 70, 71, 72, 73, 74, 75, 76, 77, 78, 79, 80, 81, 82, 83, 84, 85, 86, 87, 88, 89, 90, 91, 92, 93, 94, 95, 96, 97, 98, 99, 100, 101, 102, 103, 104, 105, 106, 107, 108, 109, 110, 111, 112, 113, 114, 115, 116, 117, 118, 119, 120, 121, 122, 123, 124, 125, 126, 127, 128, 129, 130, 131, 132, 133, 134, 135, 136, 137, 138, 139, 140, 141, 142, 143, 144, 145, 146, 147, 148, 149, 150, 151, 33, 34, 152, 184, 185, 186, 187, 188, 189, 190, 191, 192, 193, 194, 195, 196, 197, 198, 199, 200, 201, 202, 203, 204, 205, 206, 207, 208, 209, 210] (by decide +kernel) (by decide +kernel)
set_option maxRecDepth 20000 in
theorem gX4_tellEvent_X5_come : GoodIn wsX4_tellEvent (wsV RX4 102 RX5 yX5_come wsX5_come) := goodIn_app (goodIn_of _ (by decide +kernel)) ggX4_tellEvent_X5_come
set_option maxRecDepth 20000 in
theorem ggX4_tellEvent_X4_open : GoodIn wsX4_tellEvent wsX4_open := goodIn_r _ [157, 158, 159, 160, 4, 173, 174, 175, 176, 177, 178, 179, 180, 181, 182, 183] (by decide +kernel) (by decide +kernel)
set_option maxRecDepth 20000 in
theorem gX4_tellEvent_X4_open : GoodIn wsX4_tellEvent (wsV RX4 81 RX4 yX4_open wsX4_open) := goodIn_app (goodIn_of _ (by decide +kernel)) ggX4_tellEvent_X4_open
set_option maxRecDepth 20000 in
theorem ggX4_tellEvent_X0_enter : GoodIn wsX4_tellEvent wsX0_enter := goodIn_r _ [165, 166, 167, 81, 82, 83, 168, 169, 170, 171, 60, 172, 211, 212, 213] (by decide +kernel) (by decide +kernel)
set_option maxRecDepth 20000 in
theorem gX4_tellEvent_X0_enter : GoodIn wsX4_tellEvent (wsV RX4 106 RX0 yX0_enter wsX0_enter) := goodIn_app (goodIn_of _ (by decide +kernel)) ggX4_tellEvent_X0_enter
theorem dX4_tellEvent_0 : decode cX4_tellEvent 0 = .ok (.aload_n 0, 1) := by decide +kernel
theorem dX4_tellEvent_1 : decode cX4_tellEvent 1 = .ok (.getfield 52, 3) := by decide +kernel
theorem dX4_tellEvent_4 : decode cX4_tellEvent 4 = .ok (.iconst 2, 1) := by decide +kernel
theorem dX4_tellEvent_5 : decode cX4_tellEvent 5 = .ok (.if_icmp .ne 7, 3) := by decide +kernel
theorem dX4_tellEvent_8 : decode cX4_tellEvent 8 = .ok (.iconst 2, 1) := by decide +kernel
theorem dX4_tellEvent_9 : decode cX4_tellEvent 9 = .ok (.goto 4, 3) := by decide +kernel
theorem dX4_tellEvent_12 : decode cX4_tellEvent 12 = .ok (.iconst 1, 1) := by decide +kernel
theorem dX4_tellEvent_13 : decode cX4_tellEvent 13 = .ok (.istore_n 3, 1) := by decide +kernel
theorem dX4_tellEvent_14 : decode cX4_tellEvent 14 = .ok (.aload_n 2, 1) := by decide +kernel
theorem dX4_tellEvent_15 : decode cX4_tellEvent 15 = .ok (.getfield 85, 3) := by decide +kernel
theorem dX4_tellEvent_18 : decode cX4_tellEvent 18 = .ok (.iload_n 3, 1) := by decide +kernel
theorem dX4_tellEvent_19 : decode cX4_tellEvent 19 = .ok (.aload_n 0, 1) := by decide +kernel
theorem dX4_tellEvent_20 : decode cX4_tellEvent 20 = .ok (.getfield 42, 3) := by decide +kernel
theorem dX4_tellEvent_23 : decode cX4_tellEvent 23 = .ok (.iadd, 1) := by decide +kernel
theorem dX4_tellEvent_24 : decode cX4_tellEvent 24 = .ok (.invokevirtual 89, 3) := by decide +kernel
theorem dX4_tellEvent_27 : decode cX4_tellEvent 27 = .ok (.ifCond .ne 5, 3) := by decide +kernel
theorem dX4_tellEvent_30 : decode cX4_tellEvent 30 = .ok (.iconst 3, 1) := by decide +kernel
theorem dX4_tellEvent_31 : decode cX4_tellEvent 31 = .ok (.ireturn, 1) := by decide +kernel
theorem dX4_tellEvent_32 : decode cX4_tellEvent 32 = .ok (.aload_n 2, 1) := by decide +kernel
theorem dX4_tellEvent_33 : decode cX4_tellEvent 33 = .ok (.aload_n 0, 1) := by decide +kernel
theorem dX4_tellEvent_34 : decode cX4_tellEvent 34 = .ok (.getfield 39, 3) := by decide +kernel
theorem dX4_tellEvent_37 : decode cX4_tellEvent 37 = .ok (.aload_n 0, 1) := by decide +kernel
theorem dX4_tellEvent_38 : decode cX4_tellEvent 38 = .ok (.getfield 52, 3) := by decide +kernel
theorem dX4_tellEvent_41 : decode cX4_tellEvent 41 = .ok (.iload_n 1, 1) := by decide +kernel
theorem dX4_tellEvent_42 : decode cX4_tellEvent 42 = .ok (.invokevirtual 94, 3) := by decide +kernel
theorem dX4_tellEvent_45 : decode cX4_tellEvent 45 = .ok (.ifCond .eq 18, 3) := by decide +kernel
theorem dX4_tellEvent_48 : decode cX4_tellEvent 48 = .ok (.aload_n 2, 1) := by decide +kernel
theorem dX4_tellEvent_49 : decode cX4_tellEvent 49 = .ok (.aload_n 0, 1) := by decide +kernel
theorem dX4_tellEvent_50 : decode cX4_tellEvent 50 = .ok (.getfield 39, 3) := by decide +kernel
theorem dX4_tellEvent_53 : decode cX4_tellEvent 53 = .ok (.aload_n 0, 1) := by decide +kernel
theorem dX4_tellEvent_54 : decode cX4_tellEvent 54 = .ok (.getfield 52, 3) := by decide +kernel
theorem dX4_tellEvent_57 : decode cX4_tellEvent 57 = .ok (.invokevirtual 98, 3) := by decide +kernel
theorem dX4_tellEvent_60 : decode cX4_tellEvent 60 = .ok (.ifCond .eq 5, 3) := by decide +kernel
theorem dX4_tellEvent_63 : decode cX4_tellEvent 63 = .ok (.iconst 4, 1) := by decide +kernel
theorem dX4_tellEvent_64 : decode cX4_tellEvent 64 = .ok (.ireturn, 1) := by decide +kernel
theorem dX4_tellEvent_65 : decode cX4_tellEvent 65 = .ok (.aload_n 2, 1) := by decide +kernel
theorem dX4_tellEvent_66 : decode cX4_tellEvent 66 = .ok (.aload_n 0, 1) := by decide +kernel
theorem dX4_tellEvent_67 : decode cX4_tellEvent 67 = .ok (.getfield 39, 3) := by decide +kernel
theorem dX4_tellEvent_70 : decode cX4_tellEvent 70 = .ok (.aload_n 0, 1) := by decide +kernel
theorem dX4_tellEvent_71 : decode cX4_tellEvent 71 = .ok (.getfield 52, 3) := by decide +kernel
theorem dX4_tellEvent_74 : decode cX4_tellEvent 74 = .ok (.iload_n 1, 1) := by decide +kernel
theorem dX4_tellEvent_75 : decode cX4_tellEvent 75 = .ok (.invokevirtual 102, 3) := by decide +kernel
theorem dX4_tellEvent_78 : decode cX4_tellEvent 78 = .ok (.pop, 1) := by decide +kernel
theorem dX4_tellEvent_79 : decode cX4_tellEvent 79 = .ok (.aload_n 0, 1) := by decide +kernel
theorem dX4_tellEvent_80 : decode cX4_tellEvent 80 = .ok (.getfield 52, 3) := by decide +kernel
theorem dX4_tellEvent_83 : decode cX4_tellEvent 83 = .ok (.iconst 2, 1) := by decide +kernel
theorem dX4_tellEvent_84 : decode cX4_tellEvent 84 = .ok (.if_icmp .eq 10, 3) := by decide +kernel
theorem dX4_tellEvent_87 : decode cX4_tellEvent 87 = .ok (.aload_n 0, 1) := by decide +kernel
theorem dX4_tellEvent_88 : decode cX4_tellEvent 88 = .ok (.iconst 2, 1) := by decide +kernel
theorem dX4_tellEvent_89 : decode cX4_tellEvent 89 = .ok (.putfield 36, 3) := by decide +kernel
theorem dX4_tellEvent_92 : decode cX4_tellEvent 92 = .ok (.iconst 0, 1) := by decide +kernel
theorem dX4_tellEvent_93 : decode cX4_tellEvent 93 = .ok (.ireturn, 1) := by decide +kernel
theorem dX4_tellEvent_94 : decode cX4_tellEvent 94 = .ok (.aload_n 0, 1) := by decide +kernel
theorem dX4_tellEvent_95 : decode cX4_tellEvent 95 = .ok (.iload_n 1, 1) := by decide +kernel
theorem dX4_tellEvent_96 : decode cX4_tellEvent 96 = .ok (.invokevirtual 81, 3) := by decide +kernel
theorem dX4_tellEvent_99 : decode cX4_tellEvent 99 = .ok (.aload_n 0, 1) := by decide +kernel
theorem dX4_tellEvent_100 : decode cX4_tellEvent 100 = .ok (.dup, 1) := by decide +kernel
theorem dX4_tellEvent_101 : decode cX4_tellEvent 101 = .ok (.getfield 42, 3) := by decide +kernel
theorem dX4_tellEvent_104 : decode cX4_tellEvent 104 = .ok (.iconst 1, 1) := by decide +kernel
theorem dX4_tellEvent_105 : decode cX4_tellEvent 105 = .ok (.iadd, 1) := by decide +kernel
theorem dX4_tellEvent_106 : decode cX4_tellEvent 106 = .ok (.putfield 42, 3) := by decide +kernel
theorem dX4_tellEvent_109 : decode cX4_tellEvent 109 = .ok (.aload_n 0, 1) := by decide +kernel
theorem dX4_tellEvent_110 : decode cX4_tellEvent 110 = .ok (.getfield 18, 3) := by decide +kernel
theorem dX4_tellEvent_113 : decode cX4_tellEvent 113 = .ok (.iload_n 1, 1) := by decide +kernel
theorem dX4_tellEvent_114 : decode cX4_tellEvent 114 = .ok (.iconst 1, 1) := by decide +kernel
theorem dX4_tellEvent_115 : decode cX4_tellEvent 115 = .ok (.invokevirtual 106, 3) := by decide +kernel
theorem dX4_tellEvent_118 : decode cX4_tellEvent 118 = .ok (.aload_n 0, 1) := by decide +kernel
theorem dX4_tellEvent_119 : decode cX4_tellEvent 119 = .ok (.iconst 3, 1) := by decide +kernel
theorem dX4_tellEvent_120 : decode cX4_tellEvent 120 = .ok (.putfield 36, 3) := by decide +kernel
theorem dX4_tellEvent_123 : decode cX4_tellEvent 123 = .ok (.iconst 0, 1) := by decide +kernel
theorem dX4_tellEvent_124 : decode cX4_tellEvent 124 = .ok (.ireturn, 1) := by decide +kernel
theorem dX4_open_0 : decode cX4_open 0 = .ok (.aload_n 0, 1) := by decide +kernel
theorem dX4_open_1 : decode cX4_open 1 = .ok (.getfield 45, 3) := by decide +kernel
theorem dX4_open_4 : decode cX4_open 4 = .ok (.sipush 240, 3) := by decide +kernel
theorem dX4_open_7 : decode cX4_open 7 = .ok (.if_icmp .ge 36, 3) := by decide +kernel
theorem dX4_open_10 : decode cX4_open 10 = .ok (.aload_n 0, 1) := by decide +kernel
theorem dX4_open_11 : decode cX4_open 11 = .ok (.getfield 26, 3) := by decide +kernel
theorem dX4_open_14 : decode cX4_open 14 = .ok (.aload_n 0, 1) := by decide +kernel
theorem dX4_open_15 : decode cX4_open 15 = .ok (.getfield 45, 3) := by decide +kernel
theorem dX4_open_18 : decode cX4_open 18 = .ok (.iload_n 1, 1) := by decide +kernel
theorem dX4_open_19 : decode cX4_open 19 = .ok (.iastore, 1) := by decide +kernel
theorem dX4_open_20 : decode cX4_open 20 = .ok (.aload_n 0, 1) := by decide +kernel
theorem dX4_open_21 : decode cX4_open 21 = .ok (.getfield 29, 3) := by decide +kernel
theorem dX4_open_24 : decode cX4_open 24 = .ok (.aload_n 0, 1) := by decide +kernel
theorem dX4_open_25 : decode cX4_open 25 = .ok (.getfield 45, 3) := by decide +kernel
theorem dX4_open_28 : decode cX4_open 28 = .ok (.aload_n 0, 1) := by decide +kernel
theorem dX4_open_29 : decode cX4_open 29 = .ok (.getfield 39, 3) := by decide +kernel
theorem dX4_open_32 : decode cX4_open 32 = .ok (.iastore, 1) := by decide +kernel
theorem dX4_open_33 : decode cX4_open 33 = .ok (.aload_n 0, 1) := by decide +kernel
theorem dX4_open_34 : decode cX4_open 34 = .ok (.dup, 1) := by decide +kernel
theorem dX4_open_35 : decode cX4_open 35 = .ok (.getfield 45, 3) := by decide +kernel
theorem dX4_open_38 : decode cX4_open 38 = .ok (.iconst 1, 1) := by decide +kernel
theorem dX4_open_39 : decode cX4_open 39 = .ok (.iadd, 1) := by decide +kernel
theorem dX4_open_40 : decode cX4_open 40 = .ok (.putfield 45, 3) := by decide +kernel
theorem dX4_open_43 : decode cX4_open 43 = .ok (.return_, 1) := by decide +kernel
set_option maxRecDepth 20000 in
theorem ggX4_shutLast_X5_come : GoodIn wsX4_shutLast wsX5_come := goodIn_r _ [11, 12, 13, 14, 15, 16, 17, 18, 19, 20, 21, 22, 23, 24, 10, 25, 26, 27, 28, 29, 30, 31, 32, 33, 34, 35, 36, 37, 38, 39, 40, 41, 42, 43, 44, 45, 46, 47, 48, 49, 50, 51, 52, 53, 54, 55, 56, 57, 58, 59, 60, 61, 62, 63, 64, 65, 66, 67, 68, 69, 70, 71, 72, 73, 74, 75, 76, 77, 78, 79, 80, 81, 82, 83, 84, 85, 86, 87, 88, 89, 90, 91, 92, 93, 94, 95, 96, 97, 98, 99, 100, 101, 102, 103, 104, 105, 106, 107, 108, 109, 110, 111, 112, 113, 114, 115, 116, 117, 118, 119, 120, 121, 122, 123, 124, 125, 126, 127, 128, 129, 130, 131, 132, 133, 134, 135, 136, 137, 138, 139, 163, 164, 165, 166, 167, 168, 169, 170, 171, 172, 173, 174, 175, 176, 177, 178, 179, 180, 181, 182, 183, 184, 185, 186, 187, 188, 189] (by decide +kernel) (by decide +kernel)
set_option maxRecDepth 20000 in
theorem gX4_shutLast_X5_come : GoodIn wsX4_shutLast (wsV RX4 102 RX5 yX5_come wsX5_come) := goodIn_app (goodIn_of _ (by decide +kernel)) ggX4_shutLast_X5_come
set_option maxRecDepth 20000 in
theorem ggX4_shutLast_X0_enter : GoodIn wsX4_shutLast wsX0_enter := goodIn_r _ [144, 145, 146, 66, 67, 68, 147, 148, 149, 150, 37, 151, 190, 191, 192] (by decide +kernel) (by decide +kernel)
set_option maxRecDepth 20000 in
theorem gX4_shutLast_X0_enter : GoodIn wsX4_shutLast (wsV RX4 106 RX0 yX0_enter wsX0_enter) := goodIn_app (goodIn_of _ (by decide +kernel)) ggX4_shutLast_X0_enter
theorem dX4_shutLast_0 : decode cX4_shutLast 0 = .ok (.aload_n 0, 1) := by decide +kernel
theorem dX4_shutLast_1 : decode cX4_shutLast 1 = .ok (.dup, 1) := by decide +kernel
theorem dX4_shutLast_2 : decode cX4_shutLast 2 = .ok (.getfield 45, 3) := by decide +kernel
theorem dX4_shutLast_5 : decode cX4_shutLast 5 = .ok (.iconst 1, 1) := by decide +kernel
theorem dX4_shutLast_6 : decode cX4_shutLast 6 = .ok (.isub, 1) := by decide +kernel
theorem dX4_shutLast_7 : decode cX4_shutLast 7 = .ok (.putfield 45, 3) := by decide +kernel
theorem dX4_shutLast_10 : decode cX4_shutLast 10 = .ok (.aload_n 0, 1) := by decide +kernel
theorem dX4_shutLast_11 : decode cX4_shutLast 11 = .ok (.aload_n 0, 1) := by decide +kernel
theorem dX4_shutLast_12 : decode cX4_shutLast 12 = .ok (.getfield 29, 3) := by decide +kernel
theorem dX4_shutLast_15 : decode cX4_shutLast 15 = .ok (.aload_n 0, 1) := by decide +kernel
theorem dX4_shutLast_16 : decode cX4_shutLast 16 = .ok (.getfield 45, 3) := by decide +kernel
theorem dX4_shutLast_19 : decode cX4_shutLast 19 = .ok (.iaload, 1) := by decide +kernel
theorem dX4_shutLast_20 : decode cX4_shutLast 20 = .ok (.putfield 39, 3) := by decide +kernel
theorem dX4_shutLast_23 : decode cX4_shutLast 23 = .ok (.aload_n 0, 1) := by decide +kernel
theorem dX4_shutLast_24 : decode cX4_shutLast 24 = .ok (.getfield 26, 3) := by decide +kernel
theorem dX4_shutLast_27 : decode cX4_shutLast 27 = .ok (.aload_n 0, 1) := by decide +kernel
theorem dX4_shutLast_28 : decode cX4_shutLast 28 = .ok (.getfield 45, 3) := by decide +kernel
theorem dX4_shutLast_31 : decode cX4_shutLast 31 = .ok (.iaload, 1) := by decide +kernel
theorem dX4_shutLast_32 : decode cX4_shutLast 32 = .ok (.istore_n 2, 1) := by decide +kernel
theorem dX4_shutLast_33 : decode cX4_shutLast 33 = .ok (.iload_n 2, 1) := by decide +kernel
theorem dX4_shutLast_34 : decode cX4_shutLast 34 = .ok (.iconst (-1), 1) := by decide +kernel
theorem dX4_shutLast_35 : decode cX4_shutLast 35 = .ok (.if_icmp .eq 33, 3) := by decide +kernel
theorem dX4_shutLast_38 : decode cX4_shutLast 38 = .ok (.aload_n 1, 1) := by decide +kernel
theorem dX4_shutLast_39 : decode cX4_shutLast 39 = .ok (.aload_n 0, 1) := by decide +kernel
theorem dX4_shutLast_40 : decode cX4_shutLast 40 = .ok (.getfield 39, 3) := by decide +kernel
theorem dX4_shutLast_43 : decode cX4_shutLast 43 = .ok (.iconst 3, 1) := by decide +kernel
theorem dX4_shutLast_44 : decode cX4_shutLast 44 = .ok (.iload_n 2, 1) := by decide +kernel
theorem dX4_shutLast_45 : decode cX4_shutLast 45 = .ok (.invokevirtual 102, 3) := by decide +kernel
theorem dX4_shutLast_48 : decode cX4_shutLast 48 = .ok (.pop, 1) := by decide +kernel
theorem dX4_shutLast_49 : decode cX4_shutLast 49 = .ok (.aload_n 0, 1) := by decide +kernel
theorem dX4_shutLast_50 : decode cX4_shutLast 50 = .ok (.dup, 1) := by decide +kernel
theorem dX4_shutLast_51 : decode cX4_shutLast 51 = .ok (.getfield 42, 3) := by decide +kernel
theorem dX4_shutLast_54 : decode cX4_shutLast 54 = .ok (.iconst 1, 1) := by decide +kernel
theorem dX4_shutLast_55 : decode cX4_shutLast 55 = .ok (.isub, 1) := by decide +kernel
theorem dX4_shutLast_56 : decode cX4_shutLast 56 = .ok (.putfield 42, 3) := by decide +kernel
theorem dX4_shutLast_59 : decode cX4_shutLast 59 = .ok (.aload_n 0, 1) := by decide +kernel
theorem dX4_shutLast_60 : decode cX4_shutLast 60 = .ok (.getfield 18, 3) := by decide +kernel
theorem dX4_shutLast_63 : decode cX4_shutLast 63 = .ok (.iload_n 2, 1) := by decide +kernel
theorem dX4_shutLast_64 : decode cX4_shutLast 64 = .ok (.iconst 0, 1) := by decide +kernel
theorem dX4_shutLast_65 : decode cX4_shutLast 65 = .ok (.invokevirtual 106, 3) := by decide +kernel
theorem dX4_shutLast_68 : decode cX4_shutLast 68 = .ok (.return_, 1) := by decide +kernel
theorem dX4_itemOf_0 : decode cX4_itemOf 0 = .ok (.iload_n 0, 1) := by decide +kernel
theorem dX4_itemOf_1 : decode cX4_itemOf 1 = .ok (.tableswitch 106 102 119 #[95, 93, 106, 106, 98, 106, 101, 106, 106, 106, 91, 106, 87, 106, 103, 106, 106, 89], 87) := by decide +kernel
theorem dX4_itemOf_88 : decode cX4_itemOf 88 = .ok (.iconst 0, 1) := by decide +kernel
theorem dX4_itemOf_89 : decode cX4_itemOf 89 = .ok (.ireturn, 1) := by decide +kernel
theorem dX4_itemOf_90 : decode cX4_itemOf 90 = .ok (.iconst 1, 1) := by decide +kernel
theorem dX4_itemOf_91 : decode cX4_itemOf 91 = .ok (.ireturn, 1) := by decide +kernel
theorem dX4_itemOf_92 : decode cX4_itemOf 92 = .ok (.iconst 4, 1) := by decide +kernel
theorem dX4_itemOf_93 : decode cX4_itemOf 93 = .ok (.ireturn, 1) := by decide +kernel
theorem dX4_itemOf_94 : decode cX4_itemOf 94 = .ok (.iconst 5, 1) := by decide +kernel
theorem dX4_itemOf_95 : decode cX4_itemOf 95 = .ok (.ireturn, 1) := by decide +kernel
theorem dX4_itemOf_96 : decode cX4_itemOf 96 = .ok (.bipush 6, 2) := by decide +kernel
theorem dX4_itemOf_98 : decode cX4_itemOf 98 = .ok (.ireturn, 1) := by decide +kernel
theorem dX4_itemOf_99 : decode cX4_itemOf 99 = .ok (.bipush 7, 2) := by decide +kernel
theorem dX4_itemOf_101 : decode cX4_itemOf 101 = .ok (.ireturn, 1) := by decide +kernel
theorem dX4_itemOf_102 : decode cX4_itemOf 102 = .ok (.iconst 2, 1) := by decide +kernel
theorem dX4_itemOf_103 : decode cX4_itemOf 103 = .ok (.ireturn, 1) := by decide +kernel
theorem dX4_itemOf_104 : decode cX4_itemOf 104 = .ok (.bipush 8, 2) := by decide +kernel
theorem dX4_itemOf_106 : decode cX4_itemOf 106 = .ok (.ireturn, 1) := by decide +kernel
theorem dX4_itemOf_107 : decode cX4_itemOf 107 = .ok (.iconst (-1), 1) := by decide +kernel
theorem dX4_itemOf_108 : decode cX4_itemOf 108 = .ok (.ireturn, 1) := by decide +kernel
set_option maxRecDepth 20000 in
theorem ggX5_init_X1_init : GoodIn wsX5_init wsX1_init := goodIn_r _ [23, 24, 2, 3, 25, 26, 27, 28, 29, 4, 30, 96, 97] (by decide +kernel) (by decide +kernel)
set_option maxRecDepth 20000 in
theorem gX5_init_X1_init : GoodIn wsX5_init (wsX1_init) := ggX5_init_X1_init
set_option maxRecDepth 20000 in
theorem ggX5_init_X2_init : GoodIn wsX5_init wsX2_init := goodIn_r _ [32, 33, 2, 3, 4, 34, 98, 99, 100, 101, 102, 103, 104, 105, 106, 107] (by decide +kernel) (by decide +kernel)
set_option maxRecDepth 20000 in
theorem gX5_init_X2_init_n35 : GoodIn wsX5_init (wsX2_init) := ggX5_init_X2_init
set_option maxRecDepth 20000 in
theorem ggX5_init_X3_init : GoodIn wsX5_init wsX3_init := goodIn_r _ [36, 37, 2, 3, 4, 38, 39, 40, 41, 42, 8, 9, 43, 44, 45, 46, 22, 23, 24, 25, 26, 27, 28, 29, 30, 108, 109, 110, 111, 112, 113, 114, 115, 96, 97] (by decide +kernel) (by decide +kernel)
set_option maxRecDepth 20000 in
theorem gX5_init_X3_init_n42 : GoodIn wsX5_init (wsX3_init) := ggX5_init_X3_init
set_option maxRecDepth 20000 in
theorem ggX5_init_X5_begin : GoodIn wsX5_init wsX5_begin := goodIn_r _ [51, 5, 6, 10, 11, 12, 16, 20, 52, 53, 54, 55, 56, 57, 58, 9, 59, 30, 60, 61, 62, 63, 64, 65, 66, 67, 15, 68, 69, 70, 71, 72, 73, 74, 75, 76, 77, 78, 79, 80, 81, 34, 82, 83, 84, 85, 19, 86, 87, 45, 88, 89, 90, 91, 92, 93, 94, 95, 96, 97, 98, 99, 100, 101, 102, 103, 104, 105, 106, 107, 108, 109, 110, 111, 112, 113, 114, 115] (by decide +kernel) (by decide +kernel)
set_option maxRecDepth 20000 in
theorem gX5_init_X5_begin : GoodIn wsX5_init (wsV RX5 47 RX5 yX5_begin wsX5_begin) := goodIn_app (goodIn_of _ (by decide +kernel)) ggX5_init_X5_begin
theorem dX5_init_0 : decode cX5_init 0 = .ok (.aload_n 0, 1) := by decide +kernel
theorem dX5_init_1 : decode cX5_init 1 = .ok (.invokespecial 3, 3) := by decide +kernel
theorem dX5_init_4 : decode cX5_init 4 = .ok (.aload_n 0, 1) := by decide +kernel
theorem dX5_init_5 : decode cX5_init 5 = .ok (.iconst 4, 1) := by decide +kernel
theorem dX5_init_6 : decode cX5_init 6 = .ok (.newarray .int, 2) := by decide +kernel
theorem dX5_init_8 : decode cX5_init 8 = .ok (.putfield 9, 3) := by decide +kernel
theorem dX5_init_11 : decode cX5_init 11 = .ok (.aload_n 0, 1) := by decide +kernel
theorem dX5_init_12 : decode cX5_init 12 = .ok (.iconst 3, 1) := by decide +kernel
theorem dX5_init_13 : decode cX5_init 13 = .ok (.newarray .int, 2) := by decide +kernel
theorem dX5_init_15 : decode cX5_init 15 = .ok (.putfield 15, 3) := by decide +kernel
theorem dX5_init_18 : decode cX5_init 18 = .ok (.aload_n 0, 1) := by decide +kernel
theorem dX5_init_19 : decode cX5_init 19 = .ok (.new 18, 3) := by decide +kernel
theorem dX5_init_22 : decode cX5_init 22 = .ok (.dup, 1) := by decide +kernel
theorem dX5_init_23 : decode cX5_init 23 = .ok (.iconst 4, 1) := by decide +kernel
theorem dX5_init_24 : decode cX5_init 24 = .ok (.invokespecial 20, 3) := by decide +kernel
theorem dX5_init_27 : decode cX5_init 27 = .ok (.putfield 23, 3) := by decide +kernel
theorem dX5_init_30 : decode cX5_init 30 = .ok (.aload_n 0, 1) := by decide +kernel
theorem dX5_init_31 : decode cX5_init 31 = .ok (.new 18, 3) := by decide +kernel
theorem dX5_init_34 : decode cX5_init 34 = .ok (.dup, 1) := by decide +kernel
theorem dX5_init_35 : decode cX5_init 35 = .ok (.iconst 3, 1) := by decide +kernel
theorem dX5_init_36 : decode cX5_init 36 = .ok (.invokespecial 20, 3) := by decide +kernel
theorem dX5_init_39 : decode cX5_init 39 = .ok (.putfield 27, 3) := by decide +kernel
theorem dX5_init_42 : decode cX5_init 42 = .ok (.aload_n 0, 1) := by decide +kernel
theorem dX5_init_43 : decode cX5_init 43 = .ok (.new 18, 3) := by decide +kernel
theorem dX5_init_46 : decode cX5_init 46 = .ok (.dup, 1) := by decide +kernel
theorem dX5_init_47 : decode cX5_init 47 = .ok (.iconst 2, 1) := by decide +kernel
theorem dX5_init_48 : decode cX5_init 48 = .ok (.invokespecial 20, 3) := by decide +kernel
theorem dX5_init_51 : decode cX5_init 51 = .ok (.putfield 30, 3) := by decide +kernel
theorem dX5_init_54 : decode cX5_init 54 = .ok (.aload_n 0, 1) := by decide +kernel
theorem dX5_init_55 : decode cX5_init 55 = .ok (.iconst 4, 1) := by decide +kernel
theorem dX5_init_56 : decode cX5_init 56 = .ok (.anewarray 33, 3) := by decide +kernel
theorem dX5_init_59 : decode cX5_init 59 = .ok (.dup, 1) := by decide +kernel
theorem dX5_init_60 : decode cX5_init 60 = .ok (.iconst 0, 1) := by decide +kernel
theorem dX5_init_61 : decode cX5_init 61 = .ok (.new 33, 3) := by decide +kernel
theorem dX5_init_64 : decode cX5_init 64 = .ok (.dup, 1) := by decide +kernel
theorem dX5_init_65 : decode cX5_init 65 = .ok (.invokespecial 35, 3) := by decide +kernel
theorem dX5_init_68 : decode cX5_init 68 = .ok (.aastore, 1) := by decide +kernel
theorem dX5_init_69 : decode cX5_init 69 = .ok (.dup, 1) := by decide +kernel
theorem dX5_init_70 : decode cX5_init 70 = .ok (.iconst 1, 1) := by decide +kernel
theorem dX5_init_71 : decode cX5_init 71 = .ok (.new 33, 3) := by decide +kernel
theorem dX5_init_74 : decode cX5_init 74 = .ok (.dup, 1) := by decide +kernel
theorem dX5_init_75 : decode cX5_init 75 = .ok (.invokespecial 35, 3) := by decide +kernel
theorem dX5_init_78 : decode cX5_init 78 = .ok (.aastore, 1) := by decide +kernel
theorem dX5_init_79 : decode cX5_init 79 = .ok (.dup, 1) := by decide +kernel
theorem dX5_init_80 : decode cX5_init 80 = .ok (.iconst 2, 1) := by decide +kernel
theorem dX5_init_81 : decode cX5_init 81 = .ok (.new 33, 3) := by decide +kernel
theorem dX5_init_84 : decode cX5_init 84 = .ok (.dup, 1) := by decide +kernel
theorem dX5_init_85 : decode cX5_init 85 = .ok (.invokespecial 35, 3) := by decide +kernel
theorem dX5_init_88 : decode cX5_init 88 = .ok (.aastore, 1) := by decide +kernel
theorem dX5_init_89 : decode cX5_init 89 = .ok (.dup, 1) := by decide +kernel
theorem dX5_init_90 : decode cX5_init 90 = .ok (.iconst 3, 1) := by decide +kernel
theorem dX5_init_91 : decode cX5_init 91 = .ok (.new 33, 3) := by decide +kernel
theorem dX5_init_94 : decode cX5_init 94 = .ok (.dup, 1) := by decide +kernel
theorem dX5_init_95 : decode cX5_init 95 = .ok (.invokespecial 35, 3) := by decide +kernel
theorem dX5_init_98 : decode cX5_init 98 = .ok (.aastore, 1) := by decide +kernel
theorem dX5_init_99 : decode cX5_init 99 = .ok (.putfield 36, 3) := by decide +kernel
theorem dX5_init_102 : decode cX5_init 102 = .ok (.aload_n 0, 1) := by decide +kernel
theorem dX5_init_103 : decode cX5_init 103 = .ok (.new 40, 3) := by decide +kernel
theorem dX5_init_106 : decode cX5_init 106 = .ok (.dup, 1) := by decide +kernel
theorem dX5_init_107 : decode cX5_init 107 = .ok (.invokespecial 42, 3) := by decide +kernel
theorem dX5_init_110 : decode cX5_init 110 = .ok (.putfield 43, 3) := by decide +kernel
theorem dX5_init_113 : decode cX5_init 113 = .ok (.aload_n 0, 1) := by decide +kernel
theorem dX5_init_114 : decode cX5_init 114 = .ok (.invokevirtual 47, 3) := by decide +kernel
theorem dX5_init_117 : decode cX5_init 117 = .ok (.return_, 1) := by decide +kernel
set_option maxRecDepth 20000 in
theorem ggX5_begin_J7_fill_53178 : GoodIn wsX5_begin wsJ7_fill_53178 := goodIn_r _ [11] (by decide +kernel) (by decide +kernel)
set_option maxRecDepth 20000 in
theorem gX5_begin_J7_fill_53178 : GoodIn wsX5_begin (va_wsS RX5 50 yJ7_fill_53178 wsJ7_fill_53178) := goodIn_app (goodIn_of _ (by decide +kernel)) ggX5_begin_J7_fill_53178
set_option maxRecDepth 20000 in
theorem ggX5_begin_X1_clear : GoodIn wsX5_begin wsX1_clear := goodIn_r _ [16, 17, 18, 9, 10, 11, 58, 59] (by decide +kernel) (by decide +kernel)
set_option maxRecDepth 20000 in
theorem gX5_begin_X1_clear : GoodIn wsX5_begin (wsV RX5 56 RX1 yX1_clear wsX1_clear) := goodIn_app (goodIn_of _ (by decide +kernel)) ggX5_begin_X1_clear
set_option maxRecDepth 20000 in
theorem ggX5_begin_X1_set : GoodIn wsX5_begin wsX1_set := goodIn_r _ [22, 17, 58, 59] (by decide +kernel) (by decide +kernel)
set_option maxRecDepth 20000 in
theorem gX5_begin_X1_set : GoodIn wsX5_begin (wsV RX5 59 RX1 yX1_set wsX1_set) := goodIn_app (goodIn_of _ (by decide +kernel)) ggX5_begin_X1_set
set_option maxRecDepth 20000 in
theorem ggX5_begin_X2_begin : GoodIn wsX5_begin wsX2_begin := goodIn_r _ [27, 28, 29, 30, 31, 32, 33, 34, 35, 36, 26, 37, 38, 39, 40, 41, 42, 9, 10, 11, 60, 61, 62, 63, 64, 65, 66, 67, 68, 69] (by decide +kernel) (by decide +kernel)
set_option maxRecDepth 20000 in
theorem gX5_begin_X2_begin : GoodIn wsX5_begin (wsV RX5 63 RX2 yX2_begin wsX2_begin) := goodIn_app (goodIn_of _ (by decide +kernel)) ggX5_begin_X2_begin
set_option maxRecDepth 20000 in
theorem ggX5_begin_X3_begin : GoodIn wsX5_begin wsX3_begin := goodIn_r _ [47, 48, 49, 50, 9, 10, 11, 70, 71, 72, 73, 74, 75, 76, 77] (by decide +kernel) (by decide +kernel)
set_option maxRecDepth 20000 in
theorem gX5_begin_X3_begin : GoodIn wsX5_begin (wsV RX5 64 RX3 yX3_begin wsX3_begin) := goodIn_app (goodIn_of _ (by decide +kernel)) ggX5_begin_X3_begin
theorem dX5_begin_0 : decode cX5_begin 0 = .ok (.aload_n 0, 1) := by decide +kernel
theorem dX5_begin_1 : decode cX5_begin 1 = .ok (.getfield 9, 3) := by decide +kernel
theorem dX5_begin_4 : decode cX5_begin 4 = .ok (.iconst 0, 1) := by decide +kernel
theorem dX5_begin_5 : decode cX5_begin 5 = .ok (.invokestatic 50, 3) := by decide +kernel
theorem dX5_begin_8 : decode cX5_begin 8 = .ok (.aload_n 0, 1) := by decide +kernel
theorem dX5_begin_9 : decode cX5_begin 9 = .ok (.getfield 9, 3) := by decide +kernel
theorem dX5_begin_12 : decode cX5_begin 12 = .ok (.iconst 0, 1) := by decide +kernel
theorem dX5_begin_13 : decode cX5_begin 13 = .ok (.iconst 1, 1) := by decide +kernel
theorem dX5_begin_14 : decode cX5_begin 14 = .ok (.iastore, 1) := by decide +kernel
theorem dX5_begin_15 : decode cX5_begin 15 = .ok (.aload_n 0, 1) := by decide +kernel
theorem dX5_begin_16 : decode cX5_begin 16 = .ok (.getfield 15, 3) := by decide +kernel
theorem dX5_begin_19 : decode cX5_begin 19 = .ok (.iconst (-1), 1) := by decide +kernel
theorem dX5_begin_20 : decode cX5_begin 20 = .ok (.invokestatic 50, 3) := by decide +kernel
theorem dX5_begin_23 : decode cX5_begin 23 = .ok (.aload_n 0, 1) := by decide +kernel
theorem dX5_begin_24 : decode cX5_begin 24 = .ok (.getfield 23, 3) := by decide +kernel
theorem dX5_begin_27 : decode cX5_begin 27 = .ok (.invokevirtual 56, 3) := by decide +kernel
theorem dX5_begin_30 : decode cX5_begin 30 = .ok (.iconst 0, 1) := by decide +kernel
theorem dX5_begin_31 : decode cX5_begin 31 = .ok (.istore_n 1, 1) := by decide +kernel
theorem dX5_begin_32 : decode cX5_begin 32 = .ok (.iload_n 1, 1) := by decide +kernel
theorem dX5_begin_33 : decode cX5_begin 33 = .ok (.iconst 4, 1) := by decide +kernel
theorem dX5_begin_34 : decode cX5_begin 34 = .ok (.if_icmp .ge 19, 3) := by decide +kernel
theorem dX5_begin_37 : decode cX5_begin 37 = .ok (.aload_n 0, 1) := by decide +kernel
theorem dX5_begin_38 : decode cX5_begin 38 = .ok (.getfield 23, 3) := by decide +kernel
theorem dX5_begin_41 : decode cX5_begin 41 = .ok (.iload_n 1, 1) := by decide +kernel
theorem dX5_begin_42 : decode cX5_begin 42 = .ok (.iload_n 1, 1) := by decide +kernel
theorem dX5_begin_43 : decode cX5_begin 43 = .ok (.iconst 1, 1) := by decide +kernel
theorem dX5_begin_44 : decode cX5_begin 44 = .ok (.invokevirtual 59, 3) := by decide +kernel
theorem dX5_begin_47 : decode cX5_begin 47 = .ok (.iinc 1 1, 3) := by decide +kernel
theorem dX5_begin_50 : decode cX5_begin 50 = .ok (.goto (-18), 3) := by decide +kernel
theorem dX5_begin_53 : decode cX5_begin 53 = .ok (.aload_n 0, 1) := by decide +kernel
theorem dX5_begin_54 : decode cX5_begin 54 = .ok (.getfield 27, 3) := by decide +kernel
theorem dX5_begin_57 : decode cX5_begin 57 = .ok (.invokevirtual 56, 3) := by decide +kernel
theorem dX5_begin_60 : decode cX5_begin 60 = .ok (.aload_n 0, 1) := by decide +kernel
theorem dX5_begin_61 : decode cX5_begin 61 = .ok (.getfield 30, 3) := by decide +kernel
theorem dX5_begin_64 : decode cX5_begin 64 = .ok (.invokevirtual 56, 3) := by decide +kernel
theorem dX5_begin_67 : decode cX5_begin 67 = .ok (.iconst 0, 1) := by decide +kernel
theorem dX5_begin_68 : decode cX5_begin 68 = .ok (.istore_n 1, 1) := by decide +kernel
theorem dX5_begin_69 : decode cX5_begin 69 = .ok (.iload_n 1, 1) := by decide +kernel
theorem dX5_begin_70 : decode cX5_begin 70 = .ok (.iconst 4, 1) := by decide +kernel
theorem dX5_begin_71 : decode cX5_begin 71 = .ok (.if_icmp .ge 18, 3) := by decide +kernel
theorem dX5_begin_74 : decode cX5_begin 74 = .ok (.aload_n 0, 1) := by decide +kernel
theorem dX5_begin_75 : decode cX5_begin 75 = .ok (.getfield 36, 3) := by decide +kernel
theorem dX5_begin_78 : decode cX5_begin 78 = .ok (.iload_n 1, 1) := by decide +kernel
theorem dX5_begin_79 : decode cX5_begin 79 = .ok (.aaload, 1) := by decide +kernel
theorem dX5_begin_80 : decode cX5_begin 80 = .ok (.invokevirtual 63, 3) := by decide +kernel
theorem dX5_begin_83 : decode cX5_begin 83 = .ok (.iinc 1 1, 3) := by decide +kernel
theorem dX5_begin_86 : decode cX5_begin 86 = .ok (.goto (-17), 3) := by decide +kernel
theorem dX5_begin_89 : decode cX5_begin 89 = .ok (.aload_n 0, 1) := by decide +kernel
theorem dX5_begin_90 : decode cX5_begin 90 = .ok (.getfield 43, 3) := by decide +kernel
theorem dX5_begin_93 : decode cX5_begin 93 = .ok (.invokevirtual 64, 3) := by decide +kernel
theorem dX5_begin_96 : decode cX5_begin 96 = .ok (.return_, 1) := by decide +kernel
set_option maxRecDepth 20000 in
theorem ggX5_copy_X1_copyRows : GoodIn wsX5_copy wsX1_copyRows := goodIn_r _ [16, 17, 18, 3, 4, 5, 57, 58] (by decide +kernel) (by decide +kernel)
set_option maxRecDepth 20000 in
theorem gX5_copy_X1_copyRows : GoodIn wsX5_copy (wsV RX5 71 RX1 yX1_copyRows wsX1_copyRows) := goodIn_app (goodIn_of _ (by decide +kernel)) ggX5_copy_X1_copyRows
set_option maxRecDepth 20000 in
theorem ggX5_copy_X2_copy : GoodIn wsX5_copy wsX2_copy := goodIn_r _ [23, 24, 25, 26, 27, 28, 29, 30, 3, 4, 5, 31, 32, 33, 34, 59, 60, 61, 62, 63, 64, 65, 66, 67, 68] (by decide +kernel) (by decide +kernel)
set_option maxRecDepth 20000 in
theorem gX5_copy_X2_copy : GoodIn wsX5_copy (wsV RX5 75 RX2 yX2_copy wsX2_copy) := goodIn_app (goodIn_of _ (by decide +kernel)) ggX5_copy_X2_copy
set_option maxRecDepth 20000 in
theorem ggX5_copy_X3_copy : GoodIn wsX5_copy wsX3_copy := goodIn_r _ [39, 40, 41, 42, 3, 4, 5, 43, 44, 45, 46, 47, 48, 49, 13, 14, 15, 16, 17, 18, 69, 70, 71, 72, 73, 74, 75, 76, 57, 58] (by decide +kernel) (by decide +kernel)
set_option maxRecDepth 20000 in
theorem gX5_copy_X3_copy : GoodIn wsX5_copy (wsV RX5 79 RX3 yX3_copy wsX3_copy) := goodIn_app (goodIn_of _ (by decide +kernel)) ggX5_copy_X3_copy
theorem dX5_copy_0 : decode cX5_copy 0 = .ok (.aload_n 1, 1) := by decide +kernel
theorem dX5_copy_1 : decode cX5_copy 1 = .ok (.getfield 9, 3) := by decide +kernel
theorem dX5_copy_4 : decode cX5_copy 4 = .ok (.iconst 0, 1) := by decide +kernel
theorem dX5_copy_5 : decode cX5_copy 5 = .ok (.aload_n 0, 1) := by decide +kernel
theorem dX5_copy_6 : decode cX5_copy 6 = .ok (.getfield 9, 3) := by decide +kernel
theorem dX5_copy_9 : decode cX5_copy 9 = .ok (.iconst 0, 1) := by decide +kernel
theorem dX5_copy_10 : decode cX5_copy 10 = .ok (.iconst 4, 1) := by decide +kernel
theorem dX5_copy_11 : decode cX5_copy 11 = .ok (.invokestatic 65, 3) := by decide +kernel
theorem dX5_copy_14 : decode cX5_copy 14 = .ok (.aload_n 1, 1) := by decide +kernel
theorem dX5_copy_15 : decode cX5_copy 15 = .ok (.getfield 15, 3) := by decide +kernel
theorem dX5_copy_18 : decode cX5_copy 18 = .ok (.iconst 0, 1) := by decide +kernel
theorem dX5_copy_19 : decode cX5_copy 19 = .ok (.aload_n 0, 1) := by decide +kernel
theorem dX5_copy_20 : decode cX5_copy 20 = .ok (.getfield 15, 3) := by decide +kernel
theorem dX5_copy_23 : decode cX5_copy 23 = .ok (.iconst 0, 1) := by decide +kernel
theorem dX5_copy_24 : decode cX5_copy 24 = .ok (.iconst 3, 1) := by decide +kernel
theorem dX5_copy_25 : decode cX5_copy 25 = .ok (.invokestatic 65, 3) := by decide +kernel
theorem dX5_copy_28 : decode cX5_copy 28 = .ok (.aload_n 0, 1) := by decide +kernel
theorem dX5_copy_29 : decode cX5_copy 29 = .ok (.getfield 23, 3) := by decide +kernel
theorem dX5_copy_32 : decode cX5_copy 32 = .ok (.aload_n 1, 1) := by decide +kernel
theorem dX5_copy_33 : decode cX5_copy 33 = .ok (.getfield 23, 3) := by decide +kernel
theorem dX5_copy_36 : decode cX5_copy 36 = .ok (.iconst 4, 1) := by decide +kernel
theorem dX5_copy_37 : decode cX5_copy 37 = .ok (.invokevirtual 71, 3) := by decide +kernel
theorem dX5_copy_40 : decode cX5_copy 40 = .ok (.aload_n 0, 1) := by decide +kernel
theorem dX5_copy_41 : decode cX5_copy 41 = .ok (.getfield 27, 3) := by decide +kernel
theorem dX5_copy_44 : decode cX5_copy 44 = .ok (.aload_n 1, 1) := by decide +kernel
theorem dX5_copy_45 : decode cX5_copy 45 = .ok (.getfield 27, 3) := by decide +kernel
theorem dX5_copy_48 : decode cX5_copy 48 = .ok (.iconst 3, 1) := by decide +kernel
theorem dX5_copy_49 : decode cX5_copy 49 = .ok (.invokevirtual 71, 3) := by decide +kernel
theorem dX5_copy_52 : decode cX5_copy 52 = .ok (.aload_n 0, 1) := by decide +kernel
theorem dX5_copy_53 : decode cX5_copy 53 = .ok (.getfield 30, 3) := by decide +kernel
theorem dX5_copy_56 : decode cX5_copy 56 = .ok (.aload_n 1, 1) := by decide +kernel
theorem dX5_copy_57 : decode cX5_copy 57 = .ok (.getfield 30, 3) := by decide +kernel
theorem dX5_copy_60 : decode cX5_copy 60 = .ok (.iconst 2, 1) := by decide +kernel
theorem dX5_copy_61 : decode cX5_copy 61 = .ok (.invokevirtual 71, 3) := by decide +kernel
theorem dX5_copy_64 : decode cX5_copy 64 = .ok (.iconst 0, 1) := by decide +kernel
theorem dX5_copy_65 : decode cX5_copy 65 = .ok (.istore_n 2, 1) := by decide +kernel
theorem dX5_copy_66 : decode cX5_copy 66 = .ok (.iload_n 2, 1) := by decide +kernel
theorem dX5_copy_67 : decode cX5_copy 67 = .ok (.iconst 4, 1) := by decide +kernel
theorem dX5_copy_68 : decode cX5_copy 68 = .ok (.if_icmp .ge 24, 3) := by decide +kernel
theorem dX5_copy_71 : decode cX5_copy 71 = .ok (.aload_n 0, 1) := by decide +kernel
theorem dX5_copy_72 : decode cX5_copy 72 = .ok (.getfield 36, 3) := by decide +kernel
theorem dX5_copy_75 : decode cX5_copy 75 = .ok (.iload_n 2, 1) := by decide +kernel
theorem dX5_copy_76 : decode cX5_copy 76 = .ok (.aaload, 1) := by decide +kernel
theorem dX5_copy_77 : decode cX5_copy 77 = .ok (.aload_n 1, 1) := by decide +kernel
theorem dX5_copy_78 : decode cX5_copy 78 = .ok (.getfield 36, 3) := by decide +kernel
theorem dX5_copy_81 : decode cX5_copy 81 = .ok (.iload_n 2, 1) := by decide +kernel
theorem dX5_copy_82 : decode cX5_copy 82 = .ok (.aaload, 1) := by decide +kernel
theorem dX5_copy_83 : decode cX5_copy 83 = .ok (.invokevirtual 75, 3) := by decide +kernel
theorem dX5_copy_86 : decode cX5_copy 86 = .ok (.iinc 2 1, 3) := by decide +kernel
theorem dX5_copy_89 : decode cX5_copy 89 = .ok (.goto (-23), 3) := by decide +kernel
theorem dX5_copy_92 : decode cX5_copy 92 = .ok (.aload_n 0, 1) := by decide +kernel
theorem dX5_copy_93 : decode cX5_copy 93 = .ok (.getfield 43, 3) := by decide +kernel
theorem dX5_copy_96 : decode cX5_copy 96 = .ok (.aload_n 1, 1) := by decide +kernel
theorem dX5_copy_97 : decode cX5_copy 97 = .ok (.getfield 43, 3) := by decide +kernel
theorem dX5_copy_100 : decode cX5_copy 100 = .ok (.invokevirtual 79, 3) := by decide +kernel
theorem dX5_copy_103 : decode cX5_copy 103 = .ok (.return_, 1) := by decide +kernel
theorem dX5_goes_0 : decode cX5_goes 0 = .ok (.aload_n 0, 1) := by decide +kernel
theorem dX5_goes_1 : decode cX5_goes 1 = .ok (.getfield 9, 3) := by decide +kernel
theorem dX5_goes_4 : decode cX5_goes 4 = .ok (.iload_n 1, 1) := by decide +kernel
theorem dX5_goes_5 : decode cX5_goes 5 = .ok (.iaload, 1) := by decide +kernel
theorem dX5_goes_6 : decode cX5_goes 6 = .ok (.iconst 1, 1) := by decide +kernel
theorem dX5_goes_7 : decode cX5_goes 7 = .ok (.if_icmp .ne 7, 3) := by decide +kernel
theorem dX5_goes_10 : decode cX5_goes 10 = .ok (.iconst 1, 1) := by decide +kernel
theorem dX5_goes_11 : decode cX5_goes 11 = .ok (.goto 4, 3) := by decide +kernel
theorem dX5_goes_14 : decode cX5_goes 14 = .ok (.iconst 0, 1) := by decide +kernel
theorem dX5_goes_15 : decode cX5_goes 15 = .ok (.ireturn, 1) := by decide +kernel
theorem dX5_threadsThat_0 : decode cX5_threadsThat 0 = .ok (.iconst 0, 1) := by decide +kernel
theorem dX5_threadsThat_1 : decode cX5_threadsThat 1 = .ok (.istore_n 2, 1) := by decide +kernel
theorem dX5_threadsThat_2 : decode cX5_threadsThat 2 = .ok (.iconst 0, 1) := by decide +kernel
theorem dX5_threadsThat_3 : decode cX5_threadsThat 3 = .ok (.istore_n 3, 1) := by decide +kernel
theorem dX5_threadsThat_4 : decode cX5_threadsThat 4 = .ok (.iload_n 3, 1) := by decide +kernel
theorem dX5_threadsThat_5 : decode cX5_threadsThat 5 = .ok (.iconst 4, 1) := by decide +kernel
theorem dX5_threadsThat_6 : decode cX5_threadsThat 6 = .ok (.if_icmp .ge 25, 3) := by decide +kernel
theorem dX5_threadsThat_9 : decode cX5_threadsThat 9 = .ok (.aload_n 0, 1) := by decide +kernel
theorem dX5_threadsThat_10 : decode cX5_threadsThat 10 = .ok (.getfield 9, 3) := by decide +kernel
theorem dX5_threadsThat_13 : decode cX5_threadsThat 13 = .ok (.iload_n 3, 1) := by decide +kernel
theorem dX5_threadsThat_14 : decode cX5_threadsThat 14 = .ok (.iaload, 1) := by decide +kernel
theorem dX5_threadsThat_15 : decode cX5_threadsThat 15 = .ok (.iload_n 1, 1) := by decide +kernel
theorem dX5_threadsThat_16 : decode cX5_threadsThat 16 = .ok (.if_icmp .ne 9, 3) := by decide +kernel
theorem dX5_threadsThat_19 : decode cX5_threadsThat 19 = .ok (.iload_n 2, 1) := by decide +kernel
theorem dX5_threadsThat_20 : decode cX5_threadsThat 20 = .ok (.iconst 1, 1) := by decide +kernel
theorem dX5_threadsThat_21 : decode cX5_threadsThat 21 = .ok (.iload_n 3, 1) := by decide +kernel
theorem dX5_threadsThat_22 : decode cX5_threadsThat 22 = .ok (.ishl, 1) := by decide +kernel
theorem dX5_threadsThat_23 : decode cX5_threadsThat 23 = .ok (.ior, 1) := by decide +kernel
theorem dX5_threadsThat_24 : decode cX5_threadsThat 24 = .ok (.istore_n 2, 1) := by decide +kernel
theorem dX5_threadsThat_25 : decode cX5_threadsThat 25 = .ok (.iinc 3 1, 3) := by decide +kernel
theorem dX5_threadsThat_28 : decode cX5_threadsThat 28 = .ok (.goto (-24), 3) := by decide +kernel
theorem dX5_threadsThat_31 : decode cX5_threadsThat 31 = .ok (.iload_n 2, 1) := by decide +kernel
theorem dX5_threadsThat_32 : decode cX5_threadsThat 32 = .ok (.ireturn, 1) := by decide +kernel
set_option maxRecDepth 20000 in
theorem ggX5_heldLocks_X5_locksOf : GoodIn wsX5_heldLocks wsX5_locksOf := goodIn_r _ [5, 6, 7, 8, 9, 10, 11, 12, 13] (by decide +kernel) (by decide +kernel)
set_option maxRecDepth 20000 in
theorem gX5_heldLocks_X5_locksOf : GoodIn wsX5_heldLocks (wsV RX5 82 RX5 yX5_locksOf wsX5_locksOf) := goodIn_app (goodIn_of _ (by decide +kernel)) ggX5_heldLocks_X5_locksOf
theorem dX5_heldLocks_0 : decode cX5_heldLocks 0 = .ok (.iconst 0, 1) := by decide +kernel
theorem dX5_heldLocks_1 : decode cX5_heldLocks 1 = .ok (.istore_n 1, 1) := by decide +kernel
theorem dX5_heldLocks_2 : decode cX5_heldLocks 2 = .ok (.iconst 0, 1) := by decide +kernel
theorem dX5_heldLocks_3 : decode cX5_heldLocks 3 = .ok (.istore_n 2, 1) := by decide +kernel
theorem dX5_heldLocks_4 : decode cX5_heldLocks 4 = .ok (.iload_n 2, 1) := by decide +kernel
theorem dX5_heldLocks_5 : decode cX5_heldLocks 5 = .ok (.iconst 4, 1) := by decide +kernel
theorem dX5_heldLocks_6 : decode cX5_heldLocks 6 = .ok (.if_icmp .ge 17, 3) := by decide +kernel
theorem dX5_heldLocks_9 : decode cX5_heldLocks 9 = .ok (.iload_n 1, 1) := by decide +kernel
theorem dX5_heldLocks_10 : decode cX5_heldLocks 10 = .ok (.aload_n 0, 1) := by decide +kernel
theorem dX5_heldLocks_11 : decode cX5_heldLocks 11 = .ok (.iload_n 2, 1) := by decide +kernel
theorem dX5_heldLocks_12 : decode cX5_heldLocks 12 = .ok (.invokevirtual 82, 3) := by decide +kernel
theorem dX5_heldLocks_15 : decode cX5_heldLocks 15 = .ok (.ior, 1) := by decide +kernel
theorem dX5_heldLocks_16 : decode cX5_heldLocks 16 = .ok (.istore_n 1, 1) := by decide +kernel
theorem dX5_heldLocks_17 : decode cX5_heldLocks 17 = .ok (.iinc 2 1, 3) := by decide +kernel
theorem dX5_heldLocks_20 : decode cX5_heldLocks 20 = .ok (.goto (-16), 3) := by decide +kernel
theorem dX5_heldLocks_23 : decode cX5_heldLocks 23 = .ok (.iload_n 1, 1) := by decide +kernel
theorem dX5_heldLocks_24 : decode cX5_heldLocks 24 = .ok (.ireturn, 1) := by decide +kernel
theorem dX5_promotionsOfAll_0 : decode cX5_promotionsOfAll 0 = .ok (.iconst 0, 1) := by decide +kernel
theorem dX5_promotionsOfAll_1 : decode cX5_promotionsOfAll 1 = .ok (.istore_n 1, 1) := by decide +kernel
theorem dX5_promotionsOfAll_2 : decode cX5_promotionsOfAll 2 = .ok (.iconst 0, 1) := by decide +kernel
theorem dX5_promotionsOfAll_3 : decode cX5_promotionsOfAll 3 = .ok (.istore_n 2, 1) := by decide +kernel
theorem dX5_promotionsOfAll_4 : decode cX5_promotionsOfAll 4 = .ok (.iload_n 2, 1) := by decide +kernel
theorem dX5_promotionsOfAll_5 : decode cX5_promotionsOfAll 5 = .ok (.iconst 4, 1) := by decide +kernel
theorem dX5_promotionsOfAll_6 : decode cX5_promotionsOfAll 6 = .ok (.if_icmp .ge 21, 3) := by decide +kernel
theorem dX5_promotionsOfAll_9 : decode cX5_promotionsOfAll 9 = .ok (.iload_n 1, 1) := by decide +kernel
theorem dX5_promotionsOfAll_10 : decode cX5_promotionsOfAll 10 = .ok (.aload_n 0, 1) := by decide +kernel
theorem dX5_promotionsOfAll_11 : decode cX5_promotionsOfAll 11 = .ok (.getfield 36, 3) := by decide +kernel
theorem dX5_promotionsOfAll_14 : decode cX5_promotionsOfAll 14 = .ok (.iload_n 2, 1) := by decide +kernel
theorem dX5_promotionsOfAll_15 : decode cX5_promotionsOfAll 15 = .ok (.aaload, 1) := by decide +kernel
theorem dX5_promotionsOfAll_16 : decode cX5_promotionsOfAll 16 = .ok (.getfield 86, 3) := by decide +kernel
theorem dX5_promotionsOfAll_19 : decode cX5_promotionsOfAll 19 = .ok (.iadd, 1) := by decide +kernel
theorem dX5_promotionsOfAll_20 : decode cX5_promotionsOfAll 20 = .ok (.istore_n 1, 1) := by decide +kernel
theorem dX5_promotionsOfAll_21 : decode cX5_promotionsOfAll 21 = .ok (.iinc 2 1, 3) := by decide +kernel
theorem dX5_promotionsOfAll_24 : decode cX5_promotionsOfAll 24 = .ok (.goto (-20), 3) := by decide +kernel
theorem dX5_promotionsOfAll_27 : decode cX5_promotionsOfAll 27 = .ok (.iload_n 1, 1) := by decide +kernel
theorem dX5_promotionsOfAll_28 : decode cX5_promotionsOfAll 28 = .ok (.ireturn, 1) := by decide +kernel
set_option maxRecDepth 20000 in
theorem ggX5_canBe_X5_goes : GoodIn wsX5_canBe wsX5_goes := goodIn_r _ [7, 2, 12, 13, 14, 15, 16, 17, 18] (by decide +kernel) (by decide +kernel)
set_option maxRecDepth 20000 in
theorem gX5_canBe_X5_goes : GoodIn wsX5_canBe (wsV RX5 90 RX5 yX5_goes wsX5_goes) := goodIn_app (goodIn_of _ (by decide +kernel)) ggX5_canBe_X5_goes
set_option maxRecDepth 20000 in
theorem ggX5_canBe_X5_locksOf : GoodIn wsX5_canBe wsX5_locksOf := goodIn_r _ [11, 1, 12, 13, 14, 15, 16, 17, 18] (by decide +kernel) (by decide +kernel)
set_option maxRecDepth 20000 in
theorem gX5_canBe_X5_locksOf : GoodIn wsX5_canBe (wsV RX5 82 RX5 yX5_locksOf wsX5_locksOf) := goodIn_app (goodIn_of _ (by decide +kernel)) ggX5_canBe_X5_locksOf
theorem dX5_canBe_0 : decode cX5_canBe 0 = .ok (.aload_n 0, 1) := by decide +kernel
theorem dX5_canBe_1 : decode cX5_canBe 1 = .ok (.iload_n 1, 1) := by decide +kernel
theorem dX5_canBe_2 : decode cX5_canBe 2 = .ok (.invokevirtual 90, 3) := by decide +kernel
theorem dX5_canBe_5 : decode cX5_canBe 5 = .ok (.ifCond .ne 5, 3) := by decide +kernel
theorem dX5_canBe_8 : decode cX5_canBe 8 = .ok (.iconst 0, 1) := by decide +kernel
theorem dX5_canBe_9 : decode cX5_canBe 9 = .ok (.ireturn, 1) := by decide +kernel
theorem dX5_canBe_10 : decode cX5_canBe 10 = .ok (.iload_n 2, 1) := by decide +kernel
theorem dX5_canBe_11 : decode cX5_canBe 11 = .ok (.tableswitch 111 2 7 #[37, 53, 111, 111, 69, 84], 37) := by decide +kernel
theorem dX5_canBe_48 : decode cX5_canBe 48 = .ok (.aload_n 0, 1) := by decide +kernel
theorem dX5_canBe_49 : decode cX5_canBe 49 = .ok (.getfield 15, 3) := by decide +kernel
theorem dX5_canBe_52 : decode cX5_canBe 52 = .ok (.iload_n 3, 1) := by decide +kernel
theorem dX5_canBe_53 : decode cX5_canBe 53 = .ok (.iaload, 1) := by decide +kernel
theorem dX5_canBe_54 : decode cX5_canBe 54 = .ok (.iconst (-1), 1) := by decide +kernel
theorem dX5_canBe_55 : decode cX5_canBe 55 = .ok (.if_icmp .ne 7, 3) := by decide +kernel
theorem dX5_canBe_58 : decode cX5_canBe 58 = .ok (.iconst 1, 1) := by decide +kernel
theorem dX5_canBe_59 : decode cX5_canBe 59 = .ok (.goto 4, 3) := by decide +kernel
theorem dX5_canBe_62 : decode cX5_canBe 62 = .ok (.iconst 0, 1) := by decide +kernel
theorem dX5_canBe_63 : decode cX5_canBe 63 = .ok (.ireturn, 1) := by decide +kernel
theorem dX5_canBe_64 : decode cX5_canBe 64 = .ok (.aload_n 0, 1) := by decide +kernel
theorem dX5_canBe_65 : decode cX5_canBe 65 = .ok (.getfield 15, 3) := by decide +kernel
theorem dX5_canBe_68 : decode cX5_canBe 68 = .ok (.iload_n 3, 1) := by decide +kernel
theorem dX5_canBe_69 : decode cX5_canBe 69 = .ok (.iaload, 1) := by decide +kernel
theorem dX5_canBe_70 : decode cX5_canBe 70 = .ok (.iload_n 1, 1) := by decide +kernel
theorem dX5_canBe_71 : decode cX5_canBe 71 = .ok (.if_icmp .ne 7, 3) := by decide +kernel
theorem dX5_canBe_74 : decode cX5_canBe 74 = .ok (.iconst 1, 1) := by decide +kernel
theorem dX5_canBe_75 : decode cX5_canBe 75 = .ok (.goto 4, 3) := by decide +kernel
theorem dX5_canBe_78 : decode cX5_canBe 78 = .ok (.iconst 0, 1) := by decide +kernel
theorem dX5_canBe_79 : decode cX5_canBe 79 = .ok (.ireturn, 1) := by decide +kernel
theorem dX5_canBe_80 : decode cX5_canBe 80 = .ok (.aload_n 0, 1) := by decide +kernel
theorem dX5_canBe_81 : decode cX5_canBe 81 = .ok (.getfield 9, 3) := by decide +kernel
theorem dX5_canBe_84 : decode cX5_canBe 84 = .ok (.iload_n 3, 1) := by decide +kernel
theorem dX5_canBe_85 : decode cX5_canBe 85 = .ok (.iaload, 1) := by decide +kernel
theorem dX5_canBe_86 : decode cX5_canBe 86 = .ok (.ifCond .ne 7, 3) := by decide +kernel
theorem dX5_canBe_89 : decode cX5_canBe 89 = .ok (.iconst 1, 1) := by decide +kernel
theorem dX5_canBe_90 : decode cX5_canBe 90 = .ok (.goto 4, 3) := by decide +kernel
theorem dX5_canBe_93 : decode cX5_canBe 93 = .ok (.iconst 0, 1) := by decide +kernel
theorem dX5_canBe_94 : decode cX5_canBe 94 = .ok (.ireturn, 1) := by decide +kernel
theorem dX5_canBe_95 : decode cX5_canBe 95 = .ok (.iload_n 3, 1) := by decide +kernel
theorem dX5_canBe_96 : decode cX5_canBe 96 = .ok (.iload_n 1, 1) := by decide +kernel
theorem dX5_canBe_97 : decode cX5_canBe 97 = .ok (.if_icmp .eq 23, 3) := by decide +kernel
theorem dX5_canBe_100 : decode cX5_canBe 100 = .ok (.aload_n 0, 1) := by decide +kernel
theorem dX5_canBe_101 : decode cX5_canBe 101 = .ok (.iload_n 3, 1) := by decide +kernel
theorem dX5_canBe_102 : decode cX5_canBe 102 = .ok (.invokevirtual 90, 3) := by decide +kernel
theorem dX5_canBe_105 : decode cX5_canBe 105 = .ok (.ifCond .eq 15, 3) := by decide +kernel
theorem dX5_canBe_108 : decode cX5_canBe 108 = .ok (.aload_n 0, 1) := by decide +kernel
theorem dX5_canBe_109 : decode cX5_canBe 109 = .ok (.iload_n 3, 1) := by decide +kernel
theorem dX5_canBe_110 : decode cX5_canBe 110 = .ok (.invokevirtual 82, 3) := by decide +kernel
theorem dX5_canBe_113 : decode cX5_canBe 113 = .ok (.ifCond .ne 7, 3) := by decide +kernel
theorem dX5_canBe_116 : decode cX5_canBe 116 = .ok (.iconst 1, 1) := by decide +kernel
theorem dX5_canBe_117 : decode cX5_canBe 117 = .ok (.goto 4, 3) := by decide +kernel
theorem dX5_canBe_120 : decode cX5_canBe 120 = .ok (.iconst 0, 1) := by decide +kernel
theorem dX5_canBe_121 : decode cX5_canBe 121 = .ok (.ireturn, 1) := by decide +kernel
theorem dX5_canBe_122 : decode cX5_canBe 122 = .ok (.iconst 1, 1) := by decide +kernel
theorem dX5_canBe_123 : decode cX5_canBe 123 = .ok (.ireturn, 1) := by decide +kernel
set_option maxRecDepth 20000 in
theorem ggX5_stepIsMuch_X1_number : GoodIn wsX5_stepIsMuch wsX1_number := goodIn_r _ [7, 8, 16, 17] (by decide +kernel) (by decide +kernel)
set_option maxRecDepth 20000 in
theorem gX5_stepIsMuch_X1_number : GoodIn wsX5_stepIsMuch (wsV RX5 94 RX1 yX1_number wsX1_number) := goodIn_app (goodIn_of _ (by decide +kernel)) ggX5_stepIsMuch_X1_number
theorem dX5_stepIsMuch_0 : decode cX5_stepIsMuch 0 = .ok (.iload_n 2, 1) := by decide +kernel
theorem dX5_stepIsMuch_1 : decode cX5_stepIsMuch 1 = .ok (.iconst 3, 1) := by decide +kernel
theorem dX5_stepIsMuch_2 : decode cX5_stepIsMuch 2 = .ok (.if_icmp .eq 14, 3) := by decide +kernel
theorem dX5_stepIsMuch_5 : decode cX5_stepIsMuch 5 = .ok (.iload_n 2, 1) := by decide +kernel
theorem dX5_stepIsMuch_6 : decode cX5_stepIsMuch 6 = .ok (.iconst 4, 1) := by decide +kernel
theorem dX5_stepIsMuch_7 : decode cX5_stepIsMuch 7 = .ok (.if_icmp .eq 9, 3) := by decide +kernel
theorem dX5_stepIsMuch_10 : decode cX5_stepIsMuch 10 = .ok (.iload_n 2, 1) := by decide +kernel
theorem dX5_stepIsMuch_11 : decode cX5_stepIsMuch 11 = .ok (.bipush 6, 2) := by decide +kernel
theorem dX5_stepIsMuch_13 : decode cX5_stepIsMuch 13 = .ok (.if_icmp .ne 7, 3) := by decide +kernel
theorem dX5_stepIsMuch_16 : decode cX5_stepIsMuch 16 = .ok (.iconst 1, 1) := by decide +kernel
theorem dX5_stepIsMuch_17 : decode cX5_stepIsMuch 17 = .ok (.goto 4, 3) := by decide +kernel
theorem dX5_stepIsMuch_20 : decode cX5_stepIsMuch 20 = .ok (.iconst 0, 1) := by decide +kernel
theorem dX5_stepIsMuch_21 : decode cX5_stepIsMuch 21 = .ok (.istore_n 3, 1) := by decide +kernel
theorem dX5_stepIsMuch_22 : decode cX5_stepIsMuch 22 = .ok (.iload_n 3, 1) := by decide +kernel
theorem dX5_stepIsMuch_23 : decode cX5_stepIsMuch 23 = .ok (.ifCond .eq 21, 3) := by decide +kernel
theorem dX5_stepIsMuch_26 : decode cX5_stepIsMuch 26 = .ok (.aload_n 0, 1) := by decide +kernel
theorem dX5_stepIsMuch_27 : decode cX5_stepIsMuch 27 = .ok (.getfield 23, 3) := by decide +kernel
theorem dX5_stepIsMuch_30 : decode cX5_stepIsMuch 30 = .ok (.iload_n 1, 1) := by decide +kernel
theorem dX5_stepIsMuch_31 : decode cX5_stepIsMuch 31 = .ok (.iload_n 1, 1) := by decide +kernel
theorem dX5_stepIsMuch_32 : decode cX5_stepIsMuch 32 = .ok (.invokevirtual 94, 3) := by decide +kernel
theorem dX5_stepIsMuch_35 : decode cX5_stepIsMuch 35 = .ok (.ldc 98, 2) := by decide +kernel
theorem dX5_stepIsMuch_37 : decode cX5_stepIsMuch 37 = .ok (.if_icmp .ne 7, 3) := by decide +kernel
theorem dX5_stepIsMuch_40 : decode cX5_stepIsMuch 40 = .ok (.iconst 1, 1) := by decide +kernel
theorem dX5_stepIsMuch_41 : decode cX5_stepIsMuch 41 = .ok (.goto 4, 3) := by decide +kernel
theorem dX5_stepIsMuch_44 : decode cX5_stepIsMuch 44 = .ok (.iconst 0, 1) := by decide +kernel
theorem dX5_stepIsMuch_45 : decode cX5_stepIsMuch 45 = .ok (.ireturn, 1) := by decide +kernel
set_option maxRecDepth 20000 in
theorem ggX5_come_X3_hasRoom : GoodIn wsX5_come wsX3_hasRoom := goodIn_r _ [9, 10, 137, 138, 139, 140, 141, 142, 143, 144] (by decide +kernel) (by decide +kernel)
set_option maxRecDepth 20000 in
theorem gX5_come_X3_hasRoom : GoodIn wsX5_come (wsV RX5 99 RX3 yX3_hasRoom wsX3_hasRoom) := goodIn_app (goodIn_of _ (by decide +kernel)) ggX5_come_X3_hasRoom
set_option maxRecDepth 20000 in
theorem ggX5_come_X5_takeIn : GoodIn wsX5_come wsX5_takeIn := goodIn_r _ [15, 3, 16, 17, 18, 19, 20, 21, 22, 23, 24, 25, 26, 27, 28, 29, 30, 31, 32, 33, 34, 35, 36, 37, 130, 131, 132, 133, 134, 135, 136, 145, 146] (by decide +kernel) (by decide +kernel)
set_option maxRecDepth 20000 in
theorem gX5_come_X5_takeIn : GoodIn wsX5_come (wsV RX5 103 RX5 yX5_takeIn wsX5_takeIn) := goodIn_app (goodIn_of _ (by decide +kernel)) ggX5_come_X5_takeIn
set_option maxRecDepth 20000 in
theorem ggX5_come_X5_locksOf : GoodIn wsX5_come wsX5_locksOf := goodIn_r _ [41, 17, 130, 131, 132, 133, 134, 135, 136] (by decide +kernel) (by decide +kernel)
set_option maxRecDepth 20000 in
theorem gX5_come_X5_locksOf : GoodIn wsX5_come (wsV RX5 82 RX5 yX5_locksOf wsX5_locksOf) := goodIn_app (goodIn_of _ (by decide +kernel)) ggX5_come_X5_locksOf
set_option maxRecDepth 20000 in
theorem ggX5_come_X3_append : GoodIn wsX5_come wsX3_append := goodIn_r _ [45, 10, 46, 47, 48, 49, 50, 51, 52, 53, 23, 54, 33, 55, 56, 57, 58, 137, 138, 139, 140, 141, 142, 143, 144, 145, 146] (by decide +kernel) (by decide +kernel)
set_option maxRecDepth 20000 in
theorem gX5_come_X3_append : GoodIn wsX5_come (wsV RX5 106 RX3 yX3_append wsX3_append) := goodIn_app (goodIn_of _ (by decide +kernel)) ggX5_come_X3_append
set_option maxRecDepth 20000 in
theorem ggX5_come_X3_countRaces : GoodIn wsX5_come wsX3_countRaces := goodIn_r _ [62, 63, 48, 64, 65, 66, 67, 8, 68, 46, 47, 69, 70, 71, 72, 73, 74, 75, 76, 50, 77, 30, 31, 23, 32, 33, 137, 138, 139, 140, 141, 142, 143, 144, 145, 146] (by decide +kernel) (by decide +kernel)
set_option maxRecDepth 20000 in
theorem gX5_come_X3_countRaces : GoodIn wsX5_come (wsV RX5 110 RX3 yX3_countRaces wsX3_countRaces) := goodIn_app (goodIn_of _ (by decide +kernel)) ggX5_come_X3_countRaces
set_option maxRecDepth 20000 in
theorem ggX5_come_X2_access : GoodIn wsX5_come wsX2_access := goodIn_r _ [82, 83, 84, 85, 86, 87, 88, 89, 90, 81, 91, 92, 30, 31, 23, 32, 33, 93, 94, 95, 96, 97, 98, 99, 100, 101, 102, 103, 104, 105, 106, 107, 108, 109, 110, 111, 112, 113, 114, 115, 116, 117, 147, 148, 149, 150, 151, 152, 153, 154, 155, 156, 145, 146] (by decide +kernel) (by decide +kernel)
set_option maxRecDepth 20000 in
theorem gX5_come_X2_access : GoodIn wsX5_come (wsV RX5 113 RX2 yX2_access wsX2_access) := goodIn_app (goodIn_of _ (by decide +kernel)) ggX5_come_X2_access
set_option maxRecDepth 20000 in
theorem ggX5_come_X5_handOn : GoodIn wsX5_come wsX5_handOn := goodIn_r _ [121, 16, 3, 18, 19, 122, 52, 53, 23, 54, 33, 55, 56, 57, 58, 123, 124, 125, 14, 126, 127, 128, 30, 31, 32, 129, 35, 36, 37, 20, 21, 22, 24, 25, 26, 27, 28, 29, 34, 130, 131, 132, 133, 134, 135, 136, 145, 146] (by decide +kernel) (by decide +kernel)
set_option maxRecDepth 20000 in
theorem gX5_come_X5_handOn : GoodIn wsX5_come (wsV RX5 117 RX5 yX5_handOn wsX5_handOn) := goodIn_app (goodIn_of _ (by decide +kernel)) ggX5_come_X5_handOn
theorem dX5_come_0 : decode cX5_come 0 = .ok (.aload_n 0, 1) := by decide +kernel
theorem dX5_come_1 : decode cX5_come 1 = .ok (.getfield 43, 3) := by decide +kernel
theorem dX5_come_4 : decode cX5_come 4 = .ok (.iconst 1, 1) := by decide +kernel
theorem dX5_come_5 : decode cX5_come 5 = .ok (.invokevirtual 99, 3) := by decide +kernel
theorem dX5_come_8 : decode cX5_come 8 = .ok (.ifCond .ne 6, 3) := by decide +kernel
theorem dX5_come_11 : decode cX5_come 11 = .ok (.ldc 102, 2) := by decide +kernel
theorem dX5_come_13 : decode cX5_come 13 = .ok (.ireturn, 1) := by decide +kernel
theorem dX5_come_14 : decode cX5_come 14 = .ok (.aload_n 0, 1) := by decide +kernel
theorem dX5_come_15 : decode cX5_come 15 = .ok (.iload_n 1, 1) := by decide +kernel
theorem dX5_come_16 : decode cX5_come 16 = .ok (.iload_n 2, 1) := by decide +kernel
theorem dX5_come_17 : decode cX5_come 17 = .ok (.iload_n 3, 1) := by decide +kernel
theorem dX5_come_18 : decode cX5_come 18 = .ok (.invokevirtual 103, 3) := by decide +kernel
theorem dX5_come_21 : decode cX5_come 21 = .ok (.aload_n 0, 1) := by decide +kernel
theorem dX5_come_22 : decode cX5_come 22 = .ok (.iload_n 1, 1) := by decide +kernel
theorem dX5_come_23 : decode cX5_come 23 = .ok (.invokevirtual 82, 3) := by decide +kernel
theorem dX5_come_26 : decode cX5_come 26 = .ok (.istore 4, 2) := by decide +kernel
theorem dX5_come_28 : decode cX5_come 28 = .ok (.aload_n 0, 1) := by decide +kernel
theorem dX5_come_29 : decode cX5_come 29 = .ok (.getfield 43, 3) := by decide +kernel
theorem dX5_come_32 : decode cX5_come 32 = .ok (.iload_n 1, 1) := by decide +kernel
theorem dX5_come_33 : decode cX5_come 33 = .ok (.iload_n 2, 1) := by decide +kernel
theorem dX5_come_34 : decode cX5_come 34 = .ok (.iload_n 3, 1) := by decide +kernel
theorem dX5_come_35 : decode cX5_come 35 = .ok (.iload 4, 2) := by decide +kernel
theorem dX5_come_37 : decode cX5_come 37 = .ok (.aload_n 0, 1) := by decide +kernel
theorem dX5_come_38 : decode cX5_come 38 = .ok (.getfield 23, 3) := by decide +kernel
theorem dX5_come_41 : decode cX5_come 41 = .ok (.invokevirtual 106, 3) := by decide +kernel
theorem dX5_come_44 : decode cX5_come 44 = .ok (.istore 5, 2) := by decide +kernel
theorem dX5_come_46 : decode cX5_come 46 = .ok (.iload_n 2, 1) := by decide +kernel
theorem dX5_come_47 : decode cX5_come 47 = .ok (.ifCond .eq 8, 3) := by decide +kernel
theorem dX5_come_50 : decode cX5_come 50 = .ok (.iload_n 2, 1) := by decide +kernel
theorem dX5_come_51 : decode cX5_come 51 = .ok (.iconst 1, 1) := by decide +kernel
theorem dX5_come_52 : decode cX5_come 52 = .ok (.if_icmp .ne 40, 3) := by decide +kernel
theorem dX5_come_55 : decode cX5_come 55 = .ok (.aload_n 0, 1) := by decide +kernel
theorem dX5_come_56 : decode cX5_come 56 = .ok (.getfield 43, 3) := by decide +kernel
theorem dX5_come_59 : decode cX5_come 59 = .ok (.iload 5, 2) := by decide +kernel
theorem dX5_come_61 : decode cX5_come 61 = .ok (.invokevirtual 110, 3) := by decide +kernel
theorem dX5_come_64 : decode cX5_come 64 = .ok (.aload_n 0, 1) := by decide +kernel
theorem dX5_come_65 : decode cX5_come 65 = .ok (.getfield 36, 3) := by decide +kernel
theorem dX5_come_68 : decode cX5_come 68 = .ok (.iload_n 3, 1) := by decide +kernel
theorem dX5_come_69 : decode cX5_come 69 = .ok (.aaload, 1) := by decide +kernel
theorem dX5_come_70 : decode cX5_come 70 = .ok (.iload_n 2, 1) := by decide +kernel
theorem dX5_come_71 : decode cX5_come 71 = .ok (.iconst 1, 1) := by decide +kernel
theorem dX5_come_72 : decode cX5_come 72 = .ok (.if_icmp .ne 7, 3) := by decide +kernel
theorem dX5_come_75 : decode cX5_come 75 = .ok (.iconst 1, 1) := by decide +kernel
theorem dX5_come_76 : decode cX5_come 76 = .ok (.goto 4, 3) := by decide +kernel
theorem dX5_come_79 : decode cX5_come 79 = .ok (.iconst 0, 1) := by decide +kernel
theorem dX5_come_80 : decode cX5_come 80 = .ok (.aload_n 0, 1) := by decide +kernel
theorem dX5_come_81 : decode cX5_come 81 = .ok (.getfield 23, 3) := by decide +kernel
theorem dX5_come_84 : decode cX5_come 84 = .ok (.iload_n 1, 1) := by decide +kernel
theorem dX5_come_85 : decode cX5_come 85 = .ok (.iload 5, 2) := by decide +kernel
theorem dX5_come_87 : decode cX5_come 87 = .ok (.iload 4, 2) := by decide +kernel
theorem dX5_come_89 : decode cX5_come 89 = .ok (.invokevirtual 113, 3) := by decide +kernel
theorem dX5_come_92 : decode cX5_come 92 = .ok (.aload_n 0, 1) := by decide +kernel
theorem dX5_come_93 : decode cX5_come 93 = .ok (.iload_n 1, 1) := by decide +kernel
theorem dX5_come_94 : decode cX5_come 94 = .ok (.iload_n 2, 1) := by decide +kernel
theorem dX5_come_95 : decode cX5_come 95 = .ok (.iload_n 3, 1) := by decide +kernel
theorem dX5_come_96 : decode cX5_come 96 = .ok (.invokevirtual 117, 3) := by decide +kernel
theorem dX5_come_99 : decode cX5_come 99 = .ok (.iload 5, 2) := by decide +kernel
theorem dX5_come_101 : decode cX5_come 101 = .ok (.ireturn, 1) := by decide +kernel
set_option maxRecDepth 20000 in
theorem ggX5_takeIn_X1_join : GoodIn wsX5_takeIn wsX1_join := goodIn_r _ [10, 11, 12, 13, 14, 15, 16, 17, 9, 18, 19, 20, 21, 22, 23, 31, 32] (by decide +kernel) (by decide +kernel)
set_option maxRecDepth 20000 in
theorem gX5_takeIn_X1_join : GoodIn wsX5_takeIn (wsV RX5 120 RX1 yX1_join wsX1_join) := goodIn_app (goodIn_of _ (by decide +kernel)) ggX5_takeIn_X1_join
theorem dX5_takeIn_0 : decode cX5_takeIn 0 = .ok (.iload_n 2, 1) := by decide +kernel
theorem dX5_takeIn_1 : decode cX5_takeIn 1 = .ok (.tableswitch 111 2 7 #[39, 62, 111, 72, 111, 88], 39) := by decide +kernel
theorem dX5_takeIn_40 : decode cX5_takeIn 40 = .ok (.aload_n 0, 1) := by decide +kernel
theorem dX5_takeIn_41 : decode cX5_takeIn 41 = .ok (.getfield 23, 3) := by decide +kernel
theorem dX5_takeIn_44 : decode cX5_takeIn 44 = .ok (.iload_n 1, 1) := by decide +kernel
theorem dX5_takeIn_45 : decode cX5_takeIn 45 = .ok (.aload_n 0, 1) := by decide +kernel
theorem dX5_takeIn_46 : decode cX5_takeIn 46 = .ok (.getfield 27, 3) := by decide +kernel
theorem dX5_takeIn_49 : decode cX5_takeIn 49 = .ok (.iload_n 3, 1) := by decide +kernel
theorem dX5_takeIn_50 : decode cX5_takeIn 50 = .ok (.invokevirtual 120, 3) := by decide +kernel
theorem dX5_takeIn_53 : decode cX5_takeIn 53 = .ok (.aload_n 0, 1) := by decide +kernel
theorem dX5_takeIn_54 : decode cX5_takeIn 54 = .ok (.getfield 15, 3) := by decide +kernel
theorem dX5_takeIn_57 : decode cX5_takeIn 57 = .ok (.iload_n 3, 1) := by decide +kernel
theorem dX5_takeIn_58 : decode cX5_takeIn 58 = .ok (.iload_n 1, 1) := by decide +kernel
theorem dX5_takeIn_59 : decode cX5_takeIn 59 = .ok (.iastore, 1) := by decide +kernel
theorem dX5_takeIn_60 : decode cX5_takeIn 60 = .ok (.goto 52, 3) := by decide +kernel
theorem dX5_takeIn_63 : decode cX5_takeIn 63 = .ok (.aload_n 0, 1) := by decide +kernel
theorem dX5_takeIn_64 : decode cX5_takeIn 64 = .ok (.getfield 15, 3) := by decide +kernel
theorem dX5_takeIn_67 : decode cX5_takeIn 67 = .ok (.iload_n 3, 1) := by decide +kernel
theorem dX5_takeIn_68 : decode cX5_takeIn 68 = .ok (.iconst (-1), 1) := by decide +kernel
theorem dX5_takeIn_69 : decode cX5_takeIn 69 = .ok (.iastore, 1) := by decide +kernel
theorem dX5_takeIn_70 : decode cX5_takeIn 70 = .ok (.goto 42, 3) := by decide +kernel
theorem dX5_takeIn_73 : decode cX5_takeIn 73 = .ok (.aload_n 0, 1) := by decide +kernel
theorem dX5_takeIn_74 : decode cX5_takeIn 74 = .ok (.getfield 23, 3) := by decide +kernel
theorem dX5_takeIn_77 : decode cX5_takeIn 77 = .ok (.iload_n 1, 1) := by decide +kernel
theorem dX5_takeIn_78 : decode cX5_takeIn 78 = .ok (.aload_n 0, 1) := by decide +kernel
theorem dX5_takeIn_79 : decode cX5_takeIn 79 = .ok (.getfield 30, 3) := by decide +kernel
theorem dX5_takeIn_82 : decode cX5_takeIn 82 = .ok (.iload_n 3, 1) := by decide +kernel
theorem dX5_takeIn_83 : decode cX5_takeIn 83 = .ok (.invokevirtual 120, 3) := by decide +kernel
theorem dX5_takeIn_86 : decode cX5_takeIn 86 = .ok (.goto 26, 3) := by decide +kernel
theorem dX5_takeIn_89 : decode cX5_takeIn 89 = .ok (.aload_n 0, 1) := by decide +kernel
theorem dX5_takeIn_90 : decode cX5_takeIn 90 = .ok (.getfield 23, 3) := by decide +kernel
theorem dX5_takeIn_93 : decode cX5_takeIn 93 = .ok (.iload_n 1, 1) := by decide +kernel
theorem dX5_takeIn_94 : decode cX5_takeIn 94 = .ok (.aload_n 0, 1) := by decide +kernel
theorem dX5_takeIn_95 : decode cX5_takeIn 95 = .ok (.getfield 23, 3) := by decide +kernel
theorem dX5_takeIn_98 : decode cX5_takeIn 98 = .ok (.iload_n 3, 1) := by decide +kernel
theorem dX5_takeIn_99 : decode cX5_takeIn 99 = .ok (.invokevirtual 120, 3) := by decide +kernel
theorem dX5_takeIn_102 : decode cX5_takeIn 102 = .ok (.aload_n 0, 1) := by decide +kernel
theorem dX5_takeIn_103 : decode cX5_takeIn 103 = .ok (.getfield 9, 3) := by decide +kernel
theorem dX5_takeIn_106 : decode cX5_takeIn 106 = .ok (.iload_n 3, 1) := by decide +kernel
theorem dX5_takeIn_107 : decode cX5_takeIn 107 = .ok (.iconst 2, 1) := by decide +kernel
theorem dX5_takeIn_108 : decode cX5_takeIn 108 = .ok (.iastore, 1) := by decide +kernel
theorem dX5_takeIn_109 : decode cX5_takeIn 109 = .ok (.goto 3, 3) := by decide +kernel
theorem dX5_takeIn_112 : decode cX5_takeIn 112 = .ok (.return_, 1) := by decide +kernel
set_option maxRecDepth 20000 in
theorem ggX5_handOn_X1_copyRow : GoodIn wsX5_handOn wsX1_copyRow := goodIn_r _ [9, 10, 11, 12, 13, 14, 46, 47] (by decide +kernel) (by decide +kernel)
set_option maxRecDepth 20000 in
theorem gX5_handOn_X1_copyRow : GoodIn wsX5_handOn (wsV RX5 124 RX1 yX1_copyRow wsX1_copyRow) := goodIn_app (goodIn_of _ (by decide +kernel)) ggX5_handOn_X1_copyRow
set_option maxRecDepth 20000 in
theorem ggX5_handOn_X5_makeStep : GoodIn wsX5_handOn wsX5_makeStep := goodIn_r _ [19, 2, 20, 21, 22, 23, 8, 24, 10, 25, 26, 27, 28, 39, 40, 41, 42, 43, 44, 45, 46, 47] (by decide +kernel) (by decide +kernel)
set_option maxRecDepth 20000 in
theorem gX5_handOn_X5_makeStep : GoodIn wsX5_handOn (wsV RX5 127 RX5 yX5_makeStep wsX5_makeStep) := goodIn_app (goodIn_of _ (by decide +kernel)) ggX5_handOn_X5_makeStep
set_option maxRecDepth 20000 in
theorem ggX5_handOn_X1_join : GoodIn wsX5_handOn wsX1_join := goodIn_r _ [32, 33, 34, 35, 36, 37, 22, 23, 8, 24, 10, 38, 26, 27, 28, 46, 47] (by decide +kernel) (by decide +kernel)
set_option maxRecDepth 20000 in
theorem gX5_handOn_X1_join : GoodIn wsX5_handOn (wsV RX5 120 RX1 yX1_join wsX1_join) := goodIn_app (goodIn_of _ (by decide +kernel)) ggX5_handOn_X1_join
theorem dX5_handOn_0 : decode cX5_handOn 0 = .ok (.iload_n 2, 1) := by decide +kernel
theorem dX5_handOn_1 : decode cX5_handOn 1 = .ok (.tableswitch 101 3 6 #[31, 52, 101, 73], 31) := by decide +kernel
theorem dX5_handOn_32 : decode cX5_handOn 32 = .ok (.aload_n 0, 1) := by decide +kernel
theorem dX5_handOn_33 : decode cX5_handOn 33 = .ok (.getfield 27, 3) := by decide +kernel
theorem dX5_handOn_36 : decode cX5_handOn 36 = .ok (.iload_n 3, 1) := by decide +kernel
theorem dX5_handOn_37 : decode cX5_handOn 37 = .ok (.aload_n 0, 1) := by decide +kernel
theorem dX5_handOn_38 : decode cX5_handOn 38 = .ok (.getfield 23, 3) := by decide +kernel
theorem dX5_handOn_41 : decode cX5_handOn 41 = .ok (.iload_n 1, 1) := by decide +kernel
theorem dX5_handOn_42 : decode cX5_handOn 42 = .ok (.invokevirtual 124, 3) := by decide +kernel
theorem dX5_handOn_45 : decode cX5_handOn 45 = .ok (.aload_n 0, 1) := by decide +kernel
theorem dX5_handOn_46 : decode cX5_handOn 46 = .ok (.iload_n 1, 1) := by decide +kernel
theorem dX5_handOn_47 : decode cX5_handOn 47 = .ok (.invokevirtual 127, 3) := by decide +kernel
theorem dX5_handOn_50 : decode cX5_handOn 50 = .ok (.goto 52, 3) := by decide +kernel
theorem dX5_handOn_53 : decode cX5_handOn 53 = .ok (.aload_n 0, 1) := by decide +kernel
theorem dX5_handOn_54 : decode cX5_handOn 54 = .ok (.getfield 30, 3) := by decide +kernel
theorem dX5_handOn_57 : decode cX5_handOn 57 = .ok (.iload_n 3, 1) := by decide +kernel
theorem dX5_handOn_58 : decode cX5_handOn 58 = .ok (.aload_n 0, 1) := by decide +kernel
theorem dX5_handOn_59 : decode cX5_handOn 59 = .ok (.getfield 23, 3) := by decide +kernel
theorem dX5_handOn_62 : decode cX5_handOn 62 = .ok (.iload_n 1, 1) := by decide +kernel
theorem dX5_handOn_63 : decode cX5_handOn 63 = .ok (.invokevirtual 120, 3) := by decide +kernel
theorem dX5_handOn_66 : decode cX5_handOn 66 = .ok (.aload_n 0, 1) := by decide +kernel
theorem dX5_handOn_67 : decode cX5_handOn 67 = .ok (.iload_n 1, 1) := by decide +kernel
theorem dX5_handOn_68 : decode cX5_handOn 68 = .ok (.invokevirtual 127, 3) := by decide +kernel
theorem dX5_handOn_71 : decode cX5_handOn 71 = .ok (.goto 31, 3) := by decide +kernel
theorem dX5_handOn_74 : decode cX5_handOn 74 = .ok (.aload_n 0, 1) := by decide +kernel
theorem dX5_handOn_75 : decode cX5_handOn 75 = .ok (.getfield 23, 3) := by decide +kernel
theorem dX5_handOn_78 : decode cX5_handOn 78 = .ok (.iload_n 3, 1) := by decide +kernel
theorem dX5_handOn_79 : decode cX5_handOn 79 = .ok (.aload_n 0, 1) := by decide +kernel
theorem dX5_handOn_80 : decode cX5_handOn 80 = .ok (.getfield 23, 3) := by decide +kernel
theorem dX5_handOn_83 : decode cX5_handOn 83 = .ok (.iload_n 1, 1) := by decide +kernel
theorem dX5_handOn_84 : decode cX5_handOn 84 = .ok (.invokevirtual 120, 3) := by decide +kernel
theorem dX5_handOn_87 : decode cX5_handOn 87 = .ok (.aload_n 0, 1) := by decide +kernel
theorem dX5_handOn_88 : decode cX5_handOn 88 = .ok (.getfield 9, 3) := by decide +kernel
theorem dX5_handOn_91 : decode cX5_handOn 91 = .ok (.iload_n 3, 1) := by decide +kernel
theorem dX5_handOn_92 : decode cX5_handOn 92 = .ok (.iconst 1, 1) := by decide +kernel
theorem dX5_handOn_93 : decode cX5_handOn 93 = .ok (.iastore, 1) := by decide +kernel
theorem dX5_handOn_94 : decode cX5_handOn 94 = .ok (.aload_n 0, 1) := by decide +kernel
theorem dX5_handOn_95 : decode cX5_handOn 95 = .ok (.iload_n 1, 1) := by decide +kernel
theorem dX5_handOn_96 : decode cX5_handOn 96 = .ok (.invokevirtual 127, 3) := by decide +kernel
theorem dX5_handOn_99 : decode cX5_handOn 99 = .ok (.goto 3, 3) := by decide +kernel
theorem dX5_handOn_102 : decode cX5_handOn 102 = .ok (.return_, 1) := by decide +kernel
set_option maxRecDepth 20000 in
theorem ggX5_makeStep_X1_number : GoodIn wsX5_makeStep wsX1_number := goodIn_r _ [7, 8, 20, 21] (by decide +kernel) (by decide +kernel)
set_option maxRecDepth 20000 in
theorem gX5_makeStep_X1_number : GoodIn wsX5_makeStep (wsV RX5 94 RX1 yX1_number wsX1_number) := goodIn_app (goodIn_of _ (by decide +kernel)) ggX5_makeStep_X1_number
set_option maxRecDepth 20000 in
theorem ggX5_makeStep_X1_set : GoodIn wsX5_makeStep wsX1_set := goodIn_r _ [12, 8, 20, 21] (by decide +kernel) (by decide +kernel)
set_option maxRecDepth 20000 in
theorem gX5_makeStep_X1_set : GoodIn wsX5_makeStep (wsV RX5 59 RX1 yX1_set wsX1_set) := goodIn_app (goodIn_of _ (by decide +kernel)) ggX5_makeStep_X1_set
theorem dX5_makeStep_0 : decode cX5_makeStep 0 = .ok (.aload_n 0, 1) := by decide +kernel
theorem dX5_makeStep_1 : decode cX5_makeStep 1 = .ok (.getfield 23, 3) := by decide +kernel
theorem dX5_makeStep_4 : decode cX5_makeStep 4 = .ok (.iload_n 1, 1) := by decide +kernel
theorem dX5_makeStep_5 : decode cX5_makeStep 5 = .ok (.iload_n 1, 1) := by decide +kernel
theorem dX5_makeStep_6 : decode cX5_makeStep 6 = .ok (.invokevirtual 94, 3) := by decide +kernel
theorem dX5_makeStep_9 : decode cX5_makeStep 9 = .ok (.istore_n 2, 1) := by decide +kernel
theorem dX5_makeStep_10 : decode cX5_makeStep 10 = .ok (.iload_n 2, 1) := by decide +kernel
theorem dX5_makeStep_11 : decode cX5_makeStep 11 = .ok (.ldc 98, 2) := by decide +kernel
theorem dX5_makeStep_13 : decode cX5_makeStep 13 = .ok (.if_icmp .ge 15, 3) := by decide +kernel
theorem dX5_makeStep_16 : decode cX5_makeStep 16 = .ok (.aload_n 0, 1) := by decide +kernel
theorem dX5_makeStep_17 : decode cX5_makeStep 17 = .ok (.getfield 23, 3) := by decide +kernel
theorem dX5_makeStep_20 : decode cX5_makeStep 20 = .ok (.iload_n 1, 1) := by decide +kernel
theorem dX5_makeStep_21 : decode cX5_makeStep 21 = .ok (.iload_n 1, 1) := by decide +kernel
theorem dX5_makeStep_22 : decode cX5_makeStep 22 = .ok (.iload_n 2, 1) := by decide +kernel
theorem dX5_makeStep_23 : decode cX5_makeStep 23 = .ok (.iconst 1, 1) := by decide +kernel
theorem dX5_makeStep_24 : decode cX5_makeStep 24 = .ok (.iadd, 1) := by decide +kernel
theorem dX5_makeStep_25 : decode cX5_makeStep 25 = .ok (.invokevirtual 59, 3) := by decide +kernel
theorem dX5_makeStep_28 : decode cX5_makeStep 28 = .ok (.return_, 1) := by decide +kernel
theorem dX5_locksOf_0 : decode cX5_locksOf 0 = .ok (.iconst 0, 1) := by decide +kernel
theorem dX5_locksOf_1 : decode cX5_locksOf 1 = .ok (.istore_n 2, 1) := by decide +kernel
theorem dX5_locksOf_2 : decode cX5_locksOf 2 = .ok (.iconst 0, 1) := by decide +kernel
theorem dX5_locksOf_3 : decode cX5_locksOf 3 = .ok (.istore_n 3, 1) := by decide +kernel
theorem dX5_locksOf_4 : decode cX5_locksOf 4 = .ok (.iload_n 3, 1) := by decide +kernel
theorem dX5_locksOf_5 : decode cX5_locksOf 5 = .ok (.iconst 3, 1) := by decide +kernel
theorem dX5_locksOf_6 : decode cX5_locksOf 6 = .ok (.if_icmp .ge 25, 3) := by decide +kernel
theorem dX5_locksOf_9 : decode cX5_locksOf 9 = .ok (.aload_n 0, 1) := by decide +kernel
theorem dX5_locksOf_10 : decode cX5_locksOf 10 = .ok (.getfield 15, 3) := by decide +kernel
theorem dX5_locksOf_13 : decode cX5_locksOf 13 = .ok (.iload_n 3, 1) := by decide +kernel
theorem dX5_locksOf_14 : decode cX5_locksOf 14 = .ok (.iaload, 1) := by decide +kernel
theorem dX5_locksOf_15 : decode cX5_locksOf 15 = .ok (.iload_n 1, 1) := by decide +kernel
theorem dX5_locksOf_16 : decode cX5_locksOf 16 = .ok (.if_icmp .ne 9, 3) := by decide +kernel
theorem dX5_locksOf_19 : decode cX5_locksOf 19 = .ok (.iload_n 2, 1) := by decide +kernel
theorem dX5_locksOf_20 : decode cX5_locksOf 20 = .ok (.iconst 1, 1) := by decide +kernel
theorem dX5_locksOf_21 : decode cX5_locksOf 21 = .ok (.iload_n 3, 1) := by decide +kernel
theorem dX5_locksOf_22 : decode cX5_locksOf 22 = .ok (.ishl, 1) := by decide +kernel
theorem dX5_locksOf_23 : decode cX5_locksOf 23 = .ok (.ior, 1) := by decide +kernel
theorem dX5_locksOf_24 : decode cX5_locksOf 24 = .ok (.istore_n 2, 1) := by decide +kernel
theorem dX5_locksOf_25 : decode cX5_locksOf 25 = .ok (.iinc 3 1, 3) := by decide +kernel
theorem dX5_locksOf_28 : decode cX5_locksOf 28 = .ok (.goto (-24), 3) := by decide +kernel
theorem dX5_locksOf_31 : decode cX5_locksOf 31 = .ok (.iload_n 2, 1) := by decide +kernel
theorem dX5_locksOf_32 : decode cX5_locksOf 32 = .ok (.ireturn, 1) := by decide +kernel
