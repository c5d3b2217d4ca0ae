theorem dX12_count_57 : decode cX12_count 57 = .ok (.getfield 107, 3) := by decide +kernel
theorem dX12_count_60 : decode cX12_count 60 = .ok (.ireturn, 1) := by decide +kernel
theorem dX12_count_61 : decode cX12_count 61 = .ok (.aload_n 0, 1) := by decide +kernel
theorem dX12_count_62 : decode cX12_count 62 = .ok (.getfield 116, 3) := by decide +kernel
theorem dX12_count_65 : decode cX12_count 65 = .ok (.ireturn, 1) := by decide +kernel
theorem dX12_count_66 : decode cX12_count 66 = .ok (.aload_n 0, 1) := by decide +kernel
theorem dX12_count_67 : decode cX12_count 67 = .ok (.getfield 122, 3) := by decide +kernel
theorem dX12_count_70 : decode cX12_count 70 = .ok (.ireturn, 1) := by decide +kernel
theorem dX12_count_71 : decode cX12_count 71 = .ok (.aload_n 0, 1) := by decide +kernel
theorem dX12_count_72 : decode cX12_count 72 = .ok (.getfield 25, 3) := by decide +kernel
theorem dX12_count_75 : decode cX12_count 75 = .ok (.iload_n 1, 1) := by decide +kernel
theorem dX12_count_76 : decode cX12_count 76 = .ok (.iconst 3, 1) := by decide +kernel
theorem dX12_count_77 : decode cX12_count 77 = .ok (.isub, 1) := by decide +kernel
theorem dX12_count_78 : decode cX12_count 78 = .ok (.iaload, 1) := by decide +kernel
theorem dX12_count_79 : decode cX12_count 79 = .ok (.ireturn, 1) := by decide +kernel
theorem dX12_count_80 : decode cX12_count 80 = .ok (.aload_n 0, 1) := by decide +kernel
theorem dX12_count_81 : decode cX12_count 81 = .ok (.getfield 159, 3) := by decide +kernel
theorem dX12_count_84 : decode cX12_count 84 = .ok (.ireturn, 1) := by decide +kernel
theorem dX12_count_85 : decode cX12_count 85 = .ok (.aload_n 0, 1) := by decide +kernel
theorem dX12_count_86 : decode cX12_count 86 = .ok (.getfield 240, 3) := by decide +kernel
theorem dX12_count_89 : decode cX12_count 89 = .ok (.ireturn, 1) := by decide +kernel
theorem dX12_count_90 : decode cX12_count 90 = .ok (.aload_n 0, 1) := by decide +kernel
theorem dX12_count_91 : decode cX12_count 91 = .ok (.getfield 69, 3) := by decide +kernel
theorem dX12_count_94 : decode cX12_count 94 = .ok (.ireturn, 1) := by decide +kernel
theorem dX12_count_95 : decode cX12_count 95 = .ok (.bipush (-2), 2) := by decide +kernel
theorem dX12_count_97 : decode cX12_count 97 = .ok (.ireturn, 1) := by decide +kernel
set_option maxRecDepth 20000 in
theorem ggX12_tellsFlight_X12_comesOf : GoodIn wsX12_tellsFlight wsX12_comesOf := goodIn_r _ [6, 7, 8, 9, 5, 10, 11, 12, 13, 14, 15, 16, 17, 18, 19, 20, 21, 22, 23, 24, 25, 26, 27, 28, 29, 30, 31, 32, 33, 34, 35, 36, 37, 38, 39, 40, 41, 42, 43, 44, 45, 46, 47, 48, 49, 50, 51, 52, 53, 54, 55, 56, 57, 58, 59, 60, 61, 62, 63, 64, 65, 66, 170, 171, 172, 173, 174, 175, 176, 177, 178, 179, 180, 181, 182, 183, 184, 185, 186, 187, 188, 189, 190, 191, 192, 193, 194, 195, 196, 197, 198, 199] (by decide +kernel) (by decide +kernel)
set_option maxRecDepth 20000 in
theorem gX12_tellsFlight_X12_comesOf : GoodIn wsX12_tellsFlight (wsV RX12 215 RX12 yX12_comesOf wsX12_comesOf) := goodIn_app (goodIn_of _ (by decide +kernel)) ggX12_tellsFlight_X12_comesOf
set_option maxRecDepth 20000 in
theorem ggX12_tellsFlight_X12_behind : GoodIn wsX12_tellsFlight wsX12_behind := goodIn_r _ [70, 25, 71, 72, 73, 74, 5, 75, 76, 77, 78, 79, 80, 81, 44, 82, 83, 84, 85, 86, 87, 88, 89, 32, 33, 34, 90, 91, 92, 93, 31, 45, 94, 95, 96, 97, 98, 99, 100, 101, 102, 103, 104, 39, 21, 105, 106, 107, 108, 109, 110, 111, 112, 113, 114, 115, 116, 16, 26, 7, 8, 9, 10, 11, 12, 13, 14, 15, 17, 18, 19, 20, 22, 23, 24, 27, 28, 29, 30, 35, 36, 37, 38, 40, 41, 42, 43, 46, 47, 48, 49, 50, 51, 52, 53, 54, 55, 56, 57, 58, 59, 60, 61, 62, 170, 171, 172, 173, 174, 175, 176, 177, 178, 179, 180, 181, 182, 183, 184, 185, 186, 187, 188, 189, 190, 191, 192, 193, 194, 195, 196, 197, 198, 199] (by decide +kernel) (by decide +kernel)
set_option maxRecDepth 20000 in
theorem gX12_tellsFlight_X12_behind : GoodIn wsX12_tellsFlight (wsV RX12 296 RX12 yX12_behind wsX12_behind) := goodIn_app (goodIn_of _ (by decide +kernel)) ggX12_tellsFlight_X12_behind
set_option maxRecDepth 20000 in
theorem ggX12_tellsFlight_X12_climbOf : GoodIn wsX12_tellsFlight wsX12_climbOf := goodIn_r _ [120, 11, 17, 12, 13, 14, 5, 15, 16, 18, 19, 20, 21, 22, 23, 24, 25, 26, 27, 28, 29, 30, 31, 32, 33, 34, 35, 36, 37, 38, 39, 40, 41, 42, 43, 44, 45, 46, 47, 48, 49, 50, 51, 52, 53, 54, 55, 56, 57, 58, 59, 60, 61, 62, 170, 171, 172, 173, 174, 175, 176, 177, 178, 179, 180, 181, 182, 183, 184, 185, 186, 187, 188, 189, 190, 191, 192, 193, 194, 195, 196, 197, 198, 199] (by decide +kernel) (by decide +kernel)
set_option maxRecDepth 20000 in
theorem gX12_tellsFlight_X12_climbOf : GoodIn wsX12_tellsFlight (wsV RX12 226 RX12 yX12_climbOf wsX12_climbOf) := goodIn_app (goodIn_of _ (by decide +kernel)) ggX12_tellsFlight_X12_climbOf
set_option maxRecDepth 20000 in
theorem ggX12_tellsFlight_X12_practiceOf : GoodIn wsX12_tellsFlight wsX12_practiceOf := goodIn_r _ [124, 46, 18, 7, 8, 9, 5, 10, 11, 12, 13, 14, 15, 16, 17, 19, 20, 21, 22, 23, 24, 25, 26, 27, 28, 29, 30, 31, 32, 33, 34, 35, 36, 37, 38, 39, 40, 41, 42, 43, 44, 45, 47, 48, 49, 50, 51, 52, 53, 54, 55, 56, 57, 58, 59, 60, 61, 62, 125, 126, 127, 170, 171, 172, 173, 174, 175, 176, 177, 178, 179, 180, 181, 182, 183, 184, 185, 186, 187, 188, 189, 190, 191, 192, 193, 194, 195, 196, 197, 198, 199] (by decide +kernel) (by decide +kernel)
set_option maxRecDepth 20000 in
theorem gX12_tellsFlight_X12_practiceOf : GoodIn wsX12_tellsFlight (wsV RX12 232 RX12 yX12_practiceOf wsX12_practiceOf) := goodIn_app (goodIn_of _ (by decide +kernel)) ggX12_tellsFlight_X12_practiceOf
set_option maxRecDepth 20000 in
theorem ggX12_tellsFlight_X12_pairOf : GoodIn wsX12_tellsFlight wsX12_pairOf := goodIn_r _ [131, 39, 11, 17, 12, 13, 14, 5, 15, 16, 18, 19, 20, 21, 22, 23, 24, 25, 26, 27, 28, 29, 30, 31, 32, 33, 34, 35, 36, 37, 38, 40, 41, 42, 43, 44, 45, 46, 47, 48, 49, 50, 51, 52, 53, 54, 55, 56, 57, 58, 59, 60, 61, 62, 170, 171, 172, 173, 174, 175, 176, 177, 178, 179, 180, 181, 182, 183, 184, 185, 186, 187, 188, 189, 190, 191, 192, 193, 194, 195, 196, 197, 198, 199] (by decide +kernel) (by decide +kernel)
set_option maxRecDepth 20000 in
theorem gX12_tellsFlight_X12_pairOf : GoodIn wsX12_tellsFlight (wsV RX12 235 RX12 yX12_pairOf wsX12_pairOf) := goodIn_app (goodIn_of _ (by decide +kernel)) ggX12_tellsFlight_X12_pairOf
set_option maxRecDepth 20000 in
theorem ggX12_tellsFlight_X12_highOf : GoodIn wsX12_tellsFlight wsX12_highOf := goodIn_r _ [135, 11, 136, 137, 138, 5, 139, 140, 141, 108, 109, 110, 111, 112, 32, 33, 34, 2, 3, 4, 6, 7, 8, 9, 10, 12, 13, 14, 15, 16, 17, 18, 19, 20, 21, 22, 23, 24, 25, 26, 27, 28, 29, 30, 31, 35, 36, 37, 38, 39, 40, 41, 42, 43, 44, 45, 46, 47, 48, 49, 50, 51, 52, 53, 54, 55, 56, 57, 58, 59, 60, 61, 62, 63, 64, 65, 66, 170, 171, 172, 173, 174, 175, 176, 177, 178, 179, 180, 181, 182, 183, 184, 185, 186, 187, 188, 189, 190, 191, 192, 193, 194, 195, 196, 197, 198, 199] (by decide +kernel) (by decide +kernel)
set_option maxRecDepth 20000 in
theorem gX12_tellsFlight_X12_highOf : GoodIn wsX12_tellsFlight (wsV RX12 250 RX12 yX12_highOf wsX12_highOf) := goodIn_app (goodIn_of _ (by decide +kernel)) ggX12_tellsFlight_X12_highOf
set_option maxRecDepth 20000 in
theorem ggX12_tellsFlight_X12_laugh : GoodIn wsX12_tellsFlight wsX12_laugh := goodIn_r _ [145, 146, 72, 73, 74, 5, 75, 76, 77, 78, 79, 25, 80, 81, 44, 82, 83, 84, 85, 86, 87, 88, 89, 32, 33, 34, 90, 91, 92, 93, 31, 45, 94, 95, 96, 97, 98, 99, 100, 101, 102, 103, 104, 39, 21, 105, 106, 107, 147, 148, 149, 150, 108, 109, 110, 111, 112, 151, 152, 153, 154, 155, 156, 157, 47, 18, 158, 159, 160, 161, 162, 56, 57, 58, 7, 8, 9, 10, 11, 12, 13, 14, 15, 16, 17, 19, 20, 22, 23, 24, 26, 27, 28, 29, 30, 35, 36, 37, 38, 40, 41, 42, 43, 46, 48, 49, 50, 51, 52, 53, 54, 55, 59, 60, 61, 62, 163, 164, 165, 166, 167, 168, 169, 170, 171, 172, 173, 174, 175, 176, 177, 178, 179, 180, 181, 182, 183, 184, 185, 186, 187, 188, 189, 190, 191, 192, 193, 194, 195, 196, 197, 198, 199] (by decide +kernel) (by decide +kernel)
set_option maxRecDepth 20000 in
theorem gX12_tellsFlight_X12_laugh : GoodIn wsX12_tellsFlight (wsV RX12 299 RX12 yX12_laugh wsX12_laugh) := goodIn_app (goodIn_of _ (by decide +kernel)) ggX12_tellsFlight_X12_laugh
theorem dX12_tellsFlight_0 : decode cX12_tellsFlight 0 = .ok (.lload_n 1, 1) := by decide +kernel
theorem dX12_tellsFlight_1 : decode cX12_tellsFlight 1 = .ok (.lstore 4, 2) := by decide +kernel
theorem dX12_tellsFlight_3 : decode cX12_tellsFlight 3 = .ok (.iconst 0, 1) := by decide +kernel
theorem dX12_tellsFlight_4 : decode cX12_tellsFlight 4 = .ok (.istore 6, 2) := by decide +kernel
theorem dX12_tellsFlight_6 : decode cX12_tellsFlight 6 = .ok (.iload 6, 2) := by decide +kernel
theorem dX12_tellsFlight_8 : decode cX12_tellsFlight 8 = .ok (.iconst 3, 1) := by decide +kernel
theorem dX12_tellsFlight_9 : decode cX12_tellsFlight 9 = .ok (.if_icmp .ge 26, 3) := by decide +kernel
theorem dX12_tellsFlight_12 : decode cX12_tellsFlight 12 = .ok (.ldc2_w 294, 3) := by decide +kernel
theorem dX12_tellsFlight_15 : decode cX12_tellsFlight 15 = .ok (.lload 4, 2) := by decide +kernel
theorem dX12_tellsFlight_17 : decode cX12_tellsFlight 17 = .ok (.lmul, 1) := by decide +kernel
theorem dX12_tellsFlight_18 : decode cX12_tellsFlight 18 = .ok (.aload_n 0, 1) := by decide +kernel
theorem dX12_tellsFlight_19 : decode cX12_tellsFlight 19 = .ok (.iload_n 3, 1) := by decide +kernel
theorem dX12_tellsFlight_20 : decode cX12_tellsFlight 20 = .ok (.iload 6, 2) := by decide +kernel
theorem dX12_tellsFlight_22 : decode cX12_tellsFlight 22 = .ok (.invokevirtual 215, 3) := by decide +kernel
theorem dX12_tellsFlight_25 : decode cX12_tellsFlight 25 = .ok (.i2l, 1) := by decide +kernel
theorem dX12_tellsFlight_26 : decode cX12_tellsFlight 26 = .ok (.ladd, 1) := by decide +kernel
theorem dX12_tellsFlight_27 : decode cX12_tellsFlight 27 = .ok (.lstore 4, 2) := by decide +kernel
theorem dX12_tellsFlight_29 : decode cX12_tellsFlight 29 = .ok (.iinc 6 1, 3) := by decide +kernel
theorem dX12_tellsFlight_32 : decode cX12_tellsFlight 32 = .ok (.goto (-26), 3) := by decide +kernel
theorem dX12_tellsFlight_35 : decode cX12_tellsFlight 35 = .ok (.iconst 0, 1) := by decide +kernel
theorem dX12_tellsFlight_36 : decode cX12_tellsFlight 36 = .ok (.istore 6, 2) := by decide +kernel
theorem dX12_tellsFlight_38 : decode cX12_tellsFlight 38 = .ok (.iload 6, 2) := by decide +kernel
theorem dX12_tellsFlight_40 : decode cX12_tellsFlight 40 = .ok (.iconst 4, 1) := by decide +kernel
theorem dX12_tellsFlight_41 : decode cX12_tellsFlight 41 = .ok (.if_icmp .ge 27, 3) := by decide +kernel
theorem dX12_tellsFlight_44 : decode cX12_tellsFlight 44 = .ok (.ldc2_w 294, 3) := by decide +kernel
theorem dX12_tellsFlight_47 : decode cX12_tellsFlight 47 = .ok (.lload 4, 2) := by decide +kernel
theorem dX12_tellsFlight_49 : decode cX12_tellsFlight 49 = .ok (.lmul, 1) := by decide +kernel
theorem dX12_tellsFlight_50 : decode cX12_tellsFlight 50 = .ok (.aload_n 0, 1) := by decide +kernel
theorem dX12_tellsFlight_51 : decode cX12_tellsFlight 51 = .ok (.iload_n 3, 1) := by decide +kernel
theorem dX12_tellsFlight_52 : decode cX12_tellsFlight 52 = .ok (.iconst 3, 1) := by decide +kernel
theorem dX12_tellsFlight_53 : decode cX12_tellsFlight 53 = .ok (.iload 6, 2) := by decide +kernel
theorem dX12_tellsFlight_55 : decode cX12_tellsFlight 55 = .ok (.invokevirtual 296, 3) := by decide +kernel
theorem dX12_tellsFlight_58 : decode cX12_tellsFlight 58 = .ok (.i2l, 1) := by decide +kernel
theorem dX12_tellsFlight_59 : decode cX12_tellsFlight 59 = .ok (.ladd, 1) := by decide +kernel
theorem dX12_tellsFlight_60 : decode cX12_tellsFlight 60 = .ok (.lstore 4, 2) := by decide +kernel
theorem dX12_tellsFlight_62 : decode cX12_tellsFlight 62 = .ok (.iinc 6 1, 3) := by decide +kernel
theorem dX12_tellsFlight_65 : decode cX12_tellsFlight 65 = .ok (.goto (-27), 3) := by decide +kernel
theorem dX12_tellsFlight_68 : decode cX12_tellsFlight 68 = .ok (.iconst (-1), 1) := by decide +kernel
theorem dX12_tellsFlight_69 : decode cX12_tellsFlight 69 = .ok (.istore 6, 2) := by decide +kernel
theorem dX12_tellsFlight_71 : decode cX12_tellsFlight 71 = .ok (.iload 6, 2) := by decide +kernel
theorem dX12_tellsFlight_73 : decode cX12_tellsFlight 73 = .ok (.iconst 3, 1) := by decide +kernel
theorem dX12_tellsFlight_74 : decode cX12_tellsFlight 74 = .ok (.if_icmp .ge 26, 3) := by decide +kernel
theorem dX12_tellsFlight_77 : decode cX12_tellsFlight 77 = .ok (.ldc2_w 294, 3) := by decide +kernel
theorem dX12_tellsFlight_80 : decode cX12_tellsFlight 80 = .ok (.lload 4, 2) := by decide +kernel
theorem dX12_tellsFlight_82 : decode cX12_tellsFlight 82 = .ok (.lmul, 1) := by decide +kernel
theorem dX12_tellsFlight_83 : decode cX12_tellsFlight 83 = .ok (.aload_n 0, 1) := by decide +kernel
theorem dX12_tellsFlight_84 : decode cX12_tellsFlight 84 = .ok (.iload_n 3, 1) := by decide +kernel
theorem dX12_tellsFlight_85 : decode cX12_tellsFlight 85 = .ok (.iload 6, 2) := by decide +kernel
theorem dX12_tellsFlight_87 : decode cX12_tellsFlight 87 = .ok (.invokevirtual 226, 3) := by decide +kernel
theorem dX12_tellsFlight_90 : decode cX12_tellsFlight 90 = .ok (.i2l, 1) := by decide +kernel
theorem dX12_tellsFlight_91 : decode cX12_tellsFlight 91 = .ok (.ladd, 1) := by decide +kernel
theorem dX12_tellsFlight_92 : decode cX12_tellsFlight 92 = .ok (.lstore 4, 2) := by decide +kernel
theorem dX12_tellsFlight_94 : decode cX12_tellsFlight 94 = .ok (.iinc 6 1, 3) := by decide +kernel
theorem dX12_tellsFlight_97 : decode cX12_tellsFlight 97 = .ok (.goto (-26), 3) := by decide +kernel
theorem dX12_tellsFlight_100 : decode cX12_tellsFlight 100 = .ok (.ldc2_w 294, 3) := by decide +kernel
theorem dX12_tellsFlight_103 : decode cX12_tellsFlight 103 = .ok (.lload 4, 2) := by decide +kernel
theorem dX12_tellsFlight_105 : decode cX12_tellsFlight 105 = .ok (.lmul, 1) := by decide +kernel
theorem dX12_tellsFlight_106 : decode cX12_tellsFlight 106 = .ok (.aload_n 0, 1) := by decide +kernel
theorem dX12_tellsFlight_107 : decode cX12_tellsFlight 107 = .ok (.iload_n 3, 1) := by decide +kernel
theorem dX12_tellsFlight_108 : decode cX12_tellsFlight 108 = .ok (.iconst 0, 1) := by decide +kernel
theorem dX12_tellsFlight_109 : decode cX12_tellsFlight 109 = .ok (.invokevirtual 232, 3) := by decide +kernel
theorem dX12_tellsFlight_112 : decode cX12_tellsFlight 112 = .ok (.i2l, 1) := by decide +kernel
theorem dX12_tellsFlight_113 : decode cX12_tellsFlight 113 = .ok (.ladd, 1) := by decide +kernel
theorem dX12_tellsFlight_114 : decode cX12_tellsFlight 114 = .ok (.lstore 4, 2) := by decide +kernel
theorem dX12_tellsFlight_116 : decode cX12_tellsFlight 116 = .ok (.ldc2_w 294, 3) := by decide +kernel
theorem dX12_tellsFlight_119 : decode cX12_tellsFlight 119 = .ok (.lload 4, 2) := by decide +kernel
theorem dX12_tellsFlight_121 : decode cX12_tellsFlight 121 = .ok (.lmul, 1) := by decide +kernel
theorem dX12_tellsFlight_122 : decode cX12_tellsFlight 122 = .ok (.aload_n 0, 1) := by decide +kernel
theorem dX12_tellsFlight_123 : decode cX12_tellsFlight 123 = .ok (.iload_n 3, 1) := by decide +kernel
theorem dX12_tellsFlight_124 : decode cX12_tellsFlight 124 = .ok (.iconst 1, 1) := by decide +kernel
theorem dX12_tellsFlight_125 : decode cX12_tellsFlight 125 = .ok (.invokevirtual 232, 3) := by decide +kernel
theorem dX12_tellsFlight_128 : decode cX12_tellsFlight 128 = .ok (.i2l, 1) := by decide +kernel
theorem dX12_tellsFlight_129 : decode cX12_tellsFlight 129 = .ok (.ladd, 1) := by decide +kernel
theorem dX12_tellsFlight_130 : decode cX12_tellsFlight 130 = .ok (.lstore 4, 2) := by decide +kernel
theorem dX12_tellsFlight_132 : decode cX12_tellsFlight 132 = .ok (.ldc2_w 294, 3) := by decide +kernel
theorem dX12_tellsFlight_135 : decode cX12_tellsFlight 135 = .ok (.lload 4, 2) := by decide +kernel
theorem dX12_tellsFlight_137 : decode cX12_tellsFlight 137 = .ok (.lmul, 1) := by decide +kernel
theorem dX12_tellsFlight_138 : decode cX12_tellsFlight 138 = .ok (.aload_n 0, 1) := by decide +kernel
theorem dX12_tellsFlight_139 : decode cX12_tellsFlight 139 = .ok (.iload_n 3, 1) := by decide +kernel
theorem dX12_tellsFlight_140 : decode cX12_tellsFlight 140 = .ok (.iconst 0, 1) := by decide +kernel
theorem dX12_tellsFlight_141 : decode cX12_tellsFlight 141 = .ok (.invokevirtual 235, 3) := by decide +kernel
theorem dX12_tellsFlight_144 : decode cX12_tellsFlight 144 = .ok (.i2l, 1) := by decide +kernel
theorem dX12_tellsFlight_145 : decode cX12_tellsFlight 145 = .ok (.ladd, 1) := by decide +kernel
theorem dX12_tellsFlight_146 : decode cX12_tellsFlight 146 = .ok (.lstore 4, 2) := by decide +kernel
theorem dX12_tellsFlight_148 : decode cX12_tellsFlight 148 = .ok (.ldc2_w 294, 3) := by decide +kernel
theorem dX12_tellsFlight_151 : decode cX12_tellsFlight 151 = .ok (.lload 4, 2) := by decide +kernel
theorem dX12_tellsFlight_153 : decode cX12_tellsFlight 153 = .ok (.lmul, 1) := by decide +kernel
theorem dX12_tellsFlight_154 : decode cX12_tellsFlight 154 = .ok (.aload_n 0, 1) := by decide +kernel
theorem dX12_tellsFlight_155 : decode cX12_tellsFlight 155 = .ok (.iload_n 3, 1) := by decide +kernel
theorem dX12_tellsFlight_156 : decode cX12_tellsFlight 156 = .ok (.iconst 1, 1) := by decide +kernel
theorem dX12_tellsFlight_157 : decode cX12_tellsFlight 157 = .ok (.invokevirtual 235, 3) := by decide +kernel
theorem dX12_tellsFlight_160 : decode cX12_tellsFlight 160 = .ok (.i2l, 1) := by decide +kernel
theorem dX12_tellsFlight_161 : decode cX12_tellsFlight 161 = .ok (.ladd, 1) := by decide +kernel
theorem dX12_tellsFlight_162 : decode cX12_tellsFlight 162 = .ok (.lstore 4, 2) := by decide +kernel
theorem dX12_tellsFlight_164 : decode cX12_tellsFlight 164 = .ok (.ldc2_w 294, 3) := by decide +kernel
theorem dX12_tellsFlight_167 : decode cX12_tellsFlight 167 = .ok (.lload 4, 2) := by decide +kernel
theorem dX12_tellsFlight_169 : decode cX12_tellsFlight 169 = .ok (.lmul, 1) := by decide +kernel
theorem dX12_tellsFlight_170 : decode cX12_tellsFlight 170 = .ok (.aload_n 0, 1) := by decide +kernel
theorem dX12_tellsFlight_171 : decode cX12_tellsFlight 171 = .ok (.iload_n 3, 1) := by decide +kernel
theorem dX12_tellsFlight_172 : decode cX12_tellsFlight 172 = .ok (.invokevirtual 250, 3) := by decide +kernel
theorem dX12_tellsFlight_175 : decode cX12_tellsFlight 175 = .ok (.i2l, 1) := by decide +kernel
theorem dX12_tellsFlight_176 : decode cX12_tellsFlight 176 = .ok (.ladd, 1) := by decide +kernel
theorem dX12_tellsFlight_177 : decode cX12_tellsFlight 177 = .ok (.lstore 4, 2) := by decide +kernel
theorem dX12_tellsFlight_179 : decode cX12_tellsFlight 179 = .ok (.ldc2_w 294, 3) := by decide +kernel
theorem dX12_tellsFlight_182 : decode cX12_tellsFlight 182 = .ok (.lload 4, 2) := by decide +kernel
theorem dX12_tellsFlight_184 : decode cX12_tellsFlight 184 = .ok (.lmul, 1) := by decide +kernel
theorem dX12_tellsFlight_185 : decode cX12_tellsFlight 185 = .ok (.aload_n 0, 1) := by decide +kernel
theorem dX12_tellsFlight_186 : decode cX12_tellsFlight 186 = .ok (.iconst 5, 1) := by decide +kernel
theorem dX12_tellsFlight_187 : decode cX12_tellsFlight 187 = .ok (.iload_n 3, 1) := by decide +kernel
theorem dX12_tellsFlight_188 : decode cX12_tellsFlight 188 = .ok (.iconst 0, 1) := by decide +kernel
theorem dX12_tellsFlight_189 : decode cX12_tellsFlight 189 = .ok (.invokevirtual 299, 3) := by decide +kernel
theorem dX12_tellsFlight_192 : decode cX12_tellsFlight 192 = .ok (.ladd, 1) := by decide +kernel
theorem dX12_tellsFlight_193 : decode cX12_tellsFlight 193 = .ok (.lstore 4, 2) := by decide +kernel
theorem dX12_tellsFlight_195 : decode cX12_tellsFlight 195 = .ok (.ldc2_w 294, 3) := by decide +kernel
theorem dX12_tellsFlight_198 : decode cX12_tellsFlight 198 = .ok (.lload 4, 2) := by decide +kernel
theorem dX12_tellsFlight_200 : decode cX12_tellsFlight 200 = .ok (.lmul, 1) := by decide +kernel
theorem dX12_tellsFlight_201 : decode cX12_tellsFlight 201 = .ok (.aload_n 0, 1) := by decide +kernel
theorem dX12_tellsFlight_202 : decode cX12_tellsFlight 202 = .ok (.iconst 5, 1) := by decide +kernel
theorem dX12_tellsFlight_203 : decode cX12_tellsFlight 203 = .ok (.iload_n 3, 1) := by decide +kernel
theorem dX12_tellsFlight_204 : decode cX12_tellsFlight 204 = .ok (.iconst 1, 1) := by decide +kernel
theorem dX12_tellsFlight_205 : decode cX12_tellsFlight 205 = .ok (.invokevirtual 299, 3) := by decide +kernel
theorem dX12_tellsFlight_208 : decode cX12_tellsFlight 208 = .ok (.ladd, 1) := by decide +kernel
theorem dX12_tellsFlight_209 : decode cX12_tellsFlight 209 = .ok (.lreturn, 1) := by decide +kernel
set_option maxRecDepth 20000 in
theorem ggX12_digest_X12_count : GoodIn wsX12_digest wsX12_count := goodIn_r _ [14, 3, 5, 7, 15, 9, 16, 17, 18, 19, 20, 13, 21, 22, 23, 24, 25, 26, 4, 27, 28, 29, 30, 31, 32, 33, 34, 35, 36, 37, 38, 39, 40, 41, 6, 42, 43, 44, 45, 46, 47, 48, 49, 50, 51, 52, 8, 53, 54, 55, 211, 212, 213, 214, 215, 216, 217, 218, 219, 220, 221, 222, 223, 224, 225, 226, 227, 228, 229, 230, 231, 232, 233, 234, 235, 236, 237, 238, 239, 240] (by decide +kernel) (by decide +kernel)
set_option maxRecDepth 20000 in
theorem gX12_digest_X12_count : GoodIn wsX12_digest (wsV RX12 305 RX12 yX12_count wsX12_count) := goodIn_app (goodIn_of _ (by decide +kernel)) ggX12_digest_X12_count
set_option maxRecDepth 20000 in
theorem ggX12_digest_X12_readsText : GoodIn wsX12_digest wsX12_readsText := goodIn_r _ [59, 22, 23, 24, 13, 25, 3, 15, 26, 4, 27, 28, 29, 30, 31, 32, 33, 34, 35, 36, 37, 38, 39, 40, 41, 5, 6, 42, 43, 44, 45, 46, 47, 48, 49, 50, 51, 52, 7, 8, 53, 54, 55, 211, 212, 213, 214, 215, 216, 217, 218, 219, 220, 221, 222, 223, 224, 225, 226, 227, 228, 229, 230, 231, 232, 233, 234, 235, 236, 237, 238, 239, 240] (by decide +kernel) (by decide +kernel)
set_option maxRecDepth 20000 in
theorem gX12_digest_X12_readsText : GoodIn wsX12_digest (wsV RX12 138 RX12 yX12_readsText wsX12_readsText) := goodIn_app (goodIn_of _ (by decide +kernel)) ggX12_digest_X12_readsText
set_option maxRecDepth 20000 in
theorem ggX12_digest_X12_soresOf : GoodIn wsX12_digest wsX12_soresOf := goodIn_r _ [63, 6, 64, 65, 66, 13, 67, 16, 68, 69, 70, 71, 72, 9, 35, 36, 37, 73, 74, 75, 76, 77, 78, 79, 80, 81, 82, 83, 84, 85, 86, 87, 88, 89, 90, 8, 91, 92, 93, 3, 94, 95, 96, 97, 98, 5, 99, 100, 101, 102, 7, 103, 104, 105, 106, 4, 107, 108, 109, 110, 111, 112, 113, 114, 115, 116, 117, 118, 119, 120, 121, 122, 123, 124, 125, 126, 127, 211, 212, 213, 214, 215, 216, 217, 218, 219, 220, 221, 222, 223, 224, 225, 226, 227, 228, 229, 230, 231, 232, 233, 234, 235, 236, 237, 238, 239, 240] (by decide +kernel) (by decide +kernel)
set_option maxRecDepth 20000 in
theorem gX12_digest_X12_soresOf : GoodIn wsX12_digest (wsV RX12 247 RX12 yX12_soresOf wsX12_soresOf) := goodIn_app (goodIn_of _ (by decide +kernel)) ggX12_digest_X12_soresOf
set_option maxRecDepth 20000 in
theorem ggX12_digest_X12_askOf : GoodIn wsX12_digest wsX12_askOf := goodIn_r _ [131, 9, 60, 61, 62, 13, 63, 6, 64, 65, 66, 67, 16, 68, 69, 70, 71, 72, 35, 36, 37, 73, 74, 75, 76, 77, 78, 79, 80, 81, 82, 83, 84, 85, 86, 87, 88, 89, 90, 8, 91, 92, 93, 3, 94, 95, 96, 97, 98, 5, 99, 100, 101, 102, 7, 103, 104, 105, 106, 4, 107, 108, 109, 110, 111, 112, 113, 114, 115, 116, 117, 118, 119, 120, 121, 122, 123, 124, 125, 126, 127, 132, 133, 134, 135, 136, 211, 212, 213, 214, 215, 216, 217, 218, 219, 220, 221, 222, 223, 224, 225, 226, 227, 228, 229, 230, 231, 232, 233, 234, 235, 236, 237, 238, 239, 240] (by decide +kernel) (by decide +kernel)
set_option maxRecDepth 20000 in
theorem gX12_digest_X12_askOf : GoodIn wsX12_digest (wsV RX12 256 RX12 yX12_askOf wsX12_askOf) := goodIn_app (goodIn_of _ (by decide +kernel)) ggX12_digest_X12_askOf
set_option maxRecDepth 20000 in
theorem ggX12_digest_X12_tellsFlight : GoodIn wsX12_digest wsX12_tellsFlight := goodIn_r _ [140, 2, 73, 74, 75, 13, 76, 77, 78, 79, 80, 81, 82, 83, 84, 85, 86, 87, 88, 89, 90, 8, 91, 92, 93, 3, 94, 95, 96, 97, 98, 5, 35, 36, 37, 99, 100, 101, 102, 7, 103, 104, 105, 106, 4, 6, 107, 108, 109, 110, 111, 112, 113, 114, 115, 116, 117, 118, 119, 120, 121, 122, 123, 124, 125, 126, 127, 141, 142, 143, 144, 145, 18, 19, 20, 21, 22, 23, 24, 25, 15, 26, 27, 28, 29, 30, 31, 32, 33, 34, 38, 39, 40, 41, 42, 43, 44, 45, 46, 47, 48, 49, 50, 51, 52, 53, 54, 55, 69, 70, 71, 72, 9, 146, 147, 148, 149, 150, 151, 152, 153, 154, 155, 156, 157, 158, 159, 160, 161, 162, 163, 164, 165, 166, 167, 168, 64, 65, 66, 67, 16, 68, 169, 170, 171, 172, 173, 174, 175, 176, 177, 178, 179, 180, 181, 182, 183, 184, 185, 186, 187, 188, 189, 190, 191, 192, 193, 194, 195, 196, 211, 212, 213, 214, 215, 216, 217, 218, 219, 220, 221, 222, 223, 224, 225, 226, 227, 228, 229, 230, 231, 232, 233, 234, 235, 236, 237, 238, 239, 240] (by decide +kernel) (by decide +kernel)
set_option maxRecDepth 20000 in
theorem gX12_digest_X12_tellsFlight : GoodIn wsX12_digest (wsV RX12 308 RX12 yX12_tellsFlight wsX12_tellsFlight) := goodIn_app (goodIn_of _ (by decide +kernel)) ggX12_digest_X12_tellsFlight
set_option maxRecDepth 20000 in
theorem ggX12_digest_X12_farthestNow : GoodIn wsX12_digest wsX12_farthestNow := goodIn_r _ [200, 9, 87, 88, 77, 78, 79, 13, 80, 81, 82, 83, 84, 85, 86, 89, 90, 8, 91, 92, 93, 3, 94, 95, 96, 97, 98, 5, 35, 36, 37, 99, 100, 101, 102, 7, 103, 104, 105, 106, 4, 6, 107, 108, 109, 110, 111, 112, 113, 114, 115, 116, 117, 118, 119, 120, 121, 122, 123, 211, 212, 213, 214, 215, 216, 217, 218, 219, 220, 221, 222, 223, 224, 225, 226, 227, 228, 229, 230, 231, 232, 233, 234, 235, 236, 237, 238, 239, 240] (by decide +kernel) (by decide +kernel)
set_option maxRecDepth 20000 in
theorem gX12_digest_X12_farthestNow : GoodIn wsX12_digest (wsV RX12 221 RX12 yX12_farthestNow wsX12_farthestNow) := goodIn_app (goodIn_of _ (by decide +kernel)) ggX12_digest_X12_farthestNow
set_option maxRecDepth 20000 in
theorem ggX12_digest_X12_lakesOf : GoodIn wsX12_digest wsX12_lakesOf := goodIn_r _ [204, 205, 5, 7, 88, 206, 207, 208, 13, 209, 210, 82, 83, 84, 85, 86, 87, 89, 90, 8, 91, 92, 93, 3, 94, 95, 96, 97, 98, 35, 36, 37, 99, 100, 101, 102, 103, 104, 105, 106, 4, 6, 107, 108, 109, 110, 111, 112, 113, 114, 115, 116, 117, 118, 119, 120, 121, 122, 123, 211, 212, 213, 214, 215, 216, 217, 218, 219, 220, 221, 222, 223, 224, 225, 226, 227, 228, 229, 230, 231, 232, 233, 234, 235, 236, 237, 238, 239, 240] (by decide +kernel) (by decide +kernel)
set_option maxRecDepth 20000 in
theorem gX12_digest_X12_lakesOf : GoodIn wsX12_digest (wsV RX12 288 RX12 yX12_lakesOf wsX12_lakesOf) := goodIn_app (goodIn_of _ (by decide +kernel)) ggX12_digest_X12_lakesOf
theorem dX12_digest_0 : decode cX12_digest 0 = .ok (.ldc2_w 303, 3) := by decide +kernel
theorem dX12_digest_3 : decode cX12_digest 3 = .ok (.lstore_n 1, 1) := by decide +kernel
theorem dX12_digest_4 : decode cX12_digest 4 = .ok (.iconst 0, 1) := by decide +kernel
theorem dX12_digest_5 : decode cX12_digest 5 = .ok (.istore_n 3, 1) := by decide +kernel
theorem dX12_digest_6 : decode cX12_digest 6 = .ok (.iload_n 3, 1) := by decide +kernel
theorem dX12_digest_7 : decode cX12_digest 7 = .ok (.bipush 8, 2) := by decide +kernel
theorem dX12_digest_9 : decode cX12_digest 9 = .ok (.if_icmp .ge 22, 3) := by decide +kernel
theorem dX12_digest_12 : decode cX12_digest 12 = .ok (.ldc2_w 294, 3) := by decide +kernel
theorem dX12_digest_15 : decode cX12_digest 15 = .ok (.lload_n 1, 1) := by decide +kernel
theorem dX12_digest_16 : decode cX12_digest 16 = .ok (.lmul, 1) := by decide +kernel
theorem dX12_digest_17 : decode cX12_digest 17 = .ok (.aload_n 0, 1) := by decide +kernel
theorem dX12_digest_18 : decode cX12_digest 18 = .ok (.iload_n 3, 1) := by decide +kernel
theorem dX12_digest_19 : decode cX12_digest 19 = .ok (.invokevirtual 305, 3) := by decide +kernel
theorem dX12_digest_22 : decode cX12_digest 22 = .ok (.i2l, 1) := by decide +kernel
theorem dX12_digest_23 : decode cX12_digest 23 = .ok (.ladd, 1) := by decide +kernel
theorem dX12_digest_24 : decode cX12_digest 24 = .ok (.lstore_n 1, 1) := by decide +kernel
theorem dX12_digest_25 : decode cX12_digest 25 = .ok (.iinc 3 1, 3) := by decide +kernel
theorem dX12_digest_28 : decode cX12_digest 28 = .ok (.goto (-22), 3) := by decide +kernel
theorem dX12_digest_31 : decode cX12_digest 31 = .ok (.iconst 0, 1) := by decide +kernel
theorem dX12_digest_32 : decode cX12_digest 32 = .ok (.istore_n 3, 1) := by decide +kernel
theorem dX12_digest_33 : decode cX12_digest 33 = .ok (.iload_n 3, 1) := by decide +kernel
theorem dX12_digest_34 : decode cX12_digest 34 = .ok (.iconst 3, 1) := by decide +kernel
theorem dX12_digest_35 : decode cX12_digest 35 = .ok (.if_icmp .ge 22, 3) := by decide +kernel
theorem dX12_digest_38 : decode cX12_digest 38 = .ok (.ldc2_w 294, 3) := by decide +kernel
theorem dX12_digest_41 : decode cX12_digest 41 = .ok (.lload_n 1, 1) := by decide +kernel
theorem dX12_digest_42 : decode cX12_digest 42 = .ok (.lmul, 1) := by decide +kernel
theorem dX12_digest_43 : decode cX12_digest 43 = .ok (.aload_n 0, 1) := by decide +kernel
theorem dX12_digest_44 : decode cX12_digest 44 = .ok (.iload_n 3, 1) := by decide +kernel
theorem dX12_digest_45 : decode cX12_digest 45 = .ok (.invokevirtual 138, 3) := by decide +kernel
theorem dX12_digest_48 : decode cX12_digest 48 = .ok (.i2l, 1) := by decide +kernel
theorem dX12_digest_49 : decode cX12_digest 49 = .ok (.ladd, 1) := by decide +kernel
theorem dX12_digest_50 : decode cX12_digest 50 = .ok (.lstore_n 1, 1) := by decide +kernel
theorem dX12_digest_51 : decode cX12_digest 51 = .ok (.iinc 3 1, 3) := by decide +kernel
theorem dX12_digest_54 : decode cX12_digest 54 = .ok (.goto (-21), 3) := by decide +kernel
theorem dX12_digest_57 : decode cX12_digest 57 = .ok (.iconst 0, 1) := by decide +kernel
theorem dX12_digest_58 : decode cX12_digest 58 = .ok (.istore_n 3, 1) := by decide +kernel
theorem dX12_digest_59 : decode cX12_digest 59 = .ok (.iload_n 3, 1) := by decide +kernel
theorem dX12_digest_60 : decode cX12_digest 60 = .ok (.aload_n 0, 1) := by decide +kernel
theorem dX12_digest_61 : decode cX12_digest 61 = .ok (.getfield 107, 3) := by decide +kernel
theorem dX12_digest_64 : decode cX12_digest 64 = .ok (.if_icmp .ge 23, 3) := by decide +kernel
theorem dX12_digest_67 : decode cX12_digest 67 = .ok (.ldc2_w 294, 3) := by decide +kernel
theorem dX12_digest_70 : decode cX12_digest 70 = .ok (.lload_n 1, 1) := by decide +kernel
theorem dX12_digest_71 : decode cX12_digest 71 = .ok (.lmul, 1) := by decide +kernel
theorem dX12_digest_72 : decode cX12_digest 72 = .ok (.aload_n 0, 1) := by decide +kernel
theorem dX12_digest_73 : decode cX12_digest 73 = .ok (.getfield 28, 3) := by decide +kernel
theorem dX12_digest_76 : decode cX12_digest 76 = .ok (.iload_n 3, 1) := by decide +kernel
theorem dX12_digest_77 : decode cX12_digest 77 = .ok (.iaload, 1) := by decide +kernel
theorem dX12_digest_78 : decode cX12_digest 78 = .ok (.i2l, 1) := by decide +kernel
theorem dX12_digest_79 : decode cX12_digest 79 = .ok (.ladd, 1) := by decide +kernel
theorem dX12_digest_80 : decode cX12_digest 80 = .ok (.lstore_n 1, 1) := by decide +kernel
theorem dX12_digest_81 : decode cX12_digest 81 = .ok (.iinc 3 1, 3) := by decide +kernel
theorem dX12_digest_84 : decode cX12_digest 84 = .ok (.goto (-25), 3) := by decide +kernel
theorem dX12_digest_87 : decode cX12_digest 87 = .ok (.iconst 0, 1) := by decide +kernel
theorem dX12_digest_88 : decode cX12_digest 88 = .ok (.istore_n 3, 1) := by decide +kernel
theorem dX12_digest_89 : decode cX12_digest 89 = .ok (.iload_n 3, 1) := by decide +kernel
theorem dX12_digest_90 : decode cX12_digest 90 = .ok (.aload_n 0, 1) := by decide +kernel
theorem dX12_digest_91 : decode cX12_digest 91 = .ok (.getfield 116, 3) := by decide +kernel
theorem dX12_digest_94 : decode cX12_digest 94 = .ok (.if_icmp .ge 69, 3) := by decide +kernel
theorem dX12_digest_97 : decode cX12_digest 97 = .ok (.iconst 0, 1) := by decide +kernel
theorem dX12_digest_98 : decode cX12_digest 98 = .ok (.istore 4, 2) := by decide +kernel
theorem dX12_digest_100 : decode cX12_digest 100 = .ok (.iload 4, 2) := by decide +kernel
theorem dX12_digest_102 : decode cX12_digest 102 = .ok (.iconst 4, 1) := by decide +kernel
theorem dX12_digest_103 : decode cX12_digest 103 = .ok (.if_icmp .ge 28, 3) := by decide +kernel
theorem dX12_digest_106 : decode cX12_digest 106 = .ok (.ldc2_w 294, 3) := by decide +kernel
theorem dX12_digest_109 : decode cX12_digest 109 = .ok (.lload_n 1, 1) := by decide +kernel
theorem dX12_digest_110 : decode cX12_digest 110 = .ok (.lmul, 1) := by decide +kernel
theorem dX12_digest_111 : decode cX12_digest 111 = .ok (.aload_n 0, 1) := by decide +kernel
theorem dX12_digest_112 : decode cX12_digest 112 = .ok (.getfield 31, 3) := by decide +kernel
theorem dX12_digest_115 : decode cX12_digest 115 = .ok (.iconst 4, 1) := by decide +kernel
theorem dX12_digest_116 : decode cX12_digest 116 = .ok (.iload_n 3, 1) := by decide +kernel
theorem dX12_digest_117 : decode cX12_digest 117 = .ok (.imul, 1) := by decide +kernel
theorem dX12_digest_118 : decode cX12_digest 118 = .ok (.iload 4, 2) := by decide +kernel
theorem dX12_digest_120 : decode cX12_digest 120 = .ok (.iadd, 1) := by decide +kernel
theorem dX12_digest_121 : decode cX12_digest 121 = .ok (.iaload, 1) := by decide +kernel
theorem dX12_digest_122 : decode cX12_digest 122 = .ok (.i2l, 1) := by decide +kernel
theorem dX12_digest_123 : decode cX12_digest 123 = .ok (.ladd, 1) := by decide +kernel
theorem dX12_digest_124 : decode cX12_digest 124 = .ok (.lstore_n 1, 1) := by decide +kernel
theorem dX12_digest_125 : decode cX12_digest 125 = .ok (.iinc 4 1, 3) := by decide +kernel
theorem dX12_digest_128 : decode cX12_digest 128 = .ok (.goto (-28), 3) := by decide +kernel
theorem dX12_digest_131 : decode cX12_digest 131 = .ok (.ldc2_w 294, 3) := by decide +kernel
theorem dX12_digest_134 : decode cX12_digest 134 = .ok (.lload_n 1, 1) := by decide +kernel
theorem dX12_digest_135 : decode cX12_digest 135 = .ok (.lmul, 1) := by decide +kernel
theorem dX12_digest_136 : decode cX12_digest 136 = .ok (.aload_n 0, 1) := by decide +kernel
theorem dX12_digest_137 : decode cX12_digest 137 = .ok (.iload_n 3, 1) := by decide +kernel
theorem dX12_digest_138 : decode cX12_digest 138 = .ok (.invokevirtual 247, 3) := by decide +kernel
theorem dX12_digest_141 : decode cX12_digest 141 = .ok (.i2l, 1) := by decide +kernel
theorem dX12_digest_142 : decode cX12_digest 142 = .ok (.ladd, 1) := by decide +kernel
theorem dX12_digest_143 : decode cX12_digest 143 = .ok (.lstore_n 1, 1) := by decide +kernel
theorem dX12_digest_144 : decode cX12_digest 144 = .ok (.ldc2_w 294, 3) := by decide +kernel
theorem dX12_digest_147 : decode cX12_digest 147 = .ok (.lload_n 1, 1) := by decide +kernel
theorem dX12_digest_148 : decode cX12_digest 148 = .ok (.lmul, 1) := by decide +kernel
theorem dX12_digest_149 : decode cX12_digest 149 = .ok (.aload_n 0, 1) := by decide +kernel
theorem dX12_digest_150 : decode cX12_digest 150 = .ok (.iload_n 3, 1) := by decide +kernel
theorem dX12_digest_151 : decode cX12_digest 151 = .ok (.invokevirtual 256, 3) := by decide +kernel
theorem dX12_digest_154 : decode cX12_digest 154 = .ok (.i2l, 1) := by decide +kernel
theorem dX12_digest_155 : decode cX12_digest 155 = .ok (.ladd, 1) := by decide +kernel
theorem dX12_digest_156 : decode cX12_digest 156 = .ok (.lstore_n 1, 1) := by decide +kernel
theorem dX12_digest_157 : decode cX12_digest 157 = .ok (.iinc 3 1, 3) := by decide +kernel
theorem dX12_digest_160 : decode cX12_digest 160 = .ok (.goto (-71), 3) := by decide +kernel
theorem dX12_digest_163 : decode cX12_digest 163 = .ok (.iconst 0, 1) := by decide +kernel
theorem dX12_digest_164 : decode cX12_digest 164 = .ok (.istore_n 3, 1) := by decide +kernel
theorem dX12_digest_165 : decode cX12_digest 165 = .ok (.iload_n 3, 1) := by decide +kernel
theorem dX12_digest_166 : decode cX12_digest 166 = .ok (.aload_n 0, 1) := by decide +kernel
theorem dX12_digest_167 : decode cX12_digest 167 = .ok (.getfield 122, 3) := by decide +kernel
theorem dX12_digest_170 : decode cX12_digest 170 = .ok (.if_icmp .ge 43, 3) := by decide +kernel
theorem dX12_digest_173 : decode cX12_digest 173 = .ok (.ldc2_w 294, 3) := by decide +kernel
theorem dX12_digest_176 : decode cX12_digest 176 = .ok (.lload_n 1, 1) := by decide +kernel
theorem dX12_digest_177 : decode cX12_digest 177 = .ok (.lmul, 1) := by decide +kernel
theorem dX12_digest_178 : decode cX12_digest 178 = .ok (.aload_n 0, 1) := by decide +kernel
theorem dX12_digest_179 : decode cX12_digest 179 = .ok (.getfield 34, 3) := by decide +kernel
theorem dX12_digest_182 : decode cX12_digest 182 = .ok (.iconst 2, 1) := by decide +kernel
theorem dX12_digest_183 : decode cX12_digest 183 = .ok (.iload_n 3, 1) := by decide +kernel
theorem dX12_digest_184 : decode cX12_digest 184 = .ok (.imul, 1) := by decide +kernel
theorem dX12_digest_185 : decode cX12_digest 185 = .ok (.iaload, 1) := by decide +kernel
theorem dX12_digest_186 : decode cX12_digest 186 = .ok (.i2l, 1) := by decide +kernel
theorem dX12_digest_187 : decode cX12_digest 187 = .ok (.ladd, 1) := by decide +kernel
theorem dX12_digest_188 : decode cX12_digest 188 = .ok (.lstore_n 1, 1) := by decide +kernel
theorem dX12_digest_189 : decode cX12_digest 189 = .ok (.ldc2_w 294, 3) := by decide +kernel
theorem dX12_digest_192 : decode cX12_digest 192 = .ok (.lload_n 1, 1) := by decide +kernel
theorem dX12_digest_193 : decode cX12_digest 193 = .ok (.lmul, 1) := by decide +kernel
theorem dX12_digest_194 : decode cX12_digest 194 = .ok (.aload_n 0, 1) := by decide +kernel
theorem dX12_digest_195 : decode cX12_digest 195 = .ok (.getfield 34, 3) := by decide +kernel
theorem dX12_digest_198 : decode cX12_digest 198 = .ok (.iconst 2, 1) := by decide +kernel
theorem dX12_digest_199 : decode cX12_digest 199 = .ok (.iload_n 3, 1) := by decide +kernel
theorem dX12_digest_200 : decode cX12_digest 200 = .ok (.imul, 1) := by decide +kernel
theorem dX12_digest_201 : decode cX12_digest 201 = .ok (.iconst 1, 1) := by decide +kernel
theorem dX12_digest_202 : decode cX12_digest 202 = .ok (.iadd, 1) := by decide +kernel
theorem dX12_digest_203 : decode cX12_digest 203 = .ok (.iaload, 1) := by decide +kernel
theorem dX12_digest_204 : decode cX12_digest 204 = .ok (.i2l, 1) := by decide +kernel
theorem dX12_digest_205 : decode cX12_digest 205 = .ok (.ladd, 1) := by decide +kernel
theorem dX12_digest_206 : decode cX12_digest 206 = .ok (.lstore_n 1, 1) := by decide +kernel
theorem dX12_digest_207 : decode cX12_digest 207 = .ok (.iinc 3 1, 3) := by decide +kernel
theorem dX12_digest_210 : decode cX12_digest 210 = .ok (.goto (-45), 3) := by decide +kernel
theorem dX12_digest_213 : decode cX12_digest 213 = .ok (.iconst 0, 1) := by decide +kernel
theorem dX12_digest_214 : decode cX12_digest 214 = .ok (.istore_n 3, 1) := by decide +kernel
theorem dX12_digest_215 : decode cX12_digest 215 = .ok (.iload_n 3, 1) := by decide +kernel
theorem dX12_digest_216 : decode cX12_digest 216 = .ok (.aload_n 0, 1) := by decide +kernel
theorem dX12_digest_217 : decode cX12_digest 217 = .ok (.getfield 159, 3) := by decide +kernel
theorem dX12_digest_220 : decode cX12_digest 220 = .ok (.if_icmp .ge 16, 3) := by decide +kernel
theorem dX12_digest_223 : decode cX12_digest 223 = .ok (.aload_n 0, 1) := by decide +kernel
theorem dX12_digest_224 : decode cX12_digest 224 = .ok (.lload_n 1, 1) := by decide +kernel
theorem dX12_digest_225 : decode cX12_digest 225 = .ok (.iload_n 3, 1) := by decide +kernel
theorem dX12_digest_226 : decode cX12_digest 226 = .ok (.invokevirtual 308, 3) := by decide +kernel
theorem dX12_digest_229 : decode cX12_digest 229 = .ok (.lstore_n 1, 1) := by decide +kernel
theorem dX12_digest_230 : decode cX12_digest 230 = .ok (.iinc 3 1, 3) := by decide +kernel
theorem dX12_digest_233 : decode cX12_digest 233 = .ok (.goto (-18), 3) := by decide +kernel
theorem dX12_digest_236 : decode cX12_digest 236 = .ok (.ldc2_w 294, 3) := by decide +kernel
theorem dX12_digest_239 : decode cX12_digest 239 = .ok (.lload_n 1, 1) := by decide +kernel
theorem dX12_digest_240 : decode cX12_digest 240 = .ok (.lmul, 1) := by decide +kernel
theorem dX12_digest_241 : decode cX12_digest 241 = .ok (.aload_n 0, 1) := by decide +kernel
theorem dX12_digest_242 : decode cX12_digest 242 = .ok (.invokevirtual 221, 3) := by decide +kernel
theorem dX12_digest_245 : decode cX12_digest 245 = .ok (.i2l, 1) := by decide +kernel
theorem dX12_digest_246 : decode cX12_digest 246 = .ok (.ladd, 1) := by decide +kernel
theorem dX12_digest_247 : decode cX12_digest 247 = .ok (.lstore_n 1, 1) := by decide +kernel
theorem dX12_digest_248 : decode cX12_digest 248 = .ok (.ldc2_w 294, 3) := by decide +kernel
theorem dX12_digest_251 : decode cX12_digest 251 = .ok (.lload_n 1, 1) := by decide +kernel
theorem dX12_digest_252 : decode cX12_digest 252 = .ok (.lmul, 1) := by decide +kernel
theorem dX12_digest_253 : decode cX12_digest 253 = .ok (.aload_n 0, 1) := by decide +kernel
theorem dX12_digest_254 : decode cX12_digest 254 = .ok (.bipush 7, 2) := by decide +kernel
theorem dX12_digest_256 : decode cX12_digest 256 = .ok (.bipush 30, 2) := by decide +kernel
theorem dX12_digest_258 : decode cX12_digest 258 = .ok (.iconst 0, 1) := by decide +kernel
theorem dX12_digest_259 : decode cX12_digest 259 = .ok (.invokevirtual 288, 3) := by decide +kernel
theorem dX12_digest_262 : decode cX12_digest 262 = .ok (.i2l, 1) := by decide +kernel
theorem dX12_digest_263 : decode cX12_digest 263 = .ok (.ladd, 1) := by decide +kernel
theorem dX12_digest_264 : decode cX12_digest 264 = .ok (.lstore_n 1, 1) := by decide +kernel
theorem dX12_digest_265 : decode cX12_digest 265 = .ok (.ldc2_w 294, 3) := by decide +kernel
theorem dX12_digest_268 : decode cX12_digest 268 = .ok (.lload_n 1, 1) := by decide +kernel
theorem dX12_digest_269 : decode cX12_digest 269 = .ok (.lmul, 1) := by decide +kernel
theorem dX12_digest_270 : decode cX12_digest 270 = .ok (.aload_n 0, 1) := by decide +kernel
theorem dX12_digest_271 : decode cX12_digest 271 = .ok (.bipush 7, 2) := by decide +kernel
theorem dX12_digest_273 : decode cX12_digest 273 = .ok (.bipush 30, 2) := by decide +kernel
theorem dX12_digest_275 : decode cX12_digest 275 = .ok (.iconst 1, 1) := by decide +kernel
theorem dX12_digest_276 : decode cX12_digest 276 = .ok (.invokevirtual 288, 3) := by decide +kernel
theorem dX12_digest_279 : decode cX12_digest 279 = .ok (.i2l, 1) := by decide +kernel
theorem dX12_digest_280 : decode cX12_digest 280 = .ok (.ladd, 1) := by decide +kernel
theorem dX12_digest_281 : decode cX12_digest 281 = .ok (.lreturn, 1) := by decide +kernel
theorem dJ6_bitCount_0f7a4_0 : decode cJ6_bitCount_0f7a4 0 = .ok (.iload_n 0, 1) := by decide +kernel
theorem dJ6_bitCount_0f7a4_1 : decode cJ6_bitCount_0f7a4 1 = .ok (.iload_n 0, 1) := by decide +kernel
theorem dJ6_bitCount_0f7a4_2 : decode cJ6_bitCount_0f7a4 2 = .ok (.iconst 1, 1) := by decide +kernel
theorem dJ6_bitCount_0f7a4_3 : decode cJ6_bitCount_0f7a4 3 = .ok (.iushr, 1) := by decide +kernel
theorem dJ6_bitCount_0f7a4_4 : decode cJ6_bitCount_0f7a4 4 = .ok (.ldc_w 265, 3) := by decide +kernel
theorem dJ6_bitCount_0f7a4_7 : decode cJ6_bitCount_0f7a4 7 = .ok (.iand, 1) := by decide +kernel
theorem dJ6_bitCount_0f7a4_8 : decode cJ6_bitCount_0f7a4 8 = .ok (.isub, 1) := by decide +kernel
theorem dJ6_bitCount_0f7a4_9 : decode cJ6_bitCount_0f7a4 9 = .ok (.istore_n 0, 1) := by decide +kernel
theorem dJ6_bitCount_0f7a4_10 : decode cJ6_bitCount_0f7a4 10 = .ok (.iload_n 0, 1) := by decide +kernel
theorem dJ6_bitCount_0f7a4_11 : decode cJ6_bitCount_0f7a4 11 = .ok (.ldc_w 266, 3) := by decide +kernel
theorem dJ6_bitCount_0f7a4_14 : decode cJ6_bitCount_0f7a4 14 = .ok (.iand, 1) := by decide +kernel
theorem dJ6_bitCount_0f7a4_15 : decode cJ6_bitCount_0f7a4 15 = .ok (.iload_n 0, 1) := by decide +kernel
theorem dJ6_bitCount_0f7a4_16 : decode cJ6_bitCount_0f7a4 16 = .ok (.iconst 2, 1) := by decide +kernel
theorem dJ6_bitCount_0f7a4_17 : decode cJ6_bitCount_0f7a4 17 = .ok (.iushr, 1) := by decide +kernel
theorem dJ6_bitCount_0f7a4_18 : decode cJ6_bitCount_0f7a4 18 = .ok (.ldc_w 266, 3) := by decide +kernel
theorem dJ6_bitCount_0f7a4_21 : decode cJ6_bitCount_0f7a4 21 = .ok (.iand, 1) := by decide +kernel
theorem dJ6_bitCount_0f7a4_22 : decode cJ6_bitCount_0f7a4 22 = .ok (.iadd, 1) := by decide +kernel
theorem dJ6_bitCount_0f7a4_23 : decode cJ6_bitCount_0f7a4 23 = .ok (.istore_n 0, 1) := by decide +kernel
theorem dJ6_bitCount_0f7a4_24 : decode cJ6_bitCount_0f7a4 24 = .ok (.iload_n 0, 1) := by decide +kernel
theorem dJ6_bitCount_0f7a4_25 : decode cJ6_bitCount_0f7a4 25 = .ok (.iload_n 0, 1) := by decide +kernel
theorem dJ6_bitCount_0f7a4_26 : decode cJ6_bitCount_0f7a4 26 = .ok (.iconst 4, 1) := by decide +kernel
theorem dJ6_bitCount_0f7a4_27 : decode cJ6_bitCount_0f7a4 27 = .ok (.iushr, 1) := by decide +kernel
theorem dJ6_bitCount_0f7a4_28 : decode cJ6_bitCount_0f7a4 28 = .ok (.iadd, 1) := by decide +kernel
theorem dJ6_bitCount_0f7a4_29 : decode cJ6_bitCount_0f7a4 29 = .ok (.ldc_w 267, 3) := by decide +kernel
theorem dJ6_bitCount_0f7a4_32 : decode cJ6_bitCount_0f7a4 32 = .ok (.iand, 1) := by decide +kernel
theorem dJ6_bitCount_0f7a4_33 : decode cJ6_bitCount_0f7a4 33 = .ok (.istore_n 0, 1) := by decide +kernel
theorem dJ6_bitCount_0f7a4_34 : decode cJ6_bitCount_0f7a4 34 = .ok (.iload_n 0, 1) := by decide +kernel
theorem dJ6_bitCount_0f7a4_35 : decode cJ6_bitCount_0f7a4 35 = .ok (.iload_n 0, 1) := by decide +kernel
theorem dJ6_bitCount_0f7a4_36 : decode cJ6_bitCount_0f7a4 36 = .ok (.bipush 8, 2) := by decide +kernel
theorem dJ6_bitCount_0f7a4_38 : decode cJ6_bitCount_0f7a4 38 = .ok (.iushr, 1) := by decide +kernel
theorem dJ6_bitCount_0f7a4_39 : decode cJ6_bitCount_0f7a4 39 = .ok (.iadd, 1) := by decide +kernel
theorem dJ6_bitCount_0f7a4_40 : decode cJ6_bitCount_0f7a4 40 = .ok (.istore_n 0, 1) := by decide +kernel
theorem dJ6_bitCount_0f7a4_41 : decode cJ6_bitCount_0f7a4 41 = .ok (.iload_n 0, 1) := by decide +kernel
theorem dJ6_bitCount_0f7a4_42 : decode cJ6_bitCount_0f7a4 42 = .ok (.iload_n 0, 1) := by decide +kernel
theorem dJ6_bitCount_0f7a4_43 : decode cJ6_bitCount_0f7a4 43 = .ok (.bipush 16, 2) := by decide +kernel
theorem dJ6_bitCount_0f7a4_45 : decode cJ6_bitCount_0f7a4 45 = .ok (.iushr, 1) := by decide +kernel
theorem dJ6_bitCount_0f7a4_46 : decode cJ6_bitCount_0f7a4 46 = .ok (.iadd, 1) := by decide +kernel
theorem dJ6_bitCount_0f7a4_47 : decode cJ6_bitCount_0f7a4 47 = .ok (.istore_n 0, 1) := by decide +kernel
theorem dJ6_bitCount_0f7a4_48 : decode cJ6_bitCount_0f7a4 48 = .ok (.iload_n 0, 1) := by decide +kernel
theorem dJ6_bitCount_0f7a4_49 : decode cJ6_bitCount_0f7a4 49 = .ok (.bipush 63, 2) := by decide +kernel
theorem dJ6_bitCount_0f7a4_51 : decode cJ6_bitCount_0f7a4 51 = .ok (.iand, 1) := by decide +kernel
theorem dJ6_bitCount_0f7a4_52 : decode cJ6_bitCount_0f7a4 52 = .ok (.ireturn, 1) := by decide +kernel
theorem dJ9_max_7cf53_0 : decode cJ9_max_7cf53 0 = .ok (.iload_n 0, 1) := by decide +kernel
theorem dJ9_max_7cf53_1 : decode cJ9_max_7cf53 1 = .ok (.iload_n 1, 1) := by decide +kernel
theorem dJ9_max_7cf53_2 : decode cJ9_max_7cf53 2 = .ok (.if_icmp .lt 7, 3) := by decide +kernel
theorem dJ9_max_7cf53_5 : decode cJ9_max_7cf53 5 = .ok (.iload_n 0, 1) := by decide +kernel
theorem dJ9_max_7cf53_6 : decode cJ9_max_7cf53 6 = .ok (.goto 4, 3) := by decide +kernel
theorem dJ9_max_7cf53_9 : decode cJ9_max_7cf53 9 = .ok (.iload_n 1, 1) := by decide +kernel
theorem dJ9_max_7cf53_10 : decode cJ9_max_7cf53 10 = .ok (.ireturn, 1) := by decide +kernel
theorem dJ9_min_7cf53_0 : decode cJ9_min_7cf53 0 = .ok (.iload_n 0, 1) := by decide +kernel
theorem dJ9_min_7cf53_1 : decode cJ9_min_7cf53 1 = .ok (.iload_n 1, 1) := by decide +kernel
theorem dJ9_min_7cf53_2 : decode cJ9_min_7cf53 2 = .ok (.if_icmp .gt 7, 3) := by decide +kernel
theorem dJ9_min_7cf53_5 : decode cJ9_min_7cf53 5 = .ok (.iload_n 0, 1) := by decide +kernel
theorem dJ9_min_7cf53_6 : decode cJ9_min_7cf53 6 = .ok (.goto 4, 3) := by decide +kernel
theorem dJ9_min_7cf53_9 : decode cJ9_min_7cf53 9 = .ok (.iload_n 1, 1) := by decide +kernel
theorem dJ9_min_7cf53_10 : decode cJ9_min_7cf53 10 = .ok (.ireturn, 1) := by decide +kernel
set_option maxRecDepth 20000 in
theorem ggL_law_X11_init : GoodIn wsL_law wsX11_init := goodIn_r _ [8, 9, 10, 11, 12, 13, 14, 15, 16, 17, 18, 19, 20, 21, 22, 23, 24, 25, 26, 27, 28, 29, 30, 31, 32, 33, 34, 35, 36, 37, 38, 39, 40, 41, 42, 43, 44, 45, 46, 47, 48, 49, 50, 51, 52, 53, 54, 55, 56, 57, 58, 59, 60, 61, 62, 63, 64, 65, 66, 67, 68, 69, 70, 71, 72, 73, 74, 75, 76, 77, 78, 79, 80, 81, 82, 83, 84, 85, 86, 87, 88, 89, 90, 91, 92, 93, 94, 95, 96, 97, 98, 99, 100, 101, 102, 103, 104, 105, 106, 107, 108, 109, 110, 1044, 1045, 1046, 1047, 999, 1000, 1001, 1002, 1003, 1004, 1005, 1006, 1007, 1008, 1009, 1010, 1011, 1012, 1013, 1048, 1049, 1050, 1051, 1052, 1053, 1054, 1055, 1056, 1057, 1058, 1059, 1060, 1061, 1062, 1063, 1064, 1065, 1066, 1067, 1068, 1069, 1070, 1071, 1072, 1073, 1074, 1075, 1076, 1077, 1078, 1079, 1080, 1081, 1082, 1083, 1084, 1085, 1086, 1087, 1088, 1089, 1090] (by decide +kernel) (by decide +kernel)
set_option maxRecDepth 20000 in
theorem gL_law_X11_init : GoodIn wsL_law (wsX11_init) := ggL_law_X11_init
set_option maxRecDepth 20000 in
theorem ggL_law_X12_init : GoodIn wsL_law wsX12_init := goodIn_r _ [113, 114, 10, 11, 44, 115, 116, 117, 118, 119, 120, 121, 122, 123, 124, 125, 126, 127, 128, 129, 130, 131, 132, 1014, 1015, 1016, 1017, 1018, 1019, 1020, 1021, 1022, 1023, 1024, 1025, 1026, 1027, 1028, 1029, 1030, 1031, 1032, 1033, 1034, 1035, 1036, 1037, 1038, 1039, 1040, 1041, 1042, 1043] (by decide +kernel) (by decide +kernel)
set_option maxRecDepth 20000 in
theorem gL_law_X12_init : GoodIn wsL_law (wsX12_init) := ggL_law_X12_init
set_option maxRecDepth 20000 in
theorem ggL_law_X11_type : GoodIn wsL_law wsX11_type := goodIn_r _ [136, 137, 138, 139, 140, 2, 141, 15, 19, 23, 142, 143, 144, 145, 57, 146, 147, 65, 148, 149, 150, 151, 152, 153, 154, 155, 156, 157, 158, 22, 159, 160, 161, 14, 162, 163, 164, 18, 165, 166, 167, 168, 169, 170, 171, 172, 173, 60, 174, 175, 176, 177, 178, 179, 180, 181, 182, 183, 184, 185, 186, 187, 188, 189, 190, 191, 192, 193, 194, 195, 196, 1052, 1053, 1054, 1055, 1044, 1045, 1046, 1047, 1048, 1049, 1050, 1051, 999, 1000, 1001, 1002, 1003, 1004, 1005, 1006, 1007, 1008, 1009, 1010, 1011, 1012, 1013] (by decide +kernel) (by decide +kernel)
set_option maxRecDepth 20000 in
theorem gL_law_X11_type : GoodIn wsL_law (wsV RL 13 RX11 yX11_type wsX11_type) := goodIn_app (goodIn_of _ (by decide +kernel)) ggL_law_X11_type
set_option maxRecDepth 20000 in
theorem ggL_law_X12_type : GoodIn wsL_law wsX12_type := goodIn_r _ [200, 201, 120, 119, 202, 203, 5, 204, 205, 206, 207, 208, 1014, 1015, 1016, 1017, 1018, 1019, 1020, 1021, 1022, 1023, 1024, 1025, 1026, 1027, 1028, 1029, 1030, 1031, 1032, 1033, 1034, 1035, 1036, 1037, 1038, 1039, 1040, 1041, 1042, 1043] (by decide +kernel) (by decide +kernel)
set_option maxRecDepth 20000 in
theorem gL_law_X12_type : GoodIn wsL_law (wsV RL 17 RX12 yX12_type wsX12_type) := goodIn_app (goodIn_of _ (by decide +kernel)) ggL_law_X12_type
set_option maxRecDepth 20000 in
theorem ggL_law_X11_wipe : GoodIn wsL_law wsX11_wipe := goodIn_r _ [212, 137, 138, 139, 140, 2, 141, 15, 19, 23, 213, 214, 215, 216, 57, 217, 147, 218, 219, 63, 220, 61, 62, 64, 169, 170, 171, 172, 173, 60, 174, 175, 176, 177, 178, 179, 65, 180, 181, 182, 183, 184, 185, 22, 186, 187, 188, 14, 189, 190, 191, 18, 192, 193, 194, 221, 222, 1052, 1053, 1054, 1055, 1044, 1045, 1046, 1047, 1048, 1049, 1050, 1051, 999, 1000, 1001, 1002, 1003, 1004, 1005, 1006, 1007, 1008, 1009, 1010, 1011, 1012, 1013] (by decide +kernel) (by decide +kernel)
set_option maxRecDepth 20000 in
theorem gL_law_X11_wipe : GoodIn wsL_law (wsV RL 18 RX11 yX11_wipe wsX11_wipe) := goodIn_app (goodIn_of _ (by decide +kernel)) ggL_law_X11_wipe
set_option maxRecDepth 20000 in
theorem ggL_law_X12_wipe : GoodIn wsL_law wsX12_wipe := goodIn_r _ [226, 120, 202, 203, 5, 204, 205, 206, 207, 208, 1014, 1015, 1016, 1017, 1018, 1019, 1020, 1021, 1022, 1023, 1024, 1025, 1026, 1027, 1028, 1029, 1030, 1031, 1032, 1033, 1034, 1035, 1036, 1037, 1038, 1039, 1040, 1041, 1042, 1043] (by decide +kernel) (by decide +kernel)
set_option maxRecDepth 20000 in
theorem gL_law_X12_wipe : GoodIn wsL_law (wsV RL 22 RX12 yX12_wipe wsX12_wipe) := goodIn_app (goodIn_of _ (by decide +kernel)) ggL_law_X12_wipe
set_option maxRecDepth 20000 in
theorem ggL_law_X11_undo : GoodIn wsL_law wsX11_undo := goodIn_r _ [230, 137, 138, 139, 140, 2, 141, 15, 19, 23, 213, 214, 215, 216, 57, 217, 147, 218, 219, 63, 220, 61, 62, 64, 169, 170, 171, 172, 173, 60, 174, 175, 176, 177, 178, 179, 65, 180, 181, 182, 183, 184, 185, 22, 186, 187, 188, 14, 189, 190, 191, 18, 192, 193, 194, 221, 222, 1052, 1053, 1054, 1055, 1044, 1045, 1046, 1047, 1048, 1049, 1050, 1051, 999, 1000, 1001, 1002, 1003, 1004, 1005, 1006, 1007, 1008, 1009, 1010, 1011, 1012, 1013] (by decide +kernel) (by decide +kernel)
set_option maxRecDepth 20000 in
theorem gL_law_X11_undo : GoodIn wsL_law (wsV RL 23 RX11 yX11_undo wsX11_undo) := goodIn_app (goodIn_of _ (by decide +kernel)) ggL_law_X11_undo
set_option maxRecDepth 20000 in
theorem ggL_law_X12_undo : GoodIn wsL_law wsX12_undo := goodIn_r _ [234, 120, 202, 203, 5, 204, 205, 206, 207, 208, 1014, 1015, 1016, 1017, 1018, 1019, 1020, 1021, 1022, 1023, 1024, 1025, 1026, 1027, 1028, 1029, 1030, 1031, 1032, 1033, 1034, 1035, 1036, 1037, 1038, 1039, 1040, 1041, 1042, 1043] (by decide +kernel) (by decide +kernel)
set_option maxRecDepth 20000 in
theorem gL_law_X12_undo : GoodIn wsL_law (wsV RL 26 RX12 yX12_undo wsX12_undo) := goodIn_app (goodIn_of _ (by decide +kernel)) ggL_law_X12_undo
set_option maxRecDepth 20000 in
theorem ggL_law_X11_fault : GoodIn wsL_law wsX11_fault := goodIn_r _ [238, 239, 138, 139, 140, 2, 141, 15, 19, 23, 1052, 1053, 1054, 1055, 1044, 1045, 1046, 1047, 1048, 1049, 1050, 1051, 999, 1000, 1001, 1002, 1003, 1004, 1005, 1006, 1007, 1008, 1009, 1010, 1011, 1012, 1013] (by decide +kernel) (by decide +kernel)
set_option maxRecDepth 20000 in
theorem gL_law_X11_fault : GoodIn wsL_law (wsV RL 27 RX11 yX11_fault wsX11_fault) := goodIn_app (goodIn_of _ (by decide +kernel)) ggL_law_X11_fault
set_option maxRecDepth 20000 in
theorem ggL_law_X12_fault : GoodIn wsL_law wsX12_fault := goodIn_r _ [243, 202, 203, 5, 204, 205, 206, 207, 208, 244, 245, 246, 247, 248, 249, 250, 251, 252, 120, 119, 121, 253, 254, 255, 256, 257, 258, 259, 260, 261, 262, 263, 264, 265, 122, 266, 267, 268, 269, 270, 271, 272, 273, 274, 275, 276, 277, 123, 278, 279, 280, 1014, 1015, 1016, 1017, 1018, 1019, 1020, 1021, 1022, 1023, 1024, 1025, 1026, 1027, 1028, 1029, 1030, 1031, 1032, 1033, 1034, 1035, 1036, 1037, 1038, 1039, 1040, 1041, 1042, 1043] (by decide +kernel) (by decide +kernel)
set_option maxRecDepth 20000 in
theorem gL_law_X12_fault : GoodIn wsL_law (wsV RL 30 RX12 yX12_fault wsX12_fault) := goodIn_app (goodIn_of _ (by decide +kernel)) ggL_law_X12_fault
set_option maxRecDepth 20000 in
theorem ggL_law_X11_mile : GoodIn wsL_law wsX11_mile := goodIn_r _ [284, 15, 285, 286, 287, 288, 289, 178, 57, 179, 65, 999, 1000, 1001, 1002, 1003, 1004, 1005, 1006, 1007, 1008, 1009, 1010, 1011, 1012, 1013, 1052, 1053, 1054, 1055, 1044, 1045, 1046, 1047, 1048, 1049, 1050, 1051] (by decide +kernel) (by decide +kernel)
set_option maxRecDepth 20000 in
theorem gL_law_X11_mile : GoodIn wsL_law (wsV RL 31 RX11 yX11_mile wsX11_mile) := goodIn_app (goodIn_of _ (by decide +kernel)) ggL_law_X11_mile
set_option maxRecDepth 20000 in
theorem ggL_law_X12_mile : GoodIn wsL_law wsX12_mile := goodIn_r _ [293, 294, 252, 121, 295, 296, 297, 5, 298, 248, 249, 250, 251, 120, 119, 253, 254, 255, 256, 257, 258, 259, 260, 206, 207, 208, 261, 262, 263, 264, 265, 122, 266, 267, 268, 269, 270, 271, 272, 273, 274, 275, 276, 277, 123, 278, 279, 280, 1014, 1015, 1016, 1017, 1018, 1019, 1020, 1021, 1022, 1023, 1024, 1025, 1026, 1027, 1028, 1029, 1030, 1031, 1032, 1033, 1034, 1035, 1036, 1037, 1038, 1039, 1040, 1041, 1042, 1043] (by decide +kernel) (by decide +kernel)
set_option maxRecDepth 20000 in
theorem gL_law_X12_mile : GoodIn wsL_law (wsV RL 34 RX12 yX12_mile wsX12_mile) := goodIn_app (goodIn_of _ (by decide +kernel)) ggL_law_X12_mile
set_option maxRecDepth 20000 in
theorem ggL_law_X11_passenger : GoodIn wsL_law wsX11_passenger := goodIn_r _ [302, 19, 303, 304, 305, 306, 57, 307, 174, 308, 309, 310, 18, 311, 312, 313, 314, 178, 179, 65, 999, 1000, 1001, 1002, 1003, 1004, 1005, 1006, 1007, 1008, 1009, 1010, 1011, 1012, 1013, 1052, 1053, 1054, 1055, 1044, 1045, 1046, 1047, 1048, 1049, 1050, 1051] (by decide +kernel) (by decide +kernel)
set_option maxRecDepth 20000 in
theorem gL_law_X11_passenger : GoodIn wsL_law (wsV RL 35 RX11 yX11_passenger wsX11_passenger) := goodIn_app (goodIn_of _ (by decide +kernel)) ggL_law_X11_passenger
set_option maxRecDepth 20000 in
theorem ggL_law_X12_passenger : GoodIn wsL_law wsX12_passenger := goodIn_r _ [318, 319, 122, 295, 296, 297, 5, 298, 248, 249, 250, 251, 252, 120, 119, 121, 253, 254, 255, 256, 257, 258, 259, 260, 206, 207, 208, 261, 262, 263, 264, 265, 266, 267, 268, 269, 270, 271, 272, 273, 274, 275, 276, 277, 123, 278, 279, 280, 320, 321, 322, 323, 1014, 1015, 1016, 1017, 1018, 1019, 1020, 1021, 1022, 1023, 1024, 1025, 1026, 1027, 1028, 1029, 1030, 1031, 1032, 1033, 1034, 1035, 1036, 1037, 1038, 1039, 1040, 1041, 1042, 1043] (by decide +kernel) (by decide +kernel)
set_option maxRecDepth 20000 in
theorem gL_law_X12_passenger : GoodIn wsL_law (wsV RL 38 RX12 yX12_passenger wsX12_passenger) := goodIn_app (goodIn_of _ (by decide +kernel)) ggL_law_X12_passenger
set_option maxRecDepth 20000 in
theorem ggL_law_X11_goose : GoodIn wsL_law wsX11_goose := goodIn_r _ [327, 23, 328, 329, 330, 306, 57, 307, 174, 331, 332, 333, 22, 334, 335, 336, 337, 178, 179, 65, 999, 1000, 1001, 1002, 1003, 1004, 1005, 1006, 1007, 1008, 1009, 1010, 1011, 1012, 1013, 1052, 1053, 1054, 1055, 1044, 1045, 1046, 1047, 1048, 1049, 1050, 1051] (by decide +kernel) (by decide +kernel)
set_option maxRecDepth 20000 in
theorem gL_law_X11_goose : GoodIn wsL_law (wsV RL 39 RX11 yX11_goose wsX11_goose) := goodIn_app (goodIn_of _ (by decide +kernel)) ggL_law_X11_goose
set_option maxRecDepth 20000 in
theorem ggL_law_X12_goose : GoodIn wsL_law wsX12_goose := goodIn_r _ [341, 123, 295, 296, 297, 5, 298, 248, 249, 250, 251, 252, 120, 119, 121, 253, 254, 255, 256, 257, 258, 259, 260, 206, 207, 208, 261, 262, 263, 264, 265, 122, 266, 267, 268, 269, 270, 271, 272, 273, 274, 275, 276, 277, 278, 279, 280, 342, 343, 344, 345, 346, 347, 348, 1014, 1015, 1016, 1017, 1018, 1019, 1020, 1021, 1022, 1023, 1024, 1025, 1026, 1027, 1028, 1029, 1030, 1031, 1032, 1033, 1034, 1035, 1036, 1037, 1038, 1039, 1040, 1041, 1042, 1043] (by decide +kernel) (by decide +kernel)
set_option maxRecDepth 20000 in
theorem gL_law_X12_goose : GoodIn wsL_law (wsV RL 42 RX12 yX12_goose wsX12_goose) := goodIn_app (goodIn_of _ (by decide +kernel)) ggL_law_X12_goose
set_option maxRecDepth 20000 in
theorem ggL_law_X11_flight : GoodIn wsL_law wsX11_flight := goodIn_r _ [352, 27, 353, 354, 355, 26, 356, 357, 77, 999, 1000, 1001, 1002, 1003, 1004, 1005, 1006, 1007, 1008, 1009, 1010, 1011, 1012, 1013, 1056, 1057] (by decide +kernel) (by decide +kernel)
set_option maxRecDepth 20000 in
theorem gL_law_X11_flight : GoodIn wsL_law (wsV RL 43 RX11 yX11_flight wsX11_flight) := goodIn_app (goodIn_of _ (by decide +kernel)) ggL_law_X11_flight
set_option maxRecDepth 20000 in
theorem ggL_law_X12_flight : GoodIn wsL_law wsX12_flight := goodIn_r _ [361, 362, 363, 364, 124, 206, 207, 5, 208, 1014, 1015, 1016, 1017, 1018, 1019, 1020, 1021, 1022, 1023, 1024, 1025, 1026, 1027, 1028, 1029, 1030, 1031, 1032, 1033, 1034, 1035, 1036, 1037, 1038, 1039, 1040, 1041, 1042, 1043] (by decide +kernel) (by decide +kernel)
set_option maxRecDepth 20000 in
theorem gL_law_X12_flight : GoodIn wsL_law (wsV RL 47 RX12 yX12_flight wsX12_flight) := goodIn_app (goodIn_of _ (by decide +kernel)) ggL_law_X12_flight
set_option maxRecDepth 20000 in
theorem ggL_law_X11_back : GoodIn wsL_law wsX11_back := goodIn_r _ [368, 27, 369, 999, 1000, 1001, 1002, 1003, 1004, 1005, 1006, 1007, 1008, 1009, 1010, 1011, 1012, 1013, 1056, 1057] (by decide +kernel) (by decide +kernel)
set_option maxRecDepth 20000 in
theorem gL_law_X11_back : GoodIn wsL_law (wsV RL 48 RX11 yX11_back wsX11_back) := goodIn_app (goodIn_of _ (by decide +kernel)) ggL_law_X11_back
set_option maxRecDepth 20000 in
theorem ggL_law_X12_back : GoodIn wsL_law wsX12_back := goodIn_r _ [373, 364, 1014, 1015, 1016, 1017, 1018, 1019, 1020, 1021, 1022, 1023, 1024, 1025, 1026, 1027, 1028, 1029, 1030, 1031, 1032, 1033, 1034, 1035, 1036, 1037, 1038, 1039, 1040, 1041, 1042, 1043] (by decide +kernel) (by decide +kernel)
set_option maxRecDepth 20000 in
theorem gL_law_X12_back : GoodIn wsL_law (wsV RL 52 RX12 yX12_back wsX12_back) := goodIn_app (goodIn_of _ (by decide +kernel)) ggL_law_X12_back
set_option maxRecDepth 20000 in
theorem ggL_law_X11_read : GoodIn wsL_law wsX11_read := goodIn_r _ [377, 378, 379, 27, 380, 381, 382, 2, 383, 49, 384, 385, 386, 387, 388, 389, 390, 391, 51, 392, 393, 109, 353, 354, 355, 26, 356, 357, 77, 1083, 1084, 1085, 1086, 999, 1000, 1001, 1002, 1003, 1004, 1005, 1006, 1007, 1008, 1009, 1010, 1011, 1012, 1013, 1056, 1057] (by decide +kernel) (by decide +kernel)
set_option maxRecDepth 20000 in
theorem gL_law_X11_read : GoodIn wsL_law (wsV RL 53 RX11 yX11_read wsX11_read) := goodIn_app (goodIn_of _ (by decide +kernel)) ggL_law_X11_read
set_option maxRecDepth 20000 in
theorem ggL_law_X12_read : GoodIn wsL_law wsX12_read := goodIn_r _ [397, 115, 116, 117, 398, 399, 5, 400, 319, 206, 207, 208, 401, 402, 403, 404, 405, 406, 359, 360, 361, 362, 363, 364, 124, 1014, 1015, 1016, 1017, 1018, 1019, 1020, 1021, 1022, 1023, 1024, 1025, 1026, 1027, 1028, 1029, 1030, 1031, 1032, 1033, 1034, 1035, 1036, 1037, 1038, 1039, 1040, 1041, 1042, 1043] (by decide +kernel) (by decide +kernel)
set_option maxRecDepth 20000 in
theorem gL_law_X12_read : GoodIn wsL_law (wsV RL 56 RX12 yX12_read wsX12_read) := goodIn_app (goodIn_of _ (by decide +kernel)) ggL_law_X12_read
set_option maxRecDepth 20000 in
theorem ggL_law_X11_learn : GoodIn wsL_law wsX11_learn := goodIn_r _ [410, 411, 999, 1000, 1001, 1002, 1003, 1004, 1005, 1006, 1007, 1008, 1009, 1010, 1011, 1012, 1013] (by decide +kernel) (by decide +kernel)
set_option maxRecDepth 20000 in
theorem gL_law_X11_learn : GoodIn wsL_law (wsV RL 57 RX11 yX11_learn wsX11_learn) := goodIn_app (goodIn_of _ (by decide +kernel)) ggL_law_X11_learn
set_option maxRecDepth 20000 in
theorem ggL_law_X12_learn : GoodIn wsL_law wsX12_learn := goodIn_r _ [415, 416, 417, 206, 207, 5, 208, 1014, 1015, 1016, 1017, 1018, 1019, 1020, 1021, 1022, 1023, 1024, 1025, 1026, 1027, 1028, 1029, 1030, 1031, 1032, 1033, 1034, 1035, 1036, 1037, 1038, 1039, 1040, 1041, 1042, 1043] (by decide +kernel) (by decide +kernel)
set_option maxRecDepth 20000 in
theorem gL_law_X12_learn : GoodIn wsL_law (wsV RL 60 RX12 yX12_learn wsX12_learn) := goodIn_app (goodIn_of _ (by decide +kernel)) ggL_law_X12_learn
set_option maxRecDepth 20000 in
theorem ggL_law_X11_comes : GoodIn wsL_law wsX11_comes := goodIn_r _ [421, 27, 31, 422, 15, 423, 424, 425, 26, 426, 357, 427, 428, 429, 2, 430, 411, 431, 432, 433, 434, 435, 436, 437, 438, 439, 77, 440, 441, 442, 443, 444, 445, 446, 447, 448, 449, 450, 451, 30, 452, 90, 91, 453, 454, 455, 456, 457, 458, 85, 459, 460, 86, 89, 461, 286, 462, 304, 305, 306, 57, 307, 174, 463, 329, 330, 464, 309, 310, 18, 311, 312, 313, 314, 178, 179, 65, 465, 332, 333, 22, 334, 335, 336, 337, 466, 467, 468, 469, 87, 88, 470, 471, 472, 473, 84, 474, 475, 476, 477, 478, 288, 289, 479, 480, 481, 482, 483, 484, 485, 486, 487, 488, 489, 490, 491, 492, 493, 494, 495, 496, 497, 498, 499, 500, 501, 502, 503, 504, 505, 506, 507, 62, 63, 64, 508, 509, 510, 511, 512, 513, 514, 515, 14, 516, 517, 518, 519, 520, 287, 999, 1000, 1001, 1002, 1003, 1004, 1005, 1006, 1007, 1008, 1009, 1010, 1011, 1012, 1013, 1058, 1059, 1060, 1061, 1062, 1063, 1064, 1065, 1066, 1067, 1068, 1069, 1070, 1071, 1072, 1073, 1074, 1056, 1057, 1087, 1088, 1089, 1090, 1052, 1053, 1054, 1055, 1044, 1045, 1046, 1047, 1048, 1049, 1050, 1051] (by decide +kernel) (by decide +kernel)
set_option maxRecDepth 20000 in
theorem gL_law_X11_comes : GoodIn wsL_law (wsV RL 61 RX11 yX11_comes wsX11_comes) := goodIn_app (goodIn_of _ (by decide +kernel)) ggL_law_X11_comes
set_option maxRecDepth 20000 in
theorem ggL_law_X12_comes : GoodIn wsL_law wsX12_comes := goodIn_r _ [524, 205, 295, 296, 297, 5, 298, 248, 249, 250, 251, 252, 120, 119, 121, 253, 254, 255, 256, 257, 258, 259, 260, 206, 207, 208, 261, 262, 263, 264, 265, 122, 266, 267, 268, 269, 270, 271, 272, 273, 274, 275, 276, 277, 123, 278, 279, 280, 525, 526, 527, 528, 364, 529, 530, 531, 532, 533, 534, 535, 536, 124, 537, 538, 539, 540, 541, 542, 543, 126, 127, 128, 544, 545, 125, 320, 321, 322, 323, 342, 343, 344, 345, 546, 547, 548, 549, 417, 132, 550, 551, 552, 553, 554, 555, 556, 557, 558, 559, 560, 561, 562, 563, 564, 565, 566, 567, 568, 1014, 1015, 1016, 1017, 1018, 1019, 1020, 1021, 1022, 1023, 1024, 1025, 1026, 1027, 1028, 1029, 1030, 1031, 1032, 1033, 1034, 1035, 1036, 1037, 1038, 1039, 1040, 1041, 1042, 1043] (by decide +kernel) (by decide +kernel)
set_option maxRecDepth 20000 in
theorem gL_law_X12_comes : GoodIn wsL_law (wsV RL 64 RX12 yX12_comes wsX12_comes) := goodIn_app (goodIn_of _ (by decide +kernel)) ggL_law_X12_comes
set_option maxRecDepth 20000 in
theorem ggL_law_X11_behind : GoodIn wsL_law wsX11_behind := goodIn_r _ [572, 27, 15, 423, 424, 425, 26, 426, 357, 573, 518, 519, 306, 57, 307, 174, 427, 428, 429, 2, 430, 31, 411, 431, 432, 433, 434, 435, 436, 437, 438, 439, 77, 440, 441, 442, 443, 444, 445, 446, 447, 448, 449, 450, 451, 30, 452, 90, 91, 453, 454, 455, 456, 457, 458, 85, 459, 460, 86, 89, 461, 286, 462, 304, 305, 463, 329, 330, 464, 309, 310, 18, 311, 312, 313, 314, 178, 179, 65, 465, 332, 333, 22, 334, 335, 336, 337, 466, 467, 468, 469, 87, 88, 470, 471, 472, 473, 84, 474, 475, 476, 477, 478, 288, 289, 479, 480, 481, 482, 483, 484, 485, 486, 487, 574, 575, 576, 577, 578, 579, 580, 581, 497, 498, 499, 500, 501, 502, 488, 489, 490, 491, 582, 504, 505, 506, 507, 62, 63, 64, 508, 509, 510, 511, 512, 583, 584, 585, 586, 587, 588, 589, 492, 493, 494, 495, 496, 503, 590, 999, 1000, 1001, 1002, 1003, 1004, 1005, 1006, 1007, 1008, 1009, 1010, 1011, 1012, 1013, 1056, 1057, 1052, 1053, 1054, 1055, 1044, 1045, 1046, 1047, 1048, 1049, 1050, 1051, 1058, 1059, 1060, 1061, 1062, 1063, 1064, 1065, 1066, 1067, 1068, 1069, 1070, 1071, 1072, 1073, 1074, 1087, 1088, 1089, 1090] (by decide +kernel) (by decide +kernel)
set_option maxRecDepth 20000 in
theorem gL_law_X11_behind : GoodIn wsL_law (wsV RL 65 RX11 yX11_behind wsX11_behind) := goodIn_app (goodIn_of _ (by decide +kernel)) ggL_law_X11_behind
set_option maxRecDepth 20000 in
theorem ggL_law_X12_behind : GoodIn wsL_law wsX12_behind := goodIn_r _ [594, 252, 319, 295, 296, 297, 5, 298, 248, 249, 250, 251, 120, 119, 121, 253, 254, 255, 256, 257, 258, 259, 260, 206, 207, 208, 261, 262, 263, 264, 265, 122, 266, 267, 268, 269, 270, 271, 272, 273, 274, 275, 276, 277, 123, 278, 279, 280, 525, 526, 527, 528, 364, 595, 596, 597, 598, 541, 125, 533, 534, 535, 536, 124, 537, 538, 539, 540, 542, 543, 126, 127, 128, 544, 545, 320, 321, 322, 323, 342, 343, 344, 345, 546, 547, 548, 549, 417, 132, 550, 551, 552, 553, 554, 555, 556, 557, 558, 559, 560, 561, 562, 563, 564, 1014, 1015, 1016, 1017, 1018, 1019, 1020, 1021, 1022, 1023, 1024, 1025, 1026, 1027, 1028, 1029, 1030, 1031, 1032, 1033, 1034, 1035, 1036, 1037, 1038, 1039, 1040, 1041, 1042, 1043] (by decide +kernel) (by decide +kernel)
set_option maxRecDepth 20000 in
theorem gL_law_X12_behind : GoodIn wsL_law (wsV RL 69 RX12 yX12_behind wsX12_behind) := goodIn_app (goodIn_of _ (by decide +kernel)) ggL_law_X12_behind
set_option maxRecDepth 20000 in
theorem ggL_law_X11_farthest : GoodIn wsL_law wsX11_farthest := goodIn_r _ [602, 27, 369, 31, 422, 427, 428, 429, 2, 430, 411, 431, 432, 433, 434, 26, 435, 436, 437, 438, 439, 77, 440, 424, 425, 426, 357, 441, 442, 443, 444, 445, 446, 447, 448, 449, 450, 451, 30, 452, 90, 91, 453, 454, 455, 456, 457, 458, 85, 459, 460, 86, 89, 461, 286, 462, 304, 305, 306, 57, 307, 174, 463, 329, 330, 464, 309, 310, 18, 311, 312, 313, 314, 178, 179, 65, 465, 332, 333, 22, 334, 335, 336, 337, 466, 467, 468, 469, 87, 88, 470, 471, 472, 473, 84, 474, 475, 476, 477, 478, 288, 289, 479, 480, 481, 482, 483, 484, 485, 486, 487, 488, 489, 490, 491, 492, 493, 494, 495, 496, 497, 498, 499, 500, 501, 502, 503, 504, 505, 506, 507, 62, 63, 64, 508, 509, 510, 511, 512, 999, 1000, 1001, 1002, 1003, 1004, 1005, 1006, 1007, 1008, 1009, 1010, 1011, 1012, 1013, 1056, 1057, 1058, 1059, 1060, 1061, 1062, 1063, 1064, 1065, 1066, 1067, 1068, 1069, 1070, 1071, 1072, 1073, 1074, 1087, 1088, 1089, 1090, 1052, 1053, 1054, 1055, 1044, 1045, 1046, 1047, 1048, 1049, 1050, 1051] (by decide +kernel) (by decide +kernel)
set_option maxRecDepth 20000 in
theorem gL_law_X11_farthest : GoodIn wsL_law (wsV RL 70 RX11 yX11_farthest wsX11_farthest) := goodIn_app (goodIn_of _ (by decide +kernel)) ggL_law_X11_farthest
set_option maxRecDepth 20000 in
theorem ggL_law_X12_farthest : GoodIn wsL_law wsX12_farthest := goodIn_r _ [606, 295, 296, 297, 5, 298, 248, 249, 250, 251, 252, 120, 119, 121, 253, 254, 255, 256, 257, 258, 259, 260, 206, 207, 208, 261, 262, 263, 264, 265, 122, 266, 267, 268, 269, 270, 271, 272, 273, 274, 275, 276, 277, 123, 278, 279, 280, 607, 608, 609, 610, 364, 542, 543, 533, 534, 535, 536, 124, 537, 538, 539, 540, 541, 126, 127, 128, 544, 545, 125, 320, 321, 322, 323, 342, 343, 344, 345, 546, 547, 548, 549, 417, 132, 550, 551, 552, 553, 554, 555, 556, 557, 558, 559, 560, 561, 562, 563, 564, 1014, 1015, 1016, 1017, 1018, 1019, 1020, 1021, 1022, 1023, 1024, 1025, 1026, 1027, 1028, 1029, 1030, 1031, 1032, 1033, 1034, 1035, 1036, 1037, 1038, 1039, 1040, 1041, 1042, 1043] (by decide +kernel) (by decide +kernel)
set_option maxRecDepth 20000 in
theorem gL_law_X12_farthest : GoodIn wsL_law (wsV RL 73 RX12 yX12_farthest wsX12_farthest) := goodIn_app (goodIn_of _ (by decide +kernel)) ggL_law_X12_farthest
set_option maxRecDepth 20000 in
theorem ggL_law_X11_climb : GoodIn wsL_law wsX11_climb := goodIn_r _ [614, 27, 35, 31, 15, 285, 286, 423, 424, 425, 26, 426, 357, 427, 428, 429, 2, 430, 411, 431, 432, 433, 434, 435, 436, 437, 438, 439, 77, 440, 441, 442, 443, 444, 445, 446, 447, 448, 449, 450, 451, 30, 452, 90, 91, 453, 454, 455, 456, 457, 458, 85, 459, 460, 86, 89, 461, 462, 304, 305, 306, 57, 307, 174, 463, 329, 330, 464, 309, 310, 18, 311, 312, 313, 314, 178, 179, 65, 465, 332, 333, 22, 334, 335, 336, 337, 466, 467, 468, 469, 87, 88, 470, 471, 472, 473, 84, 474, 475, 476, 477, 478, 288, 289, 479, 480, 481, 482, 483, 484, 485, 486, 487, 615, 616, 617, 34, 618, 619, 620, 621, 219, 63, 220, 622, 497, 498, 499, 500, 501, 502, 623, 504, 505, 506, 507, 62, 64, 508, 509, 510, 511, 512, 624, 625, 626, 627, 628, 629, 630, 631, 632, 633, 634, 635, 636, 637, 638, 639, 640, 999, 1000, 1001, 1002, 1003, 1004, 1005, 1006, 1007, 1008, 1009, 1010, 1011, 1012, 1013, 1052, 1053, 1054, 1055, 1044, 1045, 1046, 1047, 1048, 1049, 1050, 1051, 1056, 1057, 1058, 1059, 1060, 1061, 1062, 1063, 1064, 1065, 1066, 1067, 1068, 1069, 1070, 1071, 1072, 1073, 1074, 1087, 1088, 1089, 1090, 1075, 1076, 1077, 1078] (by decide +kernel) (by decide +kernel)
set_option maxRecDepth 20000 in
theorem gL_law_X11_climb : GoodIn wsL_law (wsV RL 74 RX11 yX11_climb wsX11_climb) := goodIn_app (goodIn_of _ (by decide +kernel)) ggL_law_X11_climb
set_option maxRecDepth 20000 in
theorem ggL_law_X12_climb : GoodIn wsL_law wsX12_climb := goodIn_r _ [644, 645, 205, 295, 296, 297, 5, 298, 248, 249, 250, 251, 252, 120, 119, 121, 253, 254, 255, 256, 257, 258, 259, 260, 206, 207, 208, 261, 262, 263, 264, 265, 122, 266, 267, 268, 269, 270, 271, 272, 273, 274, 275, 276, 277, 123, 278, 279, 280, 525, 526, 527, 528, 364, 646, 647, 648, 649, 124, 542, 537, 538, 539, 540, 541, 543, 126, 127, 128, 544, 545, 125, 320, 321, 322, 323, 342, 343, 344, 345, 546, 547, 548, 549, 417, 132, 550, 551, 552, 553, 554, 555, 556, 557, 558, 559, 560, 561, 562, 563, 564, 1014, 1015, 1016, 1017, 1018, 1019, 1020, 1021, 1022, 1023, 1024, 1025, 1026, 1027, 1028, 1029, 1030, 1031, 1032, 1033, 1034, 1035, 1036, 1037, 1038, 1039, 1040, 1041, 1042, 1043] (by decide +kernel) (by decide +kernel)
set_option maxRecDepth 20000 in
theorem gL_law_X12_climb : GoodIn wsL_law (wsV RL 77 RX12 yX12_climb wsX12_climb) := goodIn_app (goodIn_of _ (by decide +kernel)) ggL_law_X12_climb
set_option maxRecDepth 20000 in
theorem ggL_law_X11_practice : GoodIn wsL_law wsX11_practice := goodIn_r _ [653, 27, 31, 431, 422, 423, 424, 425, 26, 426, 357, 427, 428, 429, 2, 430, 411, 432, 433, 434, 435, 436, 437, 438, 439, 77, 440, 441, 442, 443, 444, 445, 446, 447, 448, 449, 450, 451, 30, 452, 90, 91, 453, 454, 455, 456, 457, 458, 85, 459, 460, 86, 89, 461, 286, 462, 304, 305, 306, 57, 307, 174, 463, 329, 330, 464, 309, 310, 18, 311, 312, 313, 314, 178, 179, 65, 465, 332, 333, 22, 334, 335, 336, 337, 466, 467, 468, 469, 87, 88, 470, 471, 472, 473, 84, 474, 475, 476, 477, 478, 288, 289, 479, 480, 481, 482, 483, 484, 485, 486, 487, 654, 655, 656, 657, 658, 659, 660, 488, 489, 490, 491, 492, 493, 494, 495, 496, 497, 498, 499, 500, 501, 502, 503, 504, 505, 506, 507, 62, 63, 64, 508, 509, 510, 511, 512, 999, 1000, 1001, 1002, 1003, 1004, 1005, 1006, 1007, 1008, 1009, 1010, 1011, 1012, 1013, 1058, 1059, 1060, 1061, 1062, 1063, 1064, 1065, 1066, 1067, 1068, 1069, 1070, 1071, 1072, 1073, 1074, 1056, 1057, 1087, 1088, 1089, 1090, 1052, 1053, 1054, 1055, 1044, 1045, 1046, 1047, 1048, 1049, 1050, 1051] (by decide +kernel) (by decide +kernel)
set_option maxRecDepth 20000 in
theorem gL_law_X11_practice : GoodIn wsL_law (wsV RL 78 RX11 yX11_practice wsX11_practice) := goodIn_app (goodIn_of _ (by decide +kernel)) ggL_law_X11_practice
set_option maxRecDepth 20000 in
theorem ggL_law_X12_practice : GoodIn wsL_law wsX12_practice := goodIn_r _ [664, 295, 296, 297, 5, 298, 248, 249, 250, 251, 252, 120, 119, 121, 253, 254, 255, 256, 257, 258, 259, 260, 206, 207, 208, 261, 262, 263, 264, 265, 122, 266, 267, 268, 269, 270, 271, 272, 273, 274, 275, 276, 277, 123, 278, 279, 280, 525, 526, 527, 528, 364, 346, 347, 348, 665, 666, 667, 668, 417, 543, 533, 534, 535, 536, 124, 537, 538, 539, 540, 541, 542, 126, 127, 128, 544, 545, 125, 320, 321, 322, 323, 342, 343, 344, 345, 546, 547, 548, 549, 132, 550, 551, 552, 553, 554, 555, 556, 557, 558, 559, 560, 561, 562, 563, 564, 669, 670, 671, 1014, 1015, 1016, 1017, 1018, 1019, 1020, 1021, 1022, 1023, 1024, 1025, 1026, 1027, 1028, 1029, 1030, 1031, 1032, 1033, 1034, 1035, 1036, 1037, 1038, 1039, 1040, 1041, 1042, 1043] (by decide +kernel) (by decide +kernel)
set_option maxRecDepth 20000 in
theorem gL_law_X12_practice : GoodIn wsL_law (wsV RL 81 RX12 yX12_practice wsX12_practice) := goodIn_app (goodIn_of _ (by decide +kernel)) ggL_law_X12_practice
set_option maxRecDepth 20000 in
theorem ggL_law_X11_pair : GoodIn wsL_law wsX11_pair := goodIn_r _ [675, 27, 23, 676, 677, 31, 423, 424, 425, 26, 426, 357, 427, 428, 429, 2, 430, 411, 431, 432, 433, 434, 435, 436, 437, 438, 439, 77, 440, 441, 442, 443, 444, 445, 446, 447, 448, 449, 450, 451, 30, 452, 90, 91, 453, 454, 455, 456, 457, 458, 85, 459, 460, 86, 89, 461, 286, 462, 304, 305, 306, 57, 307, 174, 463, 329, 330, 464, 309, 310, 18, 311, 312, 313, 314, 178, 179, 65, 465, 332, 333, 22, 334, 335, 336, 337, 466, 467, 468, 469, 87, 88, 470, 471, 472, 473, 84, 474, 475, 476, 477, 478, 288, 289, 479, 480, 481, 482, 483, 484, 485, 486, 487, 488, 489, 490, 491, 492, 493, 494, 495, 496, 497, 498, 499, 500, 501, 502, 503, 504, 505, 506, 507, 62, 63, 64, 508, 509, 510, 511, 512, 999, 1000, 1001, 1002, 1003, 1004, 1005, 1006, 1007, 1008, 1009, 1010, 1011, 1012, 1013, 1052, 1053, 1054, 1055, 1044, 1045, 1046, 1047, 1048, 1049, 1050, 1051, 1056, 1057, 1058, 1059, 1060, 1061, 1062, 1063, 1064, 1065, 1066, 1067, 1068, 1069, 1070, 1071, 1072, 1073, 1074, 1087, 1088, 1089, 1090] (by decide +kernel) (by decide +kernel)
set_option maxRecDepth 20000 in
theorem gL_law_X11_pair : GoodIn wsL_law (wsV RL 82 RX11 yX11_pair wsX11_pair) := goodIn_app (goodIn_of _ (by decide +kernel)) ggL_law_X11_pair
set_option maxRecDepth 20000 in
theorem ggL_law_X12_pair : GoodIn wsL_law wsX12_pair := goodIn_r _ [681, 295, 296, 297, 5, 298, 248, 249, 250, 251, 252, 120, 119, 121, 253, 254, 255, 256, 257, 258, 259, 260, 206, 207, 208, 261, 262, 263, 264, 265, 122, 266, 267, 268, 269, 270, 271, 272, 273, 274, 275, 276, 277, 123, 278, 279, 280, 525, 526, 527, 528, 364, 346, 347, 348, 682, 683, 684, 685, 124, 542, 537, 538, 539, 540, 541, 543, 126, 127, 128, 544, 545, 125, 320, 321, 322, 323, 342, 343, 344, 345, 546, 547, 548, 549, 417, 132, 550, 551, 552, 553, 554, 555, 556, 557, 558, 559, 560, 561, 562, 563, 564, 1014, 1015, 1016, 1017, 1018, 1019, 1020, 1021, 1022, 1023, 1024, 1025, 1026, 1027, 1028, 1029, 1030, 1031, 1032, 1033, 1034, 1035, 1036, 1037, 1038, 1039, 1040, 1041, 1042, 1043] (by decide +kernel) (by decide +kernel)
set_option maxRecDepth 20000 in
theorem gL_law_X12_pair : GoodIn wsL_law (wsV RL 85 RX12 yX12_pair wsX12_pair) := goodIn_app (goodIn_of _ (by decide +kernel)) ggL_law_X12_pair
set_option maxRecDepth 20000 in
theorem ggL_law_X11_seen : GoodIn wsL_law wsX11_seen := goodIn_r _ [689, 690, 45, 46, 999, 1000, 1001, 1002, 1003, 1004, 1005, 1006, 1007, 1008, 1009, 1010, 1011, 1012, 1013] (by decide +kernel) (by decide +kernel)
set_option maxRecDepth 20000 in
theorem gL_law_X11_seen : GoodIn wsL_law (wsV RL 86 RX11 yX11_seen wsX11_seen) := goodIn_app (goodIn_of _ (by decide +kernel)) ggL_law_X11_seen
set_option maxRecDepth 20000 in
theorem ggL_law_X12_seen : GoodIn wsL_law wsX12_seen := goodIn_r _ [694, 362, 695, 696, 129, 206, 207, 5, 208, 1014, 1015, 1016, 1017, 1018, 1019, 1020, 1021, 1022, 1023, 1024, 1025, 1026, 1027, 1028, 1029, 1030, 1031, 1032, 1033, 1034, 1035, 1036, 1037, 1038, 1039, 1040, 1041, 1042, 1043] (by decide +kernel) (by decide +kernel)
set_option maxRecDepth 20000 in
theorem gL_law_X12_seen : GoodIn wsL_law (wsV RL 89 RX12 yX12_seen wsX12_seen) := goodIn_app (goodIn_of _ (by decide +kernel)) ggL_law_X12_seen
set_option maxRecDepth 20000 in
theorem ggL_law_X11_forget : GoodIn wsL_law wsX11_forget := goodIn_r _ [700, 690, 999, 1000, 1001, 1002, 1003, 1004, 1005, 1006, 1007, 1008, 1009, 1010, 1011, 1012, 1013] (by decide +kernel) (by decide +kernel)
set_option maxRecDepth 20000 in
theorem gL_law_X11_forget : GoodIn wsL_law (wsV RL 90 RX11 yX11_forget wsX11_forget) := goodIn_app (goodIn_of _ (by decide +kernel)) ggL_law_X11_forget
set_option maxRecDepth 20000 in
theorem ggL_law_X12_forget : GoodIn wsL_law wsX12_forget := goodIn_r _ [704, 696, 1014, 1015, 1016, 1017, 1018, 1019, 1020, 1021, 1022, 1023, 1024, 1025, 1026, 1027, 1028, 1029, 1030, 1031, 1032, 1033, 1034, 1035, 1036, 1037, 1038, 1039, 1040, 1041, 1042, 1043] (by decide +kernel) (by decide +kernel)
set_option maxRecDepth 20000 in
theorem gL_law_X12_forget : GoodIn wsL_law (wsV RL 93 RX12 yX12_forget wsX12_forget) := goodIn_app (goodIn_of _ (by decide +kernel)) ggL_law_X12_forget
set_option maxRecDepth 20000 in
theorem ggL_law_X11_sores : GoodIn wsL_law wsX11_sores := goodIn_r _ [708, 19, 303, 304, 305, 306, 57, 307, 174, 709, 710, 711, 2, 712, 31, 411, 431, 690, 45, 27, 713, 46, 423, 424, 425, 26, 426, 357, 432, 433, 434, 435, 436, 437, 438, 439, 77, 440, 441, 442, 443, 444, 445, 446, 447, 448, 449, 450, 451, 30, 452, 90, 91, 453, 454, 455, 456, 457, 458, 85, 459, 460, 86, 89, 461, 286, 462, 463, 329, 330, 464, 309, 310, 18, 311, 312, 313, 314, 178, 179, 65, 465, 332, 333, 22, 334, 335, 336, 337, 466, 467, 468, 469, 87, 88, 470, 471, 472, 473, 84, 474, 475, 476, 477, 478, 288, 289, 479, 480, 481, 482, 483, 484, 485, 486, 487, 488, 489, 490, 491, 492, 493, 494, 495, 496, 497, 498, 499, 500, 501, 502, 503, 504, 505, 506, 507, 62, 63, 64, 508, 509, 510, 511, 512, 999, 1000, 1001, 1002, 1003, 1004, 1005, 1006, 1007, 1008, 1009, 1010, 1011, 1012, 1013, 1052, 1053, 1054, 1055, 1044, 1045, 1046, 1047, 1048, 1049, 1050, 1051, 1058, 1059, 1060, 1061, 1062, 1063, 1064, 1065, 1066, 1067, 1068, 1069, 1070, 1071, 1072, 1073, 1074, 1056, 1057, 1087, 1088, 1089, 1090] (by decide +kernel) (by decide +kernel)
set_option maxRecDepth 20000 in
theorem gL_law_X11_sores : GoodIn wsL_law (wsV RL 94 RX11 yX11_sores wsX11_sores) := goodIn_app (goodIn_of _ (by decide +kernel)) ggL_law_X11_sores
set_option maxRecDepth 20000 in
theorem ggL_law_X12_sores : GoodIn wsL_law wsX12_sores := goodIn_r _ [717, 295, 296, 297, 5, 298, 248, 249, 250, 251, 252, 120, 119, 121, 253, 254, 255, 256, 257, 258, 259, 260, 206, 207, 208, 261, 262, 263, 264, 265, 122, 266, 267, 268, 269, 270, 271, 272, 273, 274, 275, 276, 277, 123, 278, 279, 280, 320, 321, 322, 323, 718, 719, 720, 721, 722, 723, 724, 725, 696, 129, 525, 526, 527, 528, 364, 529, 530, 531, 532, 533, 534, 535, 536, 124, 537, 538, 539, 540, 541, 542, 543, 126, 127, 128, 544, 545, 125, 342, 343, 344, 345, 546, 547, 548, 549, 417, 132, 550, 551, 552, 553, 554, 555, 556, 557, 558, 559, 560, 561, 562, 563, 564, 565, 566, 567, 568, 1014, 1015, 1016, 1017, 1018, 1019, 1020, 1021, 1022, 1023, 1024, 1025, 1026, 1027, 1028, 1029, 1030, 1031, 1032, 1033, 1034, 1035, 1036, 1037, 1038, 1039, 1040, 1041, 1042, 1043] (by decide +kernel) (by decide +kernel)
set_option maxRecDepth 20000 in
theorem gL_law_X12_sores : GoodIn wsL_law (wsV RL 97 RX12 yX12_sores wsX12_sores) := goodIn_app (goodIn_of _ (by decide +kernel)) ggL_law_X12_sores
set_option maxRecDepth 20000 in
theorem ggL_law_X11_high : GoodIn wsL_law wsX11_high := goodIn_r _ [729, 27, 423, 424, 425, 26, 426, 357, 709, 710, 711, 2, 712, 31, 411, 431, 690, 45, 713, 46, 432, 433, 434, 435, 436, 437, 438, 439, 77, 440, 441, 442, 443, 444, 445, 446, 447, 448, 449, 450, 451, 30, 452, 90, 91, 453, 454, 455, 456, 457, 458, 85, 459, 460, 86, 89, 461, 286, 462, 304, 305, 306, 57, 307, 174, 463, 329, 330, 464, 309, 310, 18, 311, 312, 313, 314, 178, 179, 65, 465, 332, 333, 22, 334, 335, 336, 337, 466, 467, 468, 469, 87, 88, 470, 471, 472, 473, 84, 474, 475, 476, 477, 478, 288, 289, 479, 480, 481, 482, 483, 484, 485, 486, 487, 488, 489, 490, 491, 492, 493, 494, 495, 496, 497, 498, 499, 500, 501, 502, 503, 504, 505, 506, 507, 62, 63, 64, 508, 509, 510, 511, 512, 999, 1000, 1001, 1002, 1003, 1004, 1005, 1006, 1007, 1008, 1009, 1010, 1011, 1012, 1013, 1056, 1057, 1058, 1059, 1060, 1061, 1062, 1063, 1064, 1065, 1066, 1067, 1068, 1069, 1070, 1071, 1072, 1073, 1074, 1087, 1088, 1089, 1090, 1052, 1053, 1054, 1055, 1044, 1045, 1046, 1047, 1048, 1049, 1050, 1051] (by decide +kernel) (by decide +kernel)
set_option maxRecDepth 20000 in
theorem gL_law_X11_high : GoodIn wsL_law (wsV RL 98 RX11 yX11_high wsX11_high) := goodIn_app (goodIn_of _ (by decide +kernel)) ggL_law_X11_high
set_option maxRecDepth 20000 in
theorem ggL_law_X12_high : GoodIn wsL_law wsX12_high := goodIn_r _ [733, 295, 296, 297, 5, 298, 248, 249, 250, 251, 252, 120, 119, 121, 253, 254, 255, 256, 257, 258, 259, 260, 206, 207, 208, 261, 262, 263, 264, 265, 122, 266, 267, 268, 269, 270, 271, 272, 273, 274, 275, 276, 277, 123, 278, 279, 280, 525, 526, 527, 528, 364, 734, 735, 736, 737, 124, 722, 723, 724, 725, 696, 129, 529, 530, 531, 532, 533, 534, 535, 536, 537, 538, 539, 540, 541, 542, 543, 126, 127, 128, 544, 545, 125, 320, 321, 322, 323, 342, 343, 344, 345, 546, 547, 548, 549, 417, 132, 550, 551, 552, 553, 554, 555, 556, 557, 558, 559, 560, 561, 562, 563, 564, 565, 566, 567, 568, 1014, 1015, 1016, 1017, 1018, 1019, 1020, 1021, 1022, 1023, 1024, 1025, 1026, 1027, 1028, 1029, 1030, 1031, 1032, 1033, 1034, 1035, 1036, 1037, 1038, 1039, 1040, 1041, 1042, 1043] (by decide +kernel) (by decide +kernel)
set_option maxRecDepth 20000 in
theorem gL_law_X12_high : GoodIn wsL_law (wsV RL 101 RX12 yX12_high wsX12_high) := goodIn_app (goodIn_of _ (by decide +kernel)) ggL_law_X12_high
set_option maxRecDepth 20000 in
theorem ggL_law_X11_ask : GoodIn wsL_law wsX11_ask := goodIn_r _ [741, 19, 27, 369, 303, 304, 305, 306, 57, 307, 174, 742, 706, 707, 2, 708, 709, 710, 711, 712, 31, 411, 431, 690, 45, 713, 46, 423, 424, 425, 26, 426, 357, 432, 433, 434, 435, 436, 437, 438, 439, 77, 440, 441, 442, 443, 444, 445, 446, 447, 448, 449, 450, 451, 30, 452, 90, 91, 453, 454, 455, 456, 457, 458, 85, 459, 460, 86, 89, 461, 286, 462, 463, 329, 330, 464, 309, 310, 18, 311, 312, 313, 314, 178, 179, 65, 465, 332, 333, 22, 334, 335, 336, 337, 466, 467, 468, 469, 87, 88, 470, 471, 472, 473, 84, 474, 475, 476, 477, 478, 288, 289, 479, 480, 481, 482, 483, 484, 485, 486, 487, 488, 489, 490, 491, 492, 493, 494, 495, 496, 497, 498, 499, 500, 501, 502, 503, 504, 505, 506, 507, 62, 63, 64, 508, 509, 510, 511, 512, 743, 744, 745, 746, 47, 747, 427, 428, 429, 430, 999, 1000, 1001, 1002, 1003, 1004, 1005, 1006, 1007, 1008, 1009, 1010, 1011, 1012, 1013, 1056, 1057, 1052, 1053, 1054, 1055, 1044, 1045, 1046, 1047, 1048, 1049, 1050, 1051, 1058, 1059, 1060, 1061, 1062, 1063, 1064, 1065, 1066, 1067, 1068, 1069, 1070, 1071, 1072, 1073, 1074, 1087, 1088, 1089, 1090] (by decide +kernel) (by decide +kernel)
set_option maxRecDepth 20000 in
theorem gL_law_X11_ask : GoodIn wsL_law (wsV RL 102 RX11 yX11_ask wsX11_ask) := goodIn_app (goodIn_of _ (by decide +kernel)) ggL_law_X11_ask
set_option maxRecDepth 20000 in
theorem ggL_law_X12_ask : GoodIn wsL_law wsX12_ask := goodIn_r _ [751, 295, 296, 297, 5, 298, 248, 249, 250, 251, 252, 120, 119, 121, 253, 254, 255, 256, 257, 258, 259, 260, 206, 207, 208, 261, 262, 263, 264, 265, 122, 266, 267, 268, 269, 270, 271, 272, 273, 274, 275, 276, 277, 123, 278, 279, 280, 320, 321, 322, 323, 752, 753, 754, 755, 364, 718, 719, 720, 721, 722, 723, 724, 725, 696, 129, 525, 526, 527, 528, 529, 530, 531, 532, 533, 534, 535, 536, 124, 537, 538, 539, 540, 541, 542, 543, 126, 127, 128, 544, 545, 125, 342, 343, 344, 345, 546, 547, 548, 549, 417, 132, 550, 551, 552, 553, 554, 555, 556, 557, 558, 559, 560, 561, 562, 563, 564, 565, 566, 567, 568, 756, 757, 758, 759, 130, 1014, 1015, 1016, 1017, 1018, 1019, 1020, 1021, 1022, 1023, 1024, 1025, 1026, 1027, 1028, 1029, 1030, 1031, 1032, 1033, 1034, 1035, 1036, 1037, 1038, 1039, 1040, 1041, 1042, 1043] (by decide +kernel) (by decide +kernel)
set_option maxRecDepth 20000 in
theorem gL_law_X12_ask : GoodIn wsL_law (wsV RL 105 RX12 yX12_ask wsX12_ask) := goodIn_app (goodIn_of _ (by decide +kernel)) ggL_law_X12_ask
set_option maxRecDepth 20000 in
theorem ggL_law_X11_laugh : GoodIn wsL_law wsX11_laugh := goodIn_r _ [763, 27, 15, 764, 39, 31, 765, 766, 423, 424, 425, 26, 426, 357, 767, 768, 769, 14, 770, 771, 286, 772, 514, 515, 516, 517, 518, 519, 306, 57, 307, 174, 520, 288, 289, 178, 179, 65, 427, 428, 429, 2, 430, 411, 431, 432, 433, 434, 435, 436, 437, 438, 439, 77, 440, 441, 442, 443, 444, 445, 446, 447, 448, 449, 450, 451, 30, 452, 90, 91, 453, 454, 455, 456, 457, 458, 85, 459, 460, 86, 89, 461, 462, 304, 305, 463, 329, 330, 464, 309, 310, 18, 311, 312, 313, 314, 465, 332, 333, 22, 334, 335, 336, 337, 466, 467, 468, 469, 87, 88, 470, 471, 472, 473, 84, 474, 475, 476, 477, 478, 479, 480, 481, 482, 483, 484, 485, 486, 487, 488, 489, 490, 491, 773, 774, 775, 38, 776, 777, 778, 779, 780, 781, 782, 783, 62, 63, 64, 784, 785, 786, 787, 788, 102, 789, 790, 791, 792, 793, 794, 509, 510, 511, 512, 795, 796, 797, 798, 799, 800, 219, 220, 801, 802, 803, 804, 805, 999, 1000, 1001, 1002, 1003, 1004, 1005, 1006, 1007, 1008, 1009, 1010, 1011, 1012, 1013, 1079, 1080, 1081, 1056, 1057, 1052, 1053, 1054, 1055, 1044, 1045, 1046, 1047, 1048, 1049, 1050, 1051, 1058, 1059, 1060, 1061, 1062, 1063, 1064, 1065, 1066, 1067, 1068, 1069, 1070, 1071, 1072, 1073, 1074, 1087, 1088, 1089, 1090] (by decide +kernel) (by decide +kernel)
set_option maxRecDepth 20000 in
theorem gL_law_X11_laugh : GoodIn wsL_law (wsV RL 106 RX11 yX11_laugh wsX11_laugh) := goodIn_app (goodIn_of _ (by decide +kernel)) ggL_law_X11_laugh
set_option maxRecDepth 20000 in
theorem ggL_law_X12_laugh : GoodIn wsL_law wsX12_laugh := goodIn_r _ [809, 810, 295, 296, 297, 5, 298, 248, 249, 250, 251, 252, 120, 119, 121, 253, 254, 255, 256, 257, 258, 259, 260, 206, 207, 208, 261, 262, 263, 264, 265, 122, 266, 267, 268, 269, 270, 271, 272, 273, 274, 275, 276, 277, 123, 278, 279, 280, 811, 812, 813, 814, 525, 526, 527, 528, 364, 346, 347, 348, 815, 816, 817, 818, 132, 543, 131, 819, 820, 821, 822, 558, 559, 560, 533, 534, 535, 536, 124, 537, 538, 539, 540, 541, 542, 126, 127, 128, 544, 545, 125, 320, 321, 322, 323, 342, 343, 344, 345, 546, 547, 548, 549, 417, 550, 551, 552, 553, 554, 555, 556, 557, 561, 562, 563, 564, 823, 824, 825, 826, 827, 828, 829, 1014, 1015, 1016, 1017, 1018, 1019, 1020, 1021, 1022, 1023, 1024, 1025, 1026, 1027, 1028, 1029, 1030, 1031, 1032, 1033, 1034, 1035, 1036, 1037, 1038, 1039, 1040, 1041, 1042, 1043] (by decide +kernel) (by decide +kernel)
set_option maxRecDepth 20000 in
theorem gL_law_X12_laugh : GoodIn wsL_law (wsV RL 110 RX12 yX12_laugh wsX12_laugh) := goodIn_app (goodIn_of _ (by decide +kernel)) ggL_law_X12_laugh
set_option maxRecDepth 20000 in
theorem ggL_law_X11_lakes : GoodIn wsL_law wsX11_lakes := goodIn_r _ [833, 19, 834, 835, 23, 676, 677, 43, 836, 31, 411, 431, 422, 837, 838, 839, 42, 840, 841, 842, 449, 450, 451, 30, 452, 90, 91, 453, 454, 455, 456, 457, 458, 85, 459, 460, 86, 89, 461, 286, 462, 304, 305, 306, 57, 307, 174, 463, 329, 330, 464, 309, 310, 18, 311, 312, 313, 314, 178, 179, 65, 465, 332, 333, 22, 334, 335, 336, 337, 466, 467, 468, 469, 87, 88, 470, 471, 472, 473, 84, 474, 475, 476, 477, 478, 288, 289, 479, 480, 481, 482, 483, 484, 485, 486, 487, 492, 493, 494, 495, 496, 497, 498, 499, 500, 501, 502, 503, 504, 505, 506, 507, 62, 63, 64, 508, 509, 510, 511, 512, 999, 1000, 1001, 1002, 1003, 1004, 1005, 1006, 1007, 1008, 1009, 1010, 1011, 1012, 1013, 1052, 1053, 1054, 1055, 1044, 1045, 1046, 1047, 1048, 1049, 1050, 1051, 1082, 1058, 1059, 1060, 1061, 1062, 1063, 1064, 1065, 1066, 1067, 1068, 1069, 1070, 1071, 1072, 1073, 1074, 1087, 1088, 1089, 1090] (by decide +kernel) (by decide +kernel)
set_option maxRecDepth 20000 in
theorem gL_law_X11_lakes : GoodIn wsL_law (wsV RL 111 RX11 yX11_lakes wsX11_lakes) := goodIn_app (goodIn_of _ (by decide +kernel)) ggL_law_X11_lakes
set_option maxRecDepth 20000 in
theorem ggL_law_X12_lakes : GoodIn wsL_law wsX12_lakes := goodIn_r _ [846, 847, 295, 296, 297, 5, 298, 248, 249, 250, 251, 252, 120, 119, 121, 253, 254, 255, 256, 257, 258, 259, 260, 206, 207, 208, 261, 262, 263, 264, 265, 122, 266, 267, 268, 269, 270, 271, 272, 273, 274, 275, 276, 277, 123, 278, 279, 280, 346, 347, 348, 848, 849, 850, 851, 852, 543, 853, 854, 855, 856, 857, 537, 538, 539, 540, 541, 542, 126, 127, 128, 544, 545, 125, 320, 321, 322, 323, 342, 343, 344, 345, 546, 547, 548, 549, 417, 132, 550, 551, 552, 553, 554, 555, 556, 557, 558, 559, 560, 561, 562, 563, 564, 1014, 1015, 1016, 1017, 1018, 1019, 1020, 1021, 1022, 1023, 1024, 1025, 1026, 1027, 1028, 1029, 1030, 1031, 1032, 1033, 1034, 1035, 1036, 1037, 1038, 1039, 1040, 1041, 1042, 1043] (by decide +kernel) (by decide +kernel)
set_option maxRecDepth 20000 in
theorem gL_law_X12_lakes : GoodIn wsL_law (wsV RL 114 RX12 yX12_lakes wsX12_lakes) := goodIn_app (goodIn_of _ (by decide +kernel)) ggL_law_X12_lakes
set_option maxRecDepth 20000 in
theorem ggL_law_X11_sheet : GoodIn wsL_law wsX11_sheet := goodIn_r _ [861, 380, 381, 382, 2, 383, 49, 862, 863, 864, 384, 385, 386, 387, 388, 865, 866, 867, 51, 868, 110, 869, 870, 219, 63, 220, 871, 62, 64, 393, 109, 999, 1000, 1001, 1002, 1003, 1004, 1005, 1006, 1007, 1008, 1009, 1010, 1011, 1012, 1013, 1083, 1084, 1085, 1086] (by decide +kernel) (by decide +kernel)
set_option maxRecDepth 20000 in
theorem gL_law_X11_sheet : GoodIn wsL_law (wsV RL 115 RX11 yX11_sheet wsX11_sheet) := goodIn_app (goodIn_of _ (by decide +kernel)) ggL_law_X11_sheet
set_option maxRecDepth 20000 in
theorem ggL_law_X12_sheet : GoodIn wsL_law wsX12_sheet := goodIn_r _ [875, 205, 115, 116, 117, 398, 399, 5, 400, 319, 206, 207, 208, 401, 402, 403, 404, 405, 1014, 1015, 1016, 1017, 1018, 1019, 1020, 1021, 1022, 1023, 1024, 1025, 1026, 1027, 1028, 1029, 1030, 1031, 1032, 1033, 1034, 1035, 1036, 1037, 1038, 1039, 1040, 1041, 1042, 1043] (by decide +kernel) (by decide +kernel)
set_option maxRecDepth 20000 in
theorem gL_law_X12_sheet : GoodIn wsL_law (wsV RL 118 RX12 yX12_sheet wsX12_sheet) := goodIn_app (goodIn_of _ (by decide +kernel)) ggL_law_X12_sheet
set_option maxRecDepth 20000 in
theorem ggL_law_X11_lose : GoodIn wsL_law wsX11_lose := goodIn_r _ [879, 378, 379, 380, 381, 382, 2, 383, 49, 384, 385, 386, 387, 388, 1083, 1084, 1085, 1086, 999, 1000, 1001, 1002, 1003, 1004, 1005, 1006, 1007, 1008, 1009, 1010, 1011, 1012, 1013] (by decide +kernel) (by decide +kernel)
set_option maxRecDepth 20000 in
theorem gL_law_X11_lose : GoodIn wsL_law (wsV RL 119 RX11 yX11_lose wsX11_lose) := goodIn_app (goodIn_of _ (by decide +kernel)) ggL_law_X11_lose
set_option maxRecDepth 20000 in
theorem ggL_law_X12_lose : GoodIn wsL_law wsX12_lose := goodIn_r _ [883, 115, 116, 398, 399, 5, 400, 319, 206, 207, 208, 401, 402, 403, 404, 405, 1014, 1015, 1016, 1017, 1018, 1019, 1020, 1021, 1022, 1023, 1024, 1025, 1026, 1027, 1028, 1029, 1030, 1031, 1032, 1033, 1034, 1035, 1036, 1037, 1038, 1039, 1040, 1041, 1042, 1043] (by decide +kernel) (by decide +kernel)
set_option maxRecDepth 20000 in
theorem gL_law_X12_lose : GoodIn wsL_law (wsV RL 122 RX12 yX12_lose wsX12_lose) := goodIn_app (goodIn_of _ (by decide +kernel)) ggL_law_X12_lose
set_option maxRecDepth 20000 in
theorem ggL_law_X11_lay : GoodIn wsL_law wsX11_lay := goodIn_r _ [887, 380, 381, 382, 2, 383, 49, 862, 863, 864, 888, 889, 890, 891, 378, 892, 384, 385, 386, 387, 388, 893, 894, 895, 51, 896, 393, 897, 898, 899, 900, 109, 869, 999, 1000, 1001, 1002, 1003, 1004, 1005, 1006, 1007, 1008, 1009, 1010, 1011, 1012, 1013, 1083, 1084, 1085, 1086] (by decide +kernel) (by decide +kernel)
set_option maxRecDepth 20000 in
theorem gL_law_X11_lay : GoodIn wsL_law (wsV RL 123 RX11 yX11_lay wsX11_lay) := goodIn_app (goodIn_of _ (by decide +kernel)) ggL_law_X11_lay
set_option maxRecDepth 20000 in
theorem ggL_law_X12_lay : GoodIn wsL_law wsX12_lay := goodIn_r _ [904, 205, 117, 398, 399, 5, 400, 319, 206, 207, 208, 905, 906, 907, 908, 115, 116, 401, 402, 403, 404, 405, 909, 910, 911, 1014, 1015, 1016, 1017, 1018, 1019, 1020, 1021, 1022, 1023, 1024, 1025, 1026, 1027, 1028, 1029, 1030, 1031, 1032, 1033, 1034, 1035, 1036, 1037, 1038, 1039, 1040, 1041, 1042, 1043] (by decide +kernel) (by decide +kernel)
set_option maxRecDepth 20000 in
theorem gL_law_X12_lay : GoodIn wsL_law (wsV RL 126 RX12 yX12_lay wsX12_lay) := goodIn_app (goodIn_of _ (by decide +kernel)) ggL_law_X12_lay
set_option maxRecDepth 20000 in
theorem ggL_law_X11_get : GoodIn wsL_law wsX11_get := goodIn_r _ [915, 916, 380, 381, 382, 2, 383, 49, 862, 863, 864, 888, 889, 890, 891, 378, 892, 384, 385, 386, 387, 388, 893, 894, 895, 51, 896, 393, 389, 390, 391, 392, 109, 999, 1000, 1001, 1002, 1003, 1004, 1005, 1006, 1007, 1008, 1009, 1010, 1011, 1012, 1013, 1083, 1084, 1085, 1086] (by decide +kernel) (by decide +kernel)
set_option maxRecDepth 20000 in
theorem gL_law_X11_get : GoodIn wsL_law (wsV RL 127 RX11 yX11_get wsX11_get) := goodIn_app (goodIn_of _ (by decide +kernel)) ggL_law_X11_get
set_option maxRecDepth 20000 in
theorem ggL_law_X12_get : GoodIn wsL_law wsX12_get := goodIn_r _ [920, 205, 921, 117, 398, 399, 5, 400, 319, 206, 207, 208, 905, 906, 907, 908, 115, 116, 401, 402, 403, 404, 405, 1014, 1015, 1016, 1017, 1018, 1019, 1020, 1021, 1022, 1023, 1024, 1025, 1026, 1027, 1028, 1029, 1030, 1031, 1032, 1033, 1034, 1035, 1036, 1037, 1038, 1039, 1040, 1041, 1042, 1043] (by decide +kernel) (by decide +kernel)
set_option maxRecDepth 20000 in
theorem gL_law_X12_get : GoodIn wsL_law (wsV RL 130 RX12 yX12_get wsX12_get) := goodIn_app (goodIn_of _ (by decide +kernel)) ggL_law_X12_get
set_option maxRecDepth 20000 in
theorem ggL_law_X11_copy : GoodIn wsL_law wsX11_copy := goodIn_r _ [925, 378, 892, 926, 927, 928, 929, 930, 380, 381, 382, 2, 383, 49, 384, 385, 386, 387, 388, 893, 894, 895, 51, 896, 393, 1083, 1084, 1085, 1086, 999, 1000, 1001, 1002, 1003, 1004, 1005, 1006, 1007, 1008, 1009, 1010, 1011, 1012, 1013] (by decide +kernel) (by decide +kernel)
set_option maxRecDepth 20000 in
theorem gL_law_X11_copy : GoodIn wsL_law (wsV RL 131 RX11 yX11_copy wsX11_copy) := goodIn_app (goodIn_of _ (by decide +kernel)) ggL_law_X11_copy
set_option maxRecDepth 20000 in
theorem ggL_law_X12_copy : GoodIn wsL_law wsX12_copy := goodIn_r _ [934, 115, 116, 118, 117, 398, 399, 5, 400, 319, 206, 207, 208, 401, 402, 403, 404, 405, 1014, 1015, 1016, 1017, 1018, 1019, 1020, 1021, 1022, 1023, 1024, 1025, 1026, 1027, 1028, 1029, 1030, 1031, 1032, 1033, 1034, 1035, 1036, 1037, 1038, 1039, 1040, 1041, 1042, 1043] (by decide +kernel) (by decide +kernel)
set_option maxRecDepth 20000 in
theorem gL_law_X12_copy : GoodIn wsL_law (wsV RL 135 RX12 yX12_copy wsX12_copy) := goodIn_app (goodIn_of _ (by decide +kernel)) ggL_law_X12_copy
set_option maxRecDepth 20000 in
theorem ggL_law_X11_write : GoodIn wsL_law wsX11_write := goodIn_r _ [938, 27, 378, 379, 15, 285, 286, 939, 219, 63, 220, 380, 381, 382, 2, 383, 49, 423, 424, 425, 26, 426, 357, 384, 385, 386, 387, 388, 427, 428, 429, 430, 31, 411, 431, 432, 433, 434, 435, 436, 437, 438, 439, 77, 440, 441, 442, 443, 444, 445, 446, 447, 448, 449, 450, 451, 30, 452, 90, 91, 453, 454, 455, 456, 457, 458, 85, 459, 460, 86, 89, 461, 462, 304, 305, 306, 57, 307, 174, 463, 329, 330, 464, 309, 310, 18, 311, 312, 313, 314, 178, 179, 65, 465, 332, 333, 22, 334, 335, 336, 337, 466, 467, 468, 469, 87, 88, 470, 471, 472, 473, 84, 474, 475, 476, 477, 478, 288, 289, 479, 480, 481, 482, 483, 484, 485, 486, 487, 574, 575, 576, 577, 578, 579, 580, 581, 497, 498, 499, 500, 501, 502, 488, 489, 490, 491, 582, 504, 505, 506, 507, 62, 64, 508, 509, 510, 511, 512, 897, 898, 899, 51, 900, 393, 109, 869, 999, 1000, 1001, 1002, 1003, 1004, 1005, 1006, 1007, 1008, 1009, 1010, 1011, 1012, 1013, 1083, 1084, 1085, 1086, 1052, 1053, 1054, 1055, 1044, 1045, 1046, 1047, 1048, 1049, 1050, 1051, 1056, 1057, 1058, 1059, 1060, 1061, 1062, 1063, 1064, 1065, 1066, 1067, 1068, 1069, 1070, 1071, 1072, 1073, 1074, 1087, 1088, 1089, 1090] (by decide +kernel) (by decide +kernel)
set_option maxRecDepth 20000 in
theorem gL_law_X11_write : GoodIn wsL_law (wsV RL 136 RX11 yX11_write wsX11_write) := goodIn_app (goodIn_of _ (by decide +kernel)) ggL_law_X11_write
set_option maxRecDepth 20000 in
theorem ggL_law_X12_write : GoodIn wsL_law wsX12_write := goodIn_r _ [943, 115, 116, 252, 117, 541, 125, 525, 526, 527, 5, 528, 364, 206, 207, 208, 346, 347, 348, 398, 399, 400, 319, 401, 402, 403, 404, 405, 295, 296, 297, 298, 248, 249, 250, 251, 120, 119, 121, 253, 254, 255, 256, 257, 258, 259, 260, 261, 262, 263, 264, 265, 122, 266, 267, 268, 269, 270, 271, 272, 273, 274, 275, 276, 277, 123, 278, 279, 280, 533, 534, 535, 536, 124, 537, 538, 539, 540, 542, 543, 126, 127, 128, 544, 545, 320, 321, 322, 323, 342, 343, 344, 345, 546, 547, 548, 549, 417, 132, 550, 551, 552, 553, 554, 555, 556, 557, 558, 559, 560, 561, 562, 563, 564, 944, 945, 946, 909, 910, 911, 1014, 1015, 1016, 1017, 1018, 1019, 1020, 1021, 1022, 1023, 1024, 1025, 1026, 1027, 1028, 1029, 1030, 1031, 1032, 1033, 1034, 1035, 1036, 1037, 1038, 1039, 1040, 1041, 1042, 1043] (by decide +kernel) (by decide +kernel)
set_option maxRecDepth 20000 in
theorem gL_law_X12_write : GoodIn wsL_law (wsV RL 139 RX12 yX12_write wsX12_write) := goodIn_app (goodIn_of _ (by decide +kernel)) ggL_law_X12_write
set_option maxRecDepth 20000 in
theorem ggL_law_X11_count : GoodIn wsL_law wsX11_count := goodIn_r _ [950, 15, 285, 286, 19, 834, 835, 23, 676, 677, 951, 952, 953, 954, 955, 956, 27, 369, 690, 388, 999, 1000, 1001, 1002, 1003, 1004, 1005, 1006, 1007, 1008, 1009, 1010, 1011, 1012, 1013, 1052, 1053, 1054, 1055, 1044, 1045, 1046, 1047, 1048, 1049, 1050, 1051, 1056, 1057] (by decide +kernel) (by decide +kernel)
set_option maxRecDepth 20000 in
theorem gL_law_X11_count : GoodIn wsL_law (wsV RL 140 RX11 yX11_count wsX11_count) := goodIn_app (goodIn_of _ (by decide +kernel)) ggL_law_X11_count
set_option maxRecDepth 20000 in
theorem ggL_law_X12_count : GoodIn wsL_law wsX12_count := goodIn_r _ [960, 252, 265, 277, 120, 364, 696, 405, 295, 296, 297, 5, 298, 248, 249, 250, 251, 119, 121, 253, 254, 255, 256, 257, 258, 259, 260, 206, 207, 208, 261, 262, 263, 264, 122, 266, 267, 268, 269, 270, 271, 272, 273, 274, 275, 276, 123, 278, 279, 280, 1014, 1015, 1016, 1017, 1018, 1019, 1020, 1021, 1022, 1023, 1024, 1025, 1026, 1027, 1028, 1029, 1030, 1031, 1032, 1033, 1034, 1035, 1036, 1037, 1038, 1039, 1040, 1041, 1042, 1043] (by decide +kernel) (by decide +kernel)
set_option maxRecDepth 20000 in
theorem gL_law_X12_count : GoodIn wsL_law (wsV RL 143 RX12 yX12_count wsX12_count) := goodIn_app (goodIn_of _ (by decide +kernel)) ggL_law_X12_count
set_option maxRecDepth 20000 in
theorem ggL_law_X11_digest : GoodIn wsL_law wsX11_digest := goodIn_r _ [964, 965, 966, 15, 285, 286, 19, 834, 835, 23, 676, 677, 27, 369, 967, 948, 949, 2, 950, 951, 952, 953, 954, 955, 956, 690, 388, 968, 236, 237, 238, 239, 138, 139, 140, 141, 969, 282, 283, 284, 287, 288, 289, 178, 57, 179, 65, 970, 300, 301, 302, 303, 304, 305, 306, 307, 174, 308, 309, 310, 18, 311, 312, 313, 314, 742, 706, 707, 708, 709, 710, 711, 712, 31, 411, 431, 45, 713, 46, 423, 424, 425, 26, 426, 357, 432, 433, 434, 435, 436, 437, 438, 439, 77, 440, 441, 442, 443, 444, 445, 446, 447, 448, 449, 450, 451, 30, 452, 90, 91, 453, 454, 455, 456, 457, 458, 85, 459, 460, 86, 89, 461, 462, 463, 329, 330, 464, 465, 332, 333, 22, 334, 335, 336, 337, 466, 467, 468, 469, 87, 88, 470, 471, 472, 473, 84, 474, 475, 476, 477, 478, 479, 480, 481, 482, 483, 484, 485, 486, 487, 488, 489, 490, 491, 492, 493, 494, 495, 496, 497, 498, 499, 500, 501, 502, 503, 504, 505, 506, 507, 62, 63, 64, 508, 509, 510, 511, 512, 971, 739, 740, 741, 743, 744, 745, 746, 47, 747, 427, 428, 429, 430, 972, 325, 326, 327, 328, 331, 973, 974, 975, 976, 35, 977, 419, 420, 421, 422, 513, 514, 515, 14, 516, 517, 518, 519, 520, 978, 570, 571, 572, 573, 574, 575, 576, 577, 578, 579, 580, 581, 582, 583, 584, 585, 586, 587, 588, 589, 590, 979, 612, 613, 614, 615, 616, 617, 34, 618, 619, 620, 621, 219, 220, 622, 623, 624, 625, 626, 627, 628, 629, 630, 631, 632, 633, 634, 635, 636, 637, 638, 639, 640, 980, 651, 652, 653, 654, 655, 656, 657, 658, 659, 660, 981, 673, 674, 675, 982, 727, 728, 729, 983, 761, 762, 763, 764, 39, 765, 766, 767, 768, 769, 770, 771, 772, 773, 774, 775, 38, 776, 777, 778, 779, 780, 781, 782, 783, 784, 785, 786, 787, 788, 102, 789, 790, 791, 792, 793, 794, 795, 796, 797, 798, 799, 800, 801, 802, 803, 804, 805, 984, 600, 601, 602, 985, 831, 832, 833, 43, 836, 837, 838, 839, 42, 840, 841, 842, 999, 1000, 1001, 1002, 1003, 1004, 1005, 1006, 1007, 1008, 1009, 1010, 1011, 1012, 1013, 1052, 1053, 1054, 1055, 1044, 1045, 1046, 1047, 1048, 1049, 1050, 1051, 1056, 1057, 1058, 1059, 1060, 1061, 1062, 1063, 1064, 1065, 1066, 1067, 1068, 1069, 1070, 1071, 1072, 1073, 1074, 1087, 1088, 1089, 1090, 1075, 1076, 1077, 1078, 1079, 1080, 1081, 1082] (by decide +kernel) (by decide +kernel)
set_option maxRecDepth 20000 in
theorem gL_law_X11_digest : GoodIn wsL_law (wsV RL 144 RX11 yX11_digest wsX11_digest) := goodIn_app (goodIn_of _ (by decide +kernel)) ggL_law_X11_digest
set_option maxRecDepth 20000 in
theorem ggL_law_X12_digest : GoodIn wsL_law wsX12_digest := goodIn_r _ [989, 990, 991, 252, 121, 265, 122, 277, 123, 364, 992, 958, 959, 5, 960, 120, 696, 405, 295, 296, 297, 298, 248, 249, 250, 251, 119, 253, 254, 255, 256, 257, 258, 259, 260, 206, 207, 208, 261, 262, 263, 264, 266, 267, 268, 269, 270, 271, 272, 273, 274, 275, 276, 278, 279, 280, 244, 245, 246, 247, 718, 719, 720, 721, 722, 723, 724, 725, 129, 525, 526, 527, 528, 529, 530, 531, 532, 533, 534, 535, 536, 124, 537, 538, 539, 540, 541, 542, 543, 126, 127, 128, 544, 545, 125, 320, 321, 322, 323, 342, 343, 344, 345, 546, 547, 548, 549, 417, 132, 550, 551, 552, 553, 554, 555, 556, 557, 558, 559, 560, 561, 562, 563, 564, 565, 566, 567, 568, 752, 753, 754, 755, 756, 757, 758, 759, 130, 993, 994, 995, 996, 997, 592, 593, 594, 319, 595, 596, 597, 598, 646, 647, 648, 649, 665, 666, 667, 668, 669, 670, 671, 682, 683, 684, 685, 734, 735, 736, 737, 998, 807, 808, 809, 810, 811, 812, 813, 814, 346, 347, 348, 815, 816, 817, 818, 131, 819, 820, 821, 822, 823, 824, 825, 826, 827, 828, 829, 607, 608, 609, 610, 848, 849, 850, 851, 852, 853, 854, 855, 856, 857, 1014, 1015, 1016, 1017, 1018, 1019, 1020, 1021, 1022, 1023, 1024, 1025, 1026, 1027, 1028, 1029, 1030, 1031, 1032, 1033, 1034, 1035, 1036, 1037, 1038, 1039, 1040, 1041, 1042, 1043] (by decide +kernel) (by decide +kernel)
set_option maxRecDepth 20000 in
theorem gL_law_X12_digest : GoodIn wsL_law (wsV RL 148 RX12 yX12_digest wsX12_digest) := goodIn_app (goodIn_of _ (by decide +kernel)) ggL_law_X12_digest
theorem dL_law_0 : decode cL_law 0 = .ok (.new 7, 3) := by decide +kernel
theorem dL_law_3 : decode cL_law 3 = .ok (.dup, 1) := by decide +kernel
theorem dL_law_4 : decode cL_law 4 = .ok (.invokespecial 9, 3) := by decide +kernel
theorem dL_law_7 : decode cL_law 7 = .ok (.astore_n 1, 1) := by decide +kernel
theorem dL_law_8 : decode cL_law 8 = .ok (.new 10, 3) := by decide +kernel
theorem dL_law_11 : decode cL_law 11 = .ok (.dup, 1) := by decide +kernel
theorem dL_law_12 : decode cL_law 12 = .ok (.invokespecial 12, 3) := by decide +kernel
theorem dL_law_15 : decode cL_law 15 = .ok (.astore_n 2, 1) := by decide +kernel
theorem dL_law_16 : decode cL_law 16 = .ok (.iconst 0, 1) := by decide +kernel
theorem dL_law_17 : decode cL_law 17 = .ok (.istore_n 3, 1) := by decide +kernel
theorem dL_law_18 : decode cL_law 18 = .ok (.iload_n 3, 1) := by decide +kernel
theorem dL_law_19 : decode cL_law 19 = .ok (.aload_n 0, 1) := by decide +kernel
theorem dL_law_20 : decode cL_law 20 = .ok (.arraylength, 1) := by decide +kernel
theorem dL_law_21 : decode cL_law 21 = .ok (.bipush 6, 2) := by decide +kernel
theorem dL_law_23 : decode cL_law 23 = .ok (.isub, 1) := by decide +kernel
theorem dL_law_24 : decode cL_law 24 = .ok (.if_icmp .gt 1156, 3) := by decide +kernel
theorem dL_law_27 : decode cL_law 27 = .ok (.aload_n 0, 1) := by decide +kernel
theorem dL_law_28 : decode cL_law 28 = .ok (.iload_n 3, 1) := by decide +kernel
theorem dL_law_29 : decode cL_law 29 = .ok (.iaload, 1) := by decide +kernel
theorem dL_law_30 : decode cL_law 30 = .ok (.bipush 31, 2) := by decide +kernel
theorem dL_law_32 : decode cL_law 32 = .ok (.iand, 1) := by decide +kernel
theorem dL_law_33 : decode cL_law 33 = .ok (.tableswitch 1141 0 31 #[143, 176, 199, 222, 245, 268, 301, 334, 387, 400, 423, 446, 479, 522, 535, 568, 601, 634, 667, 680, 703, 726, 749, 793, 836, 879, 902, 955, 998, 1061, 1104, 1127], 143) := by decide +kernel
theorem dL_law_176 : decode cL_law 176 = .ok (.aload_n 1, 1) := by decide +kernel
theorem dL_law_177 : decode cL_law 177 = .ok (.aload_n 0, 1) := by decide +kernel
theorem dL_law_178 : decode cL_law 178 = .ok (.iload_n 3, 1) := by decide +kernel
theorem dL_law_179 : decode cL_law 179 = .ok (.iconst 1, 1) := by decide +kernel
theorem dL_law_180 : decode cL_law 180 = .ok (.iadd, 1) := by decide +kernel
theorem dL_law_181 : decode cL_law 181 = .ok (.iaload, 1) := by decide +kernel
theorem dL_law_182 : decode cL_law 182 = .ok (.aload_n 0, 1) := by decide +kernel
theorem dL_law_183 : decode cL_law 183 = .ok (.iload_n 3, 1) := by decide +kernel
theorem dL_law_184 : decode cL_law 184 = .ok (.iconst 2, 1) := by decide +kernel
theorem dL_law_185 : decode cL_law 185 = .ok (.iadd, 1) := by decide +kernel
theorem dL_law_186 : decode cL_law 186 = .ok (.iaload, 1) := by decide +kernel
theorem dL_law_187 : decode cL_law 187 = .ok (.invokevirtual 13, 3) := by decide +kernel
theorem dL_law_190 : decode cL_law 190 = .ok (.aload_n 2, 1) := by decide +kernel
theorem dL_law_191 : decode cL_law 191 = .ok (.aload_n 0, 1) := by decide +kernel
theorem dL_law_192 : decode cL_law 192 = .ok (.iload_n 3, 1) := by decide +kernel
theorem dL_law_193 : decode cL_law 193 = .ok (.iconst 1, 1) := by decide +kernel
theorem dL_law_194 : decode cL_law 194 = .ok (.iadd, 1) := by decide +kernel
theorem dL_law_195 : decode cL_law 195 = .ok (.iaload, 1) := by decide +kernel
theorem dL_law_196 : decode cL_law 196 = .ok (.aload_n 0, 1) := by decide +kernel
theorem dL_law_197 : decode cL_law 197 = .ok (.iload_n 3, 1) := by decide +kernel
theorem dL_law_198 : decode cL_law 198 = .ok (.iconst 2, 1) := by decide +kernel
theorem dL_law_199 : decode cL_law 199 = .ok (.iadd, 1) := by decide +kernel
theorem dL_law_200 : decode cL_law 200 = .ok (.iaload, 1) := by decide +kernel
theorem dL_law_201 : decode cL_law 201 = .ok (.invokevirtual 17, 3) := by decide +kernel
theorem dL_law_204 : decode cL_law 204 = .ok (.if_icmp .eq 970, 3) := by decide +kernel
theorem dL_law_207 : decode cL_law 207 = .ok (.iconst 0, 1) := by decide +kernel
theorem dL_law_208 : decode cL_law 208 = .ok (.ireturn, 1) := by decide +kernel
theorem dL_law_209 : decode cL_law 209 = .ok (.aload_n 1, 1) := by decide +kernel
theorem dL_law_210 : decode cL_law 210 = .ok (.aload_n 0, 1) := by decide +kernel
theorem dL_law_211 : decode cL_law 211 = .ok (.iload_n 3, 1) := by decide +kernel
theorem dL_law_212 : decode cL_law 212 = .ok (.iconst 1, 1) := by decide +kernel
theorem dL_law_213 : decode cL_law 213 = .ok (.iadd, 1) := by decide +kernel
theorem dL_law_214 : decode cL_law 214 = .ok (.iaload, 1) := by decide +kernel
theorem dL_law_215 : decode cL_law 215 = .ok (.invokevirtual 18, 3) := by decide +kernel
theorem dL_law_218 : decode cL_law 218 = .ok (.aload_n 2, 1) := by decide +kernel
theorem dL_law_219 : decode cL_law 219 = .ok (.aload_n 0, 1) := by decide +kernel
theorem dL_law_220 : decode cL_law 220 = .ok (.iload_n 3, 1) := by decide +kernel
theorem dL_law_221 : decode cL_law 221 = .ok (.iconst 1, 1) := by decide +kernel
theorem dL_law_222 : decode cL_law 222 = .ok (.iadd, 1) := by decide +kernel
theorem dL_law_223 : decode cL_law 223 = .ok (.iaload, 1) := by decide +kernel
theorem dL_law_224 : decode cL_law 224 = .ok (.invokevirtual 22, 3) := by decide +kernel
theorem dL_law_227 : decode cL_law 227 = .ok (.if_icmp .eq 947, 3) := by decide +kernel
theorem dL_law_230 : decode cL_law 230 = .ok (.iconst 0, 1) := by decide +kernel
theorem dL_law_231 : decode cL_law 231 = .ok (.ireturn, 1) := by decide +kernel
theorem dL_law_232 : decode cL_law 232 = .ok (.aload_n 1, 1) := by decide +kernel
theorem dL_law_233 : decode cL_law 233 = .ok (.aload_n 0, 1) := by decide +kernel
theorem dL_law_234 : decode cL_law 234 = .ok (.iload_n 3, 1) := by decide +kernel
theorem dL_law_235 : decode cL_law 235 = .ok (.iconst 1, 1) := by decide +kernel
theorem dL_law_236 : decode cL_law 236 = .ok (.iadd, 1) := by decide +kernel
theorem dL_law_237 : decode cL_law 237 = .ok (.iaload, 1) := by decide +kernel
theorem dL_law_238 : decode cL_law 238 = .ok (.invokevirtual 23, 3) := by decide +kernel
theorem dL_law_241 : decode cL_law 241 = .ok (.aload_n 2, 1) := by decide +kernel
theorem dL_law_242 : decode cL_law 242 = .ok (.aload_n 0, 1) := by decide +kernel
theorem dL_law_243 : decode cL_law 243 = .ok (.iload_n 3, 1) := by decide +kernel
theorem dL_law_244 : decode cL_law 244 = .ok (.iconst 1, 1) := by decide +kernel
theorem dL_law_245 : decode cL_law 245 = .ok (.iadd, 1) := by decide +kernel
theorem dL_law_246 : decode cL_law 246 = .ok (.iaload, 1) := by decide +kernel
theorem dL_law_247 : decode cL_law 247 = .ok (.invokevirtual 26, 3) := by decide +kernel
theorem dL_law_250 : decode cL_law 250 = .ok (.if_icmp .eq 924, 3) := by decide +kernel
theorem dL_law_253 : decode cL_law 253 = .ok (.iconst 0, 1) := by decide +kernel
theorem dL_law_254 : decode cL_law 254 = .ok (.ireturn, 1) := by decide +kernel
theorem dL_law_255 : decode cL_law 255 = .ok (.aload_n 1, 1) := by decide +kernel
theorem dL_law_256 : decode cL_law 256 = .ok (.aload_n 0, 1) := by decide +kernel
theorem dL_law_257 : decode cL_law 257 = .ok (.iload_n 3, 1) := by decide +kernel
theorem dL_law_258 : decode cL_law 258 = .ok (.iconst 1, 1) := by decide +kernel
theorem dL_law_259 : decode cL_law 259 = .ok (.iadd, 1) := by decide +kernel
theorem dL_law_260 : decode cL_law 260 = .ok (.iaload, 1) := by decide +kernel
theorem dL_law_261 : decode cL_law 261 = .ok (.invokevirtual 27, 3) := by decide +kernel
theorem dL_law_264 : decode cL_law 264 = .ok (.aload_n 2, 1) := by decide +kernel
theorem dL_law_265 : decode cL_law 265 = .ok (.aload_n 0, 1) := by decide +kernel
theorem dL_law_266 : decode cL_law 266 = .ok (.iload_n 3, 1) := by decide +kernel
theorem dL_law_267 : decode cL_law 267 = .ok (.iconst 1, 1) := by decide +kernel
theorem dL_law_268 : decode cL_law 268 = .ok (.iadd, 1) := by decide +kernel
theorem dL_law_269 : decode cL_law 269 = .ok (.iaload, 1) := by decide +kernel
theorem dL_law_270 : decode cL_law 270 = .ok (.invokevirtual 30, 3) := by decide +kernel
theorem dL_law_273 : decode cL_law 273 = .ok (.if_icmp .eq 901, 3) := by decide +kernel
theorem dL_law_276 : decode cL_law 276 = .ok (.iconst 0, 1) := by decide +kernel
theorem dL_law_277 : decode cL_law 277 = .ok (.ireturn, 1) := by decide +kernel
theorem dL_law_278 : decode cL_law 278 = .ok (.aload_n 1, 1) := by decide +kernel
theorem dL_law_279 : decode cL_law 279 = .ok (.aload_n 0, 1) := by decide +kernel
theorem dL_law_280 : decode cL_law 280 = .ok (.iload_n 3, 1) := by decide +kernel
theorem dL_law_281 : decode cL_law 281 = .ok (.iconst 1, 1) := by decide +kernel
theorem dL_law_282 : decode cL_law 282 = .ok (.iadd, 1) := by decide +kernel
theorem dL_law_283 : decode cL_law 283 = .ok (.iaload, 1) := by decide +kernel
theorem dL_law_284 : decode cL_law 284 = .ok (.invokevirtual 31, 3) := by decide +kernel
theorem dL_law_287 : decode cL_law 287 = .ok (.aload_n 2, 1) := by decide +kernel
theorem dL_law_288 : decode cL_law 288 = .ok (.aload_n 0, 1) := by decide +kernel
theorem dL_law_289 : decode cL_law 289 = .ok (.iload_n 3, 1) := by decide +kernel
theorem dL_law_290 : decode cL_law 290 = .ok (.iconst 1, 1) := by decide +kernel
theorem dL_law_291 : decode cL_law 291 = .ok (.iadd, 1) := by decide +kernel
theorem dL_law_292 : decode cL_law 292 = .ok (.iaload, 1) := by decide +kernel
theorem dL_law_293 : decode cL_law 293 = .ok (.invokevirtual 34, 3) := by decide +kernel
theorem dL_law_296 : decode cL_law 296 = .ok (.if_icmp .eq 878, 3) := by decide +kernel
theorem dL_law_299 : decode cL_law 299 = .ok (.iconst 0, 1) := by decide +kernel
theorem dL_law_300 : decode cL_law 300 = .ok (.ireturn, 1) := by decide +kernel
theorem dL_law_301 : decode cL_law 301 = .ok (.aload_n 1, 1) := by decide +kernel
theorem dL_law_302 : decode cL_law 302 = .ok (.aload_n 0, 1) := by decide +kernel
theorem dL_law_303 : decode cL_law 303 = .ok (.iload_n 3, 1) := by decide +kernel
theorem dL_law_304 : decode cL_law 304 = .ok (.iconst 1, 1) := by decide +kernel
theorem dL_law_305 : decode cL_law 305 = .ok (.iadd, 1) := by decide +kernel
theorem dL_law_306 : decode cL_law 306 = .ok (.iaload, 1) := by decide +kernel
theorem dL_law_307 : decode cL_law 307 = .ok (.aload_n 0, 1) := by decide +kernel
theorem dL_law_308 : decode cL_law 308 = .ok (.iload_n 3, 1) := by decide +kernel
theorem dL_law_309 : decode cL_law 309 = .ok (.iconst 2, 1) := by decide +kernel
theorem dL_law_310 : decode cL_law 310 = .ok (.iadd, 1) := by decide +kernel
theorem dL_law_311 : decode cL_law 311 = .ok (.iaload, 1) := by decide +kernel
theorem dL_law_312 : decode cL_law 312 = .ok (.invokevirtual 35, 3) := by decide +kernel
theorem dL_law_315 : decode cL_law 315 = .ok (.aload_n 2, 1) := by decide +kernel
theorem dL_law_316 : decode cL_law 316 = .ok (.aload_n 0, 1) := by decide +kernel
theorem dL_law_317 : decode cL_law 317 = .ok (.iload_n 3, 1) := by decide +kernel
theorem dL_law_318 : decode cL_law 318 = .ok (.iconst 1, 1) := by decide +kernel
theorem dL_law_319 : decode cL_law 319 = .ok (.iadd, 1) := by decide +kernel
theorem dL_law_320 : decode cL_law 320 = .ok (.iaload, 1) := by decide +kernel
theorem dL_law_321 : decode cL_law 321 = .ok (.aload_n 0, 1) := by decide +kernel
theorem dL_law_322 : decode cL_law 322 = .ok (.iload_n 3, 1) := by decide +kernel
theorem dL_law_323 : decode cL_law 323 = .ok (.iconst 2, 1) := by decide +kernel
theorem dL_law_324 : decode cL_law 324 = .ok (.iadd, 1) := by decide +kernel
theorem dL_law_325 : decode cL_law 325 = .ok (.iaload, 1) := by decide +kernel
theorem dL_law_326 : decode cL_law 326 = .ok (.invokevirtual 38, 3) := by decide +kernel
theorem dL_law_329 : decode cL_law 329 = .ok (.if_icmp .eq 845, 3) := by decide +kernel
theorem dL_law_332 : decode cL_law 332 = .ok (.iconst 0, 1) := by decide +kernel
theorem dL_law_333 : decode cL_law 333 = .ok (.ireturn, 1) := by decide +kernel
theorem dL_law_334 : decode cL_law 334 = .ok (.aload_n 1, 1) := by decide +kernel
theorem dL_law_335 : decode cL_law 335 = .ok (.aload_n 0, 1) := by decide +kernel
theorem dL_law_336 : decode cL_law 336 = .ok (.iload_n 3, 1) := by decide +kernel
theorem dL_law_337 : decode cL_law 337 = .ok (.iconst 1, 1) := by decide +kernel
theorem dL_law_338 : decode cL_law 338 = .ok (.iadd, 1) := by decide +kernel
theorem dL_law_339 : decode cL_law 339 = .ok (.iaload, 1) := by decide +kernel
theorem dL_law_340 : decode cL_law 340 = .ok (.aload_n 0, 1) := by decide +kernel
theorem dL_law_341 : decode cL_law 341 = .ok (.iload_n 3, 1) := by decide +kernel
theorem dL_law_342 : decode cL_law 342 = .ok (.iconst 2, 1) := by decide +kernel
theorem dL_law_343 : decode cL_law 343 = .ok (.iadd, 1) := by decide +kernel
theorem dL_law_344 : decode cL_law 344 = .ok (.iaload, 1) := by decide +kernel
theorem dL_law_345 : decode cL_law 345 = .ok (.invokevirtual 39, 3) := by decide +kernel
theorem dL_law_348 : decode cL_law 348 = .ok (.aload_n 2, 1) := by decide +kernel
theorem dL_law_349 : decode cL_law 349 = .ok (.aload_n 0, 1) := by decide +kernel
theorem dL_law_350 : decode cL_law 350 = .ok (.iload_n 3, 1) := by decide +kernel
theorem dL_law_351 : decode cL_law 351 = .ok (.iconst 1, 1) := by decide +kernel
theorem dL_law_352 : decode cL_law 352 = .ok (.iadd, 1) := by decide +kernel
theorem dL_law_353 : decode cL_law 353 = .ok (.iaload, 1) := by decide +kernel
theorem dL_law_354 : decode cL_law 354 = .ok (.aload_n 0, 1) := by decide +kernel
theorem dL_law_355 : decode cL_law 355 = .ok (.iload_n 3, 1) := by decide +kernel
theorem dL_law_356 : decode cL_law 356 = .ok (.iconst 2, 1) := by decide +kernel
theorem dL_law_357 : decode cL_law 357 = .ok (.iadd, 1) := by decide +kernel
theorem dL_law_358 : decode cL_law 358 = .ok (.iaload, 1) := by decide +kernel
theorem dL_law_359 : decode cL_law 359 = .ok (.invokevirtual 42, 3) := by decide +kernel
theorem dL_law_362 : decode cL_law 362 = .ok (.if_icmp .eq 812, 3) := by decide +kernel
theorem dL_law_365 : decode cL_law 365 = .ok (.iconst 0, 1) := by decide +kernel
theorem dL_law_366 : decode cL_law 366 = .ok (.ireturn, 1) := by decide +kernel
theorem dL_law_367 : decode cL_law 367 = .ok (.aload_n 1, 1) := by decide +kernel
theorem dL_law_368 : decode cL_law 368 = .ok (.aload_n 0, 1) := by decide +kernel
theorem dL_law_369 : decode cL_law 369 = .ok (.iload_n 3, 1) := by decide +kernel
theorem dL_law_370 : decode cL_law 370 = .ok (.iconst 1, 1) := by decide +kernel
theorem dL_law_371 : decode cL_law 371 = .ok (.iadd, 1) := by decide +kernel
theorem dL_law_372 : decode cL_law 372 = .ok (.iaload, 1) := by decide +kernel
theorem dL_law_373 : decode cL_law 373 = .ok (.aload_n 0, 1) := by decide +kernel
theorem dL_law_374 : decode cL_law 374 = .ok (.iload_n 3, 1) := by decide +kernel
theorem dL_law_375 : decode cL_law 375 = .ok (.iconst 2, 1) := by decide +kernel
theorem dL_law_376 : decode cL_law 376 = .ok (.iadd, 1) := by decide +kernel
theorem dL_law_377 : decode cL_law 377 = .ok (.iaload, 1) := by decide +kernel
theorem dL_law_378 : decode cL_law 378 = .ok (.aload_n 0, 1) := by decide +kernel
theorem dL_law_379 : decode cL_law 379 = .ok (.iload_n 3, 1) := by decide +kernel
theorem dL_law_380 : decode cL_law 380 = .ok (.iconst 3, 1) := by decide +kernel
theorem dL_law_381 : decode cL_law 381 = .ok (.iadd, 1) := by decide +kernel
theorem dL_law_382 : decode cL_law 382 = .ok (.iaload, 1) := by decide +kernel
theorem dL_law_383 : decode cL_law 383 = .ok (.aload_n 0, 1) := by decide +kernel
theorem dL_law_384 : decode cL_law 384 = .ok (.iload_n 3, 1) := by decide +kernel
theorem dL_law_385 : decode cL_law 385 = .ok (.iconst 4, 1) := by decide +kernel
theorem dL_law_386 : decode cL_law 386 = .ok (.iadd, 1) := by decide +kernel
theorem dL_law_387 : decode cL_law 387 = .ok (.iaload, 1) := by decide +kernel
theorem dL_law_388 : decode cL_law 388 = .ok (.invokevirtual 43, 3) := by decide +kernel
theorem dL_law_391 : decode cL_law 391 = .ok (.aload_n 2, 1) := by decide +kernel
theorem dL_law_392 : decode cL_law 392 = .ok (.aload_n 0, 1) := by decide +kernel
theorem dL_law_393 : decode cL_law 393 = .ok (.iload_n 3, 1) := by decide +kernel
theorem dL_law_394 : decode cL_law 394 = .ok (.iconst 1, 1) := by decide +kernel
theorem dL_law_395 : decode cL_law 395 = .ok (.iadd, 1) := by decide +kernel
theorem dL_law_396 : decode cL_law 396 = .ok (.iaload, 1) := by decide +kernel
theorem dL_law_397 : decode cL_law 397 = .ok (.aload_n 0, 1) := by decide +kernel
theorem dL_law_398 : decode cL_law 398 = .ok (.iload_n 3, 1) := by decide +kernel
theorem dL_law_399 : decode cL_law 399 = .ok (.iconst 2, 1) := by decide +kernel
theorem dL_law_400 : decode cL_law 400 = .ok (.iadd, 1) := by decide +kernel
theorem dL_law_401 : decode cL_law 401 = .ok (.iaload, 1) := by decide +kernel
theorem dL_law_402 : decode cL_law 402 = .ok (.aload_n 0, 1) := by decide +kernel
theorem dL_law_403 : decode cL_law 403 = .ok (.iload_n 3, 1) := by decide +kernel
theorem dL_law_404 : decode cL_law 404 = .ok (.iconst 3, 1) := by decide +kernel
theorem dL_law_405 : decode cL_law 405 = .ok (.iadd, 1) := by decide +kernel
theorem dL_law_406 : decode cL_law 406 = .ok (.iaload, 1) := by decide +kernel
theorem dL_law_407 : decode cL_law 407 = .ok (.aload_n 0, 1) := by decide +kernel
theorem dL_law_408 : decode cL_law 408 = .ok (.iload_n 3, 1) := by decide +kernel
theorem dL_law_409 : decode cL_law 409 = .ok (.iconst 4, 1) := by decide +kernel
theorem dL_law_410 : decode cL_law 410 = .ok (.iadd, 1) := by decide +kernel
theorem dL_law_411 : decode cL_law 411 = .ok (.iaload, 1) := by decide +kernel
theorem dL_law_412 : decode cL_law 412 = .ok (.invokevirtual 47, 3) := by decide +kernel
theorem dL_law_415 : decode cL_law 415 = .ok (.if_icmp .eq 759, 3) := by decide +kernel
theorem dL_law_418 : decode cL_law 418 = .ok (.iconst 0, 1) := by decide +kernel
theorem dL_law_419 : decode cL_law 419 = .ok (.ireturn, 1) := by decide +kernel
theorem dL_law_420 : decode cL_law 420 = .ok (.aload_n 1, 1) := by decide +kernel
theorem dL_law_421 : decode cL_law 421 = .ok (.invokevirtual 48, 3) := by decide +kernel
theorem dL_law_424 : decode cL_law 424 = .ok (.aload_n 2, 1) := by decide +kernel
theorem dL_law_425 : decode cL_law 425 = .ok (.invokevirtual 52, 3) := by decide +kernel
theorem dL_law_428 : decode cL_law 428 = .ok (.if_icmp .eq 746, 3) := by decide +kernel
theorem dL_law_431 : decode cL_law 431 = .ok (.iconst 0, 1) := by decide +kernel
theorem dL_law_432 : decode cL_law 432 = .ok (.ireturn, 1) := by decide +kernel
theorem dL_law_433 : decode cL_law 433 = .ok (.aload_n 1, 1) := by decide +kernel
theorem dL_law_434 : decode cL_law 434 = .ok (.aload_n 0, 1) := by decide +kernel
theorem dL_law_435 : decode cL_law 435 = .ok (.iload_n 3, 1) := by decide +kernel
theorem dL_law_436 : decode cL_law 436 = .ok (.iconst 1, 1) := by decide +kernel
theorem dL_law_437 : decode cL_law 437 = .ok (.iadd, 1) := by decide +kernel
theorem dL_law_438 : decode cL_law 438 = .ok (.iaload, 1) := by decide +kernel
theorem dL_law_439 : decode cL_law 439 = .ok (.invokevirtual 53, 3) := by decide +kernel
theorem dL_law_442 : decode cL_law 442 = .ok (.aload_n 2, 1) := by decide +kernel
theorem dL_law_443 : decode cL_law 443 = .ok (.aload_n 0, 1) := by decide +kernel
theorem dL_law_444 : decode cL_law 444 = .ok (.iload_n 3, 1) := by decide +kernel
theorem dL_law_445 : decode cL_law 445 = .ok (.iconst 1, 1) := by decide +kernel
theorem dL_law_446 : decode cL_law 446 = .ok (.iadd, 1) := by decide +kernel
theorem dL_law_447 : decode cL_law 447 = .ok (.iaload, 1) := by decide +kernel
theorem dL_law_448 : decode cL_law 448 = .ok (.invokevirtual 56, 3) := by decide +kernel
theorem dL_law_451 : decode cL_law 451 = .ok (.if_icmp .eq 723, 3) := by decide +kernel
theorem dL_law_454 : decode cL_law 454 = .ok (.iconst 0, 1) := by decide +kernel
theorem dL_law_455 : decode cL_law 455 = .ok (.ireturn, 1) := by decide +kernel
theorem dL_law_456 : decode cL_law 456 = .ok (.aload_n 1, 1) := by decide +kernel
theorem dL_law_457 : decode cL_law 457 = .ok (.aload_n 0, 1) := by decide +kernel
theorem dL_law_458 : decode cL_law 458 = .ok (.iload_n 3, 1) := by decide +kernel
theorem dL_law_459 : decode cL_law 459 = .ok (.iconst 1, 1) := by decide +kernel
theorem dL_law_460 : decode cL_law 460 = .ok (.iadd, 1) := by decide +kernel
theorem dL_law_461 : decode cL_law 461 = .ok (.iaload, 1) := by decide +kernel
theorem dL_law_462 : decode cL_law 462 = .ok (.invokevirtual 57, 3) := by decide +kernel
theorem dL_law_465 : decode cL_law 465 = .ok (.aload_n 2, 1) := by decide +kernel
theorem dL_law_466 : decode cL_law 466 = .ok (.aload_n 0, 1) := by decide +kernel
theorem dL_law_467 : decode cL_law 467 = .ok (.iload_n 3, 1) := by decide +kernel
theorem dL_law_468 : decode cL_law 468 = .ok (.iconst 1, 1) := by decide +kernel
theorem dL_law_469 : decode cL_law 469 = .ok (.iadd, 1) := by decide +kernel
theorem dL_law_470 : decode cL_law 470 = .ok (.iaload, 1) := by decide +kernel
theorem dL_law_471 : decode cL_law 471 = .ok (.invokevirtual 60, 3) := by decide +kernel
theorem dL_law_474 : decode cL_law 474 = .ok (.if_icmp .eq 700, 3) := by decide +kernel
theorem dL_law_477 : decode cL_law 477 = .ok (.iconst 0, 1) := by decide +kernel
theorem dL_law_478 : decode cL_law 478 = .ok (.ireturn, 1) := by decide +kernel
theorem dL_law_479 : decode cL_law 479 = .ok (.aload_n 1, 1) := by decide +kernel
theorem dL_law_480 : decode cL_law 480 = .ok (.aload_n 0, 1) := by decide +kernel
theorem dL_law_481 : decode cL_law 481 = .ok (.iload_n 3, 1) := by decide +kernel
theorem dL_law_482 : decode cL_law 482 = .ok (.iconst 1, 1) := by decide +kernel
theorem dL_law_483 : decode cL_law 483 = .ok (.iadd, 1) := by decide +kernel
theorem dL_law_484 : decode cL_law 484 = .ok (.iaload, 1) := by decide +kernel
theorem dL_law_485 : decode cL_law 485 = .ok (.aload_n 0, 1) := by decide +kernel
theorem dL_law_486 : decode cL_law 486 = .ok (.iload_n 3, 1) := by decide +kernel
theorem dL_law_487 : decode cL_law 487 = .ok (.iconst 2, 1) := by decide +kernel
theorem dL_law_488 : decode cL_law 488 = .ok (.iadd, 1) := by decide +kernel
theorem dL_law_489 : decode cL_law 489 = .ok (.iaload, 1) := by decide +kernel
theorem dL_law_490 : decode cL_law 490 = .ok (.invokevirtual 61, 3) := by decide +kernel
theorem dL_law_493 : decode cL_law 493 = .ok (.aload_n 2, 1) := by decide +kernel
theorem dL_law_494 : decode cL_law 494 = .ok (.aload_n 0, 1) := by decide +kernel
theorem dL_law_495 : decode cL_law 495 = .ok (.iload_n 3, 1) := by decide +kernel
theorem dL_law_496 : decode cL_law 496 = .ok (.iconst 1, 1) := by decide +kernel
theorem dL_law_497 : decode cL_law 497 = .ok (.iadd, 1) := by decide +kernel
theorem dL_law_498 : decode cL_law 498 = .ok (.iaload, 1) := by decide +kernel
theorem dL_law_499 : decode cL_law 499 = .ok (.aload_n 0, 1) := by decide +kernel
theorem dL_law_500 : decode cL_law 500 = .ok (.iload_n 3, 1) := by decide +kernel
theorem dL_law_501 : decode cL_law 501 = .ok (.iconst 2, 1) := by decide +kernel
theorem dL_law_502 : decode cL_law 502 = .ok (.iadd, 1) := by decide +kernel
theorem dL_law_503 : decode cL_law 503 = .ok (.iaload, 1) := by decide +kernel
theorem dL_law_504 : decode cL_law 504 = .ok (.invokevirtual 64, 3) := by decide +kernel
theorem dL_law_507 : decode cL_law 507 = .ok (.if_icmp .eq 667, 3) := by decide +kernel
theorem dL_law_510 : decode cL_law 510 = .ok (.iconst 0, 1) := by decide +kernel
theorem dL_law_511 : decode cL_law 511 = .ok (.ireturn, 1) := by decide +kernel
theorem dL_law_512 : decode cL_law 512 = .ok (.aload_n 1, 1) := by decide +kernel
theorem dL_law_513 : decode cL_law 513 = .ok (.aload_n 0, 1) := by decide +kernel
theorem dL_law_514 : decode cL_law 514 = .ok (.iload_n 3, 1) := by decide +kernel
theorem dL_law_515 : decode cL_law 515 = .ok (.iconst 1, 1) := by decide +kernel
theorem dL_law_516 : decode cL_law 516 = .ok (.iadd, 1) := by decide +kernel
theorem dL_law_517 : decode cL_law 517 = .ok (.iaload, 1) := by decide +kernel
theorem dL_law_518 : decode cL_law 518 = .ok (.aload_n 0, 1) := by decide +kernel
theorem dL_law_519 : decode cL_law 519 = .ok (.iload_n 3, 1) := by decide +kernel
theorem dL_law_520 : decode cL_law 520 = .ok (.iconst 2, 1) := by decide +kernel
theorem dL_law_521 : decode cL_law 521 = .ok (.iadd, 1) := by decide +kernel
theorem dL_law_522 : decode cL_law 522 = .ok (.iaload, 1) := by decide +kernel
theorem dL_law_523 : decode cL_law 523 = .ok (.aload_n 0, 1) := by decide +kernel
theorem dL_law_524 : decode cL_law 524 = .ok (.iload_n 3, 1) := by decide +kernel
theorem dL_law_525 : decode cL_law 525 = .ok (.iconst 3, 1) := by decide +kernel
theorem dL_law_526 : decode cL_law 526 = .ok (.iadd, 1) := by decide +kernel
theorem dL_law_527 : decode cL_law 527 = .ok (.iaload, 1) := by decide +kernel
theorem dL_law_528 : decode cL_law 528 = .ok (.invokevirtual 65, 3) := by decide +kernel
theorem dL_law_531 : decode cL_law 531 = .ok (.aload_n 2, 1) := by decide +kernel
theorem dL_law_532 : decode cL_law 532 = .ok (.aload_n 0, 1) := by decide +kernel
theorem dL_law_533 : decode cL_law 533 = .ok (.iload_n 3, 1) := by decide +kernel
theorem dL_law_534 : decode cL_law 534 = .ok (.iconst 1, 1) := by decide +kernel
theorem dL_law_535 : decode cL_law 535 = .ok (.iadd, 1) := by decide +kernel
theorem dL_law_536 : decode cL_law 536 = .ok (.iaload, 1) := by decide +kernel
theorem dL_law_537 : decode cL_law 537 = .ok (.aload_n 0, 1) := by decide +kernel
theorem dL_law_538 : decode cL_law 538 = .ok (.iload_n 3, 1) := by decide +kernel
theorem dL_law_539 : decode cL_law 539 = .ok (.iconst 2, 1) := by decide +kernel
theorem dL_law_540 : decode cL_law 540 = .ok (.iadd, 1) := by decide +kernel
theorem dL_law_541 : decode cL_law 541 = .ok (.iaload, 1) := by decide +kernel
theorem dL_law_542 : decode cL_law 542 = .ok (.aload_n 0, 1) := by decide +kernel
theorem dL_law_543 : decode cL_law 543 = .ok (.iload_n 3, 1) := by decide +kernel
theorem dL_law_544 : decode cL_law 544 = .ok (.iconst 3, 1) := by decide +kernel
theorem dL_law_545 : decode cL_law 545 = .ok (.iadd, 1) := by decide +kernel
theorem dL_law_546 : decode cL_law 546 = .ok (.iaload, 1) := by decide +kernel
theorem dL_law_547 : decode cL_law 547 = .ok (.invokevirtual 69, 3) := by decide +kernel
theorem dL_law_550 : decode cL_law 550 = .ok (.if_icmp .eq 624, 3) := by decide +kernel
theorem dL_law_553 : decode cL_law 553 = .ok (.iconst 0, 1) := by decide +kernel
theorem dL_law_554 : decode cL_law 554 = .ok (.ireturn, 1) := by decide +kernel
theorem dL_law_555 : decode cL_law 555 = .ok (.aload_n 1, 1) := by decide +kernel
theorem dL_law_556 : decode cL_law 556 = .ok (.invokevirtual 70, 3) := by decide +kernel
theorem dL_law_559 : decode cL_law 559 = .ok (.aload_n 2, 1) := by decide +kernel
theorem dL_law_560 : decode cL_law 560 = .ok (.invokevirtual 73, 3) := by decide +kernel
theorem dL_law_563 : decode cL_law 563 = .ok (.if_icmp .eq 611, 3) := by decide +kernel
theorem dL_law_566 : decode cL_law 566 = .ok (.iconst 0, 1) := by decide +kernel
theorem dL_law_567 : decode cL_law 567 = .ok (.ireturn, 1) := by decide +kernel
theorem dL_law_568 : decode cL_law 568 = .ok (.aload_n 1, 1) := by decide +kernel
theorem dL_law_569 : decode cL_law 569 = .ok (.aload_n 0, 1) := by decide +kernel
theorem dL_law_570 : decode cL_law 570 = .ok (.iload_n 3, 1) := by decide +kernel
theorem dL_law_571 : decode cL_law 571 = .ok (.iconst 1, 1) := by decide +kernel
theorem dL_law_572 : decode cL_law 572 = .ok (.iadd, 1) := by decide +kernel
theorem dL_law_573 : decode cL_law 573 = .ok (.iaload, 1) := by decide +kernel
theorem dL_law_574 : decode cL_law 574 = .ok (.aload_n 0, 1) := by decide +kernel
theorem dL_law_575 : decode cL_law 575 = .ok (.iload_n 3, 1) := by decide +kernel
theorem dL_law_576 : decode cL_law 576 = .ok (.iconst 2, 1) := by decide +kernel
theorem dL_law_577 : decode cL_law 577 = .ok (.iadd, 1) := by decide +kernel
theorem dL_law_578 : decode cL_law 578 = .ok (.iaload, 1) := by decide +kernel
theorem dL_law_579 : decode cL_law 579 = .ok (.invokevirtual 74, 3) := by decide +kernel
theorem dL_law_582 : decode cL_law 582 = .ok (.aload_n 2, 1) := by decide +kernel
theorem dL_law_583 : decode cL_law 583 = .ok (.aload_n 0, 1) := by decide +kernel
theorem dL_law_584 : decode cL_law 584 = .ok (.iload_n 3, 1) := by decide +kernel
theorem dL_law_585 : decode cL_law 585 = .ok (.iconst 1, 1) := by decide +kernel
theorem dL_law_586 : decode cL_law 586 = .ok (.iadd, 1) := by decide +kernel
theorem dL_law_587 : decode cL_law 587 = .ok (.iaload, 1) := by decide +kernel
theorem dL_law_588 : decode cL_law 588 = .ok (.aload_n 0, 1) := by decide +kernel
theorem dL_law_589 : decode cL_law 589 = .ok (.iload_n 3, 1) := by decide +kernel
theorem dL_law_590 : decode cL_law 590 = .ok (.iconst 2, 1) := by decide +kernel
theorem dL_law_591 : decode cL_law 591 = .ok (.iadd, 1) := by decide +kernel
theorem dL_law_592 : decode cL_law 592 = .ok (.iaload, 1) := by decide +kernel
theorem dL_law_593 : decode cL_law 593 = .ok (.invokevirtual 77, 3) := by decide +kernel
theorem dL_law_596 : decode cL_law 596 = .ok (.if_icmp .eq 578, 3) := by decide +kernel
theorem dL_law_599 : decode cL_law 599 = .ok (.iconst 0, 1) := by decide +kernel
theorem dL_law_600 : decode cL_law 600 = .ok (.ireturn, 1) := by decide +kernel
theorem dL_law_601 : decode cL_law 601 = .ok (.aload_n 1, 1) := by decide +kernel
theorem dL_law_602 : decode cL_law 602 = .ok (.aload_n 0, 1) := by decide +kernel
theorem dL_law_603 : decode cL_law 603 = .ok (.iload_n 3, 1) := by decide +kernel
theorem dL_law_604 : decode cL_law 604 = .ok (.iconst 1, 1) := by decide +kernel
theorem dL_law_605 : decode cL_law 605 = .ok (.iadd, 1) := by decide +kernel
theorem dL_law_606 : decode cL_law 606 = .ok (.iaload, 1) := by decide +kernel
theorem dL_law_607 : decode cL_law 607 = .ok (.aload_n 0, 1) := by decide +kernel
theorem dL_law_608 : decode cL_law 608 = .ok (.iload_n 3, 1) := by decide +kernel
theorem dL_law_609 : decode cL_law 609 = .ok (.iconst 2, 1) := by decide +kernel
theorem dL_law_610 : decode cL_law 610 = .ok (.iadd, 1) := by decide +kernel
theorem dL_law_611 : decode cL_law 611 = .ok (.iaload, 1) := by decide +kernel
theorem dL_law_612 : decode cL_law 612 = .ok (.invokevirtual 78, 3) := by decide +kernel
theorem dL_law_615 : decode cL_law 615 = .ok (.aload_n 2, 1) := by decide +kernel
theorem dL_law_616 : decode cL_law 616 = .ok (.aload_n 0, 1) := by decide +kernel
theorem dL_law_617 : decode cL_law 617 = .ok (.iload_n 3, 1) := by decide +kernel
theorem dL_law_618 : decode cL_law 618 = .ok (.iconst 1, 1) := by decide +kernel
theorem dL_law_619 : decode cL_law 619 = .ok (.iadd, 1) := by decide +kernel
theorem dL_law_620 : decode cL_law 620 = .ok (.iaload, 1) := by decide +kernel
theorem dL_law_621 : decode cL_law 621 = .ok (.aload_n 0, 1) := by decide +kernel
theorem dL_law_622 : decode cL_law 622 = .ok (.iload_n 3, 1) := by decide +kernel
theorem dL_law_623 : decode cL_law 623 = .ok (.iconst 2, 1) := by decide +kernel
theorem dL_law_624 : decode cL_law 624 = .ok (.iadd, 1) := by decide +kernel
theorem dL_law_625 : decode cL_law 625 = .ok (.iaload, 1) := by decide +kernel
theorem dL_law_626 : decode cL_law 626 = .ok (.invokevirtual 81, 3) := by decide +kernel
theorem dL_law_629 : decode cL_law 629 = .ok (.if_icmp .eq 545, 3) := by decide +kernel
theorem dL_law_632 : decode cL_law 632 = .ok (.iconst 0, 1) := by decide +kernel
theorem dL_law_633 : decode cL_law 633 = .ok (.ireturn, 1) := by decide +kernel
theorem dL_law_634 : decode cL_law 634 = .ok (.aload_n 1, 1) := by decide +kernel
theorem dL_law_635 : decode cL_law 635 = .ok (.aload_n 0, 1) := by decide +kernel
theorem dL_law_636 : decode cL_law 636 = .ok (.iload_n 3, 1) := by decide +kernel
theorem dL_law_637 : decode cL_law 637 = .ok (.iconst 1, 1) := by decide +kernel
theorem dL_law_638 : decode cL_law 638 = .ok (.iadd, 1) := by decide +kernel
theorem dL_law_639 : decode cL_law 639 = .ok (.iaload, 1) := by decide +kernel
theorem dL_law_640 : decode cL_law 640 = .ok (.aload_n 0, 1) := by decide +kernel
theorem dL_law_641 : decode cL_law 641 = .ok (.iload_n 3, 1) := by decide +kernel
theorem dL_law_642 : decode cL_law 642 = .ok (.iconst 2, 1) := by decide +kernel
theorem dL_law_643 : decode cL_law 643 = .ok (.iadd, 1) := by decide +kernel
theorem dL_law_644 : decode cL_law 644 = .ok (.iaload, 1) := by decide +kernel
theorem dL_law_645 : decode cL_law 645 = .ok (.invokevirtual 82, 3) := by decide +kernel
theorem dL_law_648 : decode cL_law 648 = .ok (.aload_n 2, 1) := by decide +kernel
theorem dL_law_649 : decode cL_law 649 = .ok (.aload_n 0, 1) := by decide +kernel
theorem dL_law_650 : decode cL_law 650 = .ok (.iload_n 3, 1) := by decide +kernel
theorem dL_law_651 : decode cL_law 651 = .ok (.iconst 1, 1) := by decide +kernel
theorem dL_law_652 : decode cL_law 652 = .ok (.iadd, 1) := by decide +kernel
theorem dL_law_653 : decode cL_law 653 = .ok (.iaload, 1) := by decide +kernel
theorem dL_law_654 : decode cL_law 654 = .ok (.aload_n 0, 1) := by decide +kernel
theorem dL_law_655 : decode cL_law 655 = .ok (.iload_n 3, 1) := by decide +kernel
theorem dL_law_656 : decode cL_law 656 = .ok (.iconst 2, 1) := by decide +kernel
theorem dL_law_657 : decode cL_law 657 = .ok (.iadd, 1) := by decide +kernel
theorem dL_law_658 : decode cL_law 658 = .ok (.iaload, 1) := by decide +kernel
theorem dL_law_659 : decode cL_law 659 = .ok (.invokevirtual 85, 3) := by decide +kernel
theorem dL_law_662 : decode cL_law 662 = .ok (.if_icmp .eq 512, 3) := by decide +kernel
theorem dL_law_665 : decode cL_law 665 = .ok (.iconst 0, 1) := by decide +kernel
theorem dL_law_666 : decode cL_law 666 = .ok (.ireturn, 1) := by decide +kernel
theorem dL_law_667 : decode cL_law 667 = .ok (.aload_n 1, 1) := by decide +kernel
theorem dL_law_668 : decode cL_law 668 = .ok (.aload_n 0, 1) := by decide +kernel
theorem dL_law_669 : decode cL_law 669 = .ok (.iload_n 3, 1) := by decide +kernel
theorem dL_law_670 : decode cL_law 670 = .ok (.iconst 1, 1) := by decide +kernel
theorem dL_law_671 : decode cL_law 671 = .ok (.iadd, 1) := by decide +kernel
theorem dL_law_672 : decode cL_law 672 = .ok (.iaload, 1) := by decide +kernel
theorem dL_law_673 : decode cL_law 673 = .ok (.aload_n 0, 1) := by decide +kernel
theorem dL_law_674 : decode cL_law 674 = .ok (.iload_n 3, 1) := by decide +kernel
theorem dL_law_675 : decode cL_law 675 = .ok (.iconst 2, 1) := by decide +kernel
theorem dL_law_676 : decode cL_law 676 = .ok (.iadd, 1) := by decide +kernel
theorem dL_law_677 : decode cL_law 677 = .ok (.iaload, 1) := by decide +kernel
theorem dL_law_678 : decode cL_law 678 = .ok (.invokevirtual 86, 3) := by decide +kernel
theorem dL_law_681 : decode cL_law 681 = .ok (.aload_n 2, 1) := by decide +kernel
theorem dL_law_682 : decode cL_law 682 = .ok (.aload_n 0, 1) := by decide +kernel
theorem dL_law_683 : decode cL_law 683 = .ok (.iload_n 3, 1) := by decide +kernel
theorem dL_law_684 : decode cL_law 684 = .ok (.iconst 1, 1) := by decide +kernel
theorem dL_law_685 : decode cL_law 685 = .ok (.iadd, 1) := by decide +kernel
theorem dL_law_686 : decode cL_law 686 = .ok (.iaload, 1) := by decide +kernel
theorem dL_law_687 : decode cL_law 687 = .ok (.aload_n 0, 1) := by decide +kernel
theorem dL_law_688 : decode cL_law 688 = .ok (.iload_n 3, 1) := by decide +kernel
theorem dL_law_689 : decode cL_law 689 = .ok (.iconst 2, 1) := by decide +kernel
theorem dL_law_690 : decode cL_law 690 = .ok (.iadd, 1) := by decide +kernel
theorem dL_law_691 : decode cL_law 691 = .ok (.iaload, 1) := by decide +kernel
theorem dL_law_692 : decode cL_law 692 = .ok (.invokevirtual 89, 3) := by decide +kernel
theorem dL_law_695 : decode cL_law 695 = .ok (.if_icmp .eq 479, 3) := by decide +kernel
theorem dL_law_698 : decode cL_law 698 = .ok (.iconst 0, 1) := by decide +kernel
theorem dL_law_699 : decode cL_law 699 = .ok (.ireturn, 1) := by decide +kernel
theorem dL_law_700 : decode cL_law 700 = .ok (.aload_n 1, 1) := by decide +kernel
theorem dL_law_701 : decode cL_law 701 = .ok (.invokevirtual 90, 3) := by decide +kernel
theorem dL_law_704 : decode cL_law 704 = .ok (.aload_n 2, 1) := by decide +kernel
theorem dL_law_705 : decode cL_law 705 = .ok (.invokevirtual 93, 3) := by decide +kernel
theorem dL_law_708 : decode cL_law 708 = .ok (.if_icmp .eq 466, 3) := by decide +kernel
theorem dL_law_711 : decode cL_law 711 = .ok (.iconst 0, 1) := by decide +kernel
theorem dL_law_712 : decode cL_law 712 = .ok (.ireturn, 1) := by decide +kernel
theorem dL_law_713 : decode cL_law 713 = .ok (.aload_n 1, 1) := by decide +kernel
theorem dL_law_714 : decode cL_law 714 = .ok (.aload_n 0, 1) := by decide +kernel
theorem dL_law_715 : decode cL_law 715 = .ok (.iload_n 3, 1) := by decide +kernel
theorem dL_law_716 : decode cL_law 716 = .ok (.iconst 1, 1) := by decide +kernel
theorem dL_law_717 : decode cL_law 717 = .ok (.iadd, 1) := by decide +kernel
theorem dL_law_718 : decode cL_law 718 = .ok (.iaload, 1) := by decide +kernel
theorem dL_law_719 : decode cL_law 719 = .ok (.invokevirtual 94, 3) := by decide +kernel
theorem dL_law_722 : decode cL_law 722 = .ok (.aload_n 2, 1) := by decide +kernel
theorem dL_law_723 : decode cL_law 723 = .ok (.aload_n 0, 1) := by decide +kernel
theorem dL_law_724 : decode cL_law 724 = .ok (.iload_n 3, 1) := by decide +kernel
theorem dL_law_725 : decode cL_law 725 = .ok (.iconst 1, 1) := by decide +kernel
theorem dL_law_726 : decode cL_law 726 = .ok (.iadd, 1) := by decide +kernel
theorem dL_law_727 : decode cL_law 727 = .ok (.iaload, 1) := by decide +kernel
theorem dL_law_728 : decode cL_law 728 = .ok (.invokevirtual 97, 3) := by decide +kernel
theorem dL_law_731 : decode cL_law 731 = .ok (.if_icmp .eq 443, 3) := by decide +kernel
theorem dL_law_734 : decode cL_law 734 = .ok (.iconst 0, 1) := by decide +kernel
theorem dL_law_735 : decode cL_law 735 = .ok (.ireturn, 1) := by decide +kernel
theorem dL_law_736 : decode cL_law 736 = .ok (.aload_n 1, 1) := by decide +kernel
theorem dL_law_737 : decode cL_law 737 = .ok (.aload_n 0, 1) := by decide +kernel
theorem dL_law_738 : decode cL_law 738 = .ok (.iload_n 3, 1) := by decide +kernel
theorem dL_law_739 : decode cL_law 739 = .ok (.iconst 1, 1) := by decide +kernel
theorem dL_law_740 : decode cL_law 740 = .ok (.iadd, 1) := by decide +kernel
theorem dL_law_741 : decode cL_law 741 = .ok (.iaload, 1) := by decide +kernel
theorem dL_law_742 : decode cL_law 742 = .ok (.invokevirtual 98, 3) := by decide +kernel
theorem dL_law_745 : decode cL_law 745 = .ok (.aload_n 2, 1) := by decide +kernel
theorem dL_law_746 : decode cL_law 746 = .ok (.aload_n 0, 1) := by decide +kernel
theorem dL_law_747 : decode cL_law 747 = .ok (.iload_n 3, 1) := by decide +kernel
theorem dL_law_748 : decode cL_law 748 = .ok (.iconst 1, 1) := by decide +kernel
theorem dL_law_749 : decode cL_law 749 = .ok (.iadd, 1) := by decide +kernel
theorem dL_law_750 : decode cL_law 750 = .ok (.iaload, 1) := by decide +kernel
theorem dL_law_751 : decode cL_law 751 = .ok (.invokevirtual 101, 3) := by decide +kernel
theorem dL_law_754 : decode cL_law 754 = .ok (.if_icmp .eq 420, 3) := by decide +kernel
theorem dL_law_757 : decode cL_law 757 = .ok (.iconst 0, 1) := by decide +kernel
theorem dL_law_758 : decode cL_law 758 = .ok (.ireturn, 1) := by decide +kernel
theorem dL_law_759 : decode cL_law 759 = .ok (.aload_n 1, 1) := by decide +kernel
theorem dL_law_760 : decode cL_law 760 = .ok (.aload_n 0, 1) := by decide +kernel
theorem dL_law_761 : decode cL_law 761 = .ok (.iload_n 3, 1) := by decide +kernel
theorem dL_law_762 : decode cL_law 762 = .ok (.iconst 1, 1) := by decide +kernel
theorem dL_law_763 : decode cL_law 763 = .ok (.iadd, 1) := by decide +kernel
theorem dL_law_764 : decode cL_law 764 = .ok (.iaload, 1) := by decide +kernel
theorem dL_law_765 : decode cL_law 765 = .ok (.invokevirtual 102, 3) := by decide +kernel
theorem dL_law_768 : decode cL_law 768 = .ok (.aload_n 2, 1) := by decide +kernel
theorem dL_law_769 : decode cL_law 769 = .ok (.aload_n 0, 1) := by decide +kernel
theorem dL_law_770 : decode cL_law 770 = .ok (.iload_n 3, 1) := by decide +kernel
theorem dL_law_771 : decode cL_law 771 = .ok (.iconst 1, 1) := by decide +kernel
theorem dL_law_772 : decode cL_law 772 = .ok (.iadd, 1) := by decide +kernel
theorem dL_law_773 : decode cL_law 773 = .ok (.iaload, 1) := by decide +kernel
theorem dL_law_774 : decode cL_law 774 = .ok (.invokevirtual 105, 3) := by decide +kernel
theorem dL_law_777 : decode cL_law 777 = .ok (.if_icmp .eq 397, 3) := by decide +kernel
theorem dL_law_780 : decode cL_law 780 = .ok (.iconst 0, 1) := by decide +kernel
theorem dL_law_781 : decode cL_law 781 = .ok (.ireturn, 1) := by decide +kernel
theorem dL_law_782 : decode cL_law 782 = .ok (.aload_n 1, 1) := by decide +kernel
theorem dL_law_783 : decode cL_law 783 = .ok (.aload_n 0, 1) := by decide +kernel
theorem dL_law_784 : decode cL_law 784 = .ok (.iload_n 3, 1) := by decide +kernel
theorem dL_law_785 : decode cL_law 785 = .ok (.iconst 1, 1) := by decide +kernel
theorem dL_law_786 : decode cL_law 786 = .ok (.iadd, 1) := by decide +kernel
theorem dL_law_787 : decode cL_law 787 = .ok (.iaload, 1) := by decide +kernel
theorem dL_law_788 : decode cL_law 788 = .ok (.aload_n 0, 1) := by decide +kernel
theorem dL_law_789 : decode cL_law 789 = .ok (.iload_n 3, 1) := by decide +kernel
theorem dL_law_790 : decode cL_law 790 = .ok (.iconst 2, 1) := by decide +kernel
theorem dL_law_791 : decode cL_law 791 = .ok (.iadd, 1) := by decide +kernel
theorem dL_law_792 : decode cL_law 792 = .ok (.iaload, 1) := by decide +kernel
theorem dL_law_793 : decode cL_law 793 = .ok (.aload_n 0, 1) := by decide +kernel
theorem dL_law_794 : decode cL_law 794 = .ok (.iload_n 3, 1) := by decide +kernel
theorem dL_law_795 : decode cL_law 795 = .ok (.iconst 3, 1) := by decide +kernel
theorem dL_law_796 : decode cL_law 796 = .ok (.iadd, 1) := by decide +kernel
theorem dL_law_797 : decode cL_law 797 = .ok (.iaload, 1) := by decide +kernel
theorem dL_law_798 : decode cL_law 798 = .ok (.invokevirtual 106, 3) := by decide +kernel
theorem dL_law_801 : decode cL_law 801 = .ok (.aload_n 2, 1) := by decide +kernel
theorem dL_law_802 : decode cL_law 802 = .ok (.aload_n 0, 1) := by decide +kernel
theorem dL_law_803 : decode cL_law 803 = .ok (.iload_n 3, 1) := by decide +kernel
theorem dL_law_804 : decode cL_law 804 = .ok (.iconst 1, 1) := by decide +kernel
theorem dL_law_805 : decode cL_law 805 = .ok (.iadd, 1) := by decide +kernel
theorem dL_law_806 : decode cL_law 806 = .ok (.iaload, 1) := by decide +kernel
theorem dL_law_807 : decode cL_law 807 = .ok (.aload_n 0, 1) := by decide +kernel
theorem dL_law_808 : decode cL_law 808 = .ok (.iload_n 3, 1) := by decide +kernel
theorem dL_law_809 : decode cL_law 809 = .ok (.iconst 2, 1) := by decide +kernel
theorem dL_law_810 : decode cL_law 810 = .ok (.iadd, 1) := by decide +kernel
theorem dL_law_811 : decode cL_law 811 = .ok (.iaload, 1) := by decide +kernel
theorem dL_law_812 : decode cL_law 812 = .ok (.aload_n 0, 1) := by decide +kernel
theorem dL_law_813 : decode cL_law 813 = .ok (.iload_n 3, 1) := by decide +kernel
theorem dL_law_814 : decode cL_law 814 = .ok (.iconst 3, 1) := by decide +kernel
theorem dL_law_815 : decode cL_law 815 = .ok (.iadd, 1) := by decide +kernel
theorem dL_law_816 : decode cL_law 816 = .ok (.iaload, 1) := by decide +kernel
theorem dL_law_817 : decode cL_law 817 = .ok (.invokevirtual 110, 3) := by decide +kernel
theorem dL_law_820 : decode cL_law 820 = .ok (.lcmp, 1) := by decide +kernel
theorem dL_law_821 : decode cL_law 821 = .ok (.ifCond .eq 353, 3) := by decide +kernel
theorem dL_law_824 : decode cL_law 824 = .ok (.iconst 0, 1) := by decide +kernel
theorem dL_law_825 : decode cL_law 825 = .ok (.ireturn, 1) := by decide +kernel
theorem dL_law_826 : decode cL_law 826 = .ok (.aload_n 1, 1) := by decide +kernel
theorem dL_law_827 : decode cL_law 827 = .ok (.aload_n 0, 1) := by decide +kernel
theorem dL_law_828 : decode cL_law 828 = .ok (.iload_n 3, 1) := by decide +kernel
theorem dL_law_829 : decode cL_law 829 = .ok (.iconst 1, 1) := by decide +kernel
theorem dL_law_830 : decode cL_law 830 = .ok (.iadd, 1) := by decide +kernel
theorem dL_law_831 : decode cL_law 831 = .ok (.iaload, 1) := by decide +kernel
theorem dL_law_832 : decode cL_law 832 = .ok (.aload_n 0, 1) := by decide +kernel
theorem dL_law_833 : decode cL_law 833 = .ok (.iload_n 3, 1) := by decide +kernel
theorem dL_law_834 : decode cL_law 834 = .ok (.iconst 2, 1) := by decide +kernel
theorem dL_law_835 : decode cL_law 835 = .ok (.iadd, 1) := by decide +kernel
theorem dL_law_836 : decode cL_law 836 = .ok (.iaload, 1) := by decide +kernel
theorem dL_law_837 : decode cL_law 837 = .ok (.aload_n 0, 1) := by decide +kernel
theorem dL_law_838 : decode cL_law 838 = .ok (.iload_n 3, 1) := by decide +kernel
theorem dL_law_839 : decode cL_law 839 = .ok (.iconst 3, 1) := by decide +kernel
theorem dL_law_840 : decode cL_law 840 = .ok (.iadd, 1) := by decide +kernel
theorem dL_law_841 : decode cL_law 841 = .ok (.iaload, 1) := by decide +kernel
theorem dL_law_842 : decode cL_law 842 = .ok (.invokevirtual 111, 3) := by decide +kernel
theorem dL_law_845 : decode cL_law 845 = .ok (.aload_n 2, 1) := by decide +kernel
theorem dL_law_846 : decode cL_law 846 = .ok (.aload_n 0, 1) := by decide +kernel
theorem dL_law_847 : decode cL_law 847 = .ok (.iload_n 3, 1) := by decide +kernel
theorem dL_law_848 : decode cL_law 848 = .ok (.iconst 1, 1) := by decide +kernel
theorem dL_law_849 : decode cL_law 849 = .ok (.iadd, 1) := by decide +kernel
theorem dL_law_850 : decode cL_law 850 = .ok (.iaload, 1) := by decide +kernel
theorem dL_law_851 : decode cL_law 851 = .ok (.aload_n 0, 1) := by decide +kernel
theorem dL_law_852 : decode cL_law 852 = .ok (.iload_n 3, 1) := by decide +kernel
theorem dL_law_853 : decode cL_law 853 = .ok (.iconst 2, 1) := by decide +kernel
theorem dL_law_854 : decode cL_law 854 = .ok (.iadd, 1) := by decide +kernel
theorem dL_law_855 : decode cL_law 855 = .ok (.iaload, 1) := by decide +kernel
theorem dL_law_856 : decode cL_law 856 = .ok (.aload_n 0, 1) := by decide +kernel
theorem dL_law_857 : decode cL_law 857 = .ok (.iload_n 3, 1) := by decide +kernel
theorem dL_law_858 : decode cL_law 858 = .ok (.iconst 3, 1) := by decide +kernel
theorem dL_law_859 : decode cL_law 859 = .ok (.iadd, 1) := by decide +kernel
theorem dL_law_860 : decode cL_law 860 = .ok (.iaload, 1) := by decide +kernel
theorem dL_law_861 : decode cL_law 861 = .ok (.invokevirtual 114, 3) := by decide +kernel
theorem dL_law_864 : decode cL_law 864 = .ok (.if_icmp .eq 310, 3) := by decide +kernel
theorem dL_law_867 : decode cL_law 867 = .ok (.iconst 0, 1) := by decide +kernel
theorem dL_law_868 : decode cL_law 868 = .ok (.ireturn, 1) := by decide +kernel
theorem dL_law_869 : decode cL_law 869 = .ok (.aload_n 1, 1) := by decide +kernel
theorem dL_law_870 : decode cL_law 870 = .ok (.aload_n 0, 1) := by decide +kernel
theorem dL_law_871 : decode cL_law 871 = .ok (.iload_n 3, 1) := by decide +kernel
theorem dL_law_872 : decode cL_law 872 = .ok (.iconst 1, 1) := by decide +kernel
theorem dL_law_873 : decode cL_law 873 = .ok (.iadd, 1) := by decide +kernel
theorem dL_law_874 : decode cL_law 874 = .ok (.iaload, 1) := by decide +kernel
theorem dL_law_875 : decode cL_law 875 = .ok (.aload_n 0, 1) := by decide +kernel
theorem dL_law_876 : decode cL_law 876 = .ok (.iload_n 3, 1) := by decide +kernel
theorem dL_law_877 : decode cL_law 877 = .ok (.iconst 2, 1) := by decide +kernel
theorem dL_law_878 : decode cL_law 878 = .ok (.iadd, 1) := by decide +kernel
theorem dL_law_879 : decode cL_law 879 = .ok (.iaload, 1) := by decide +kernel
theorem dL_law_880 : decode cL_law 880 = .ok (.aload_n 0, 1) := by decide +kernel
theorem dL_law_881 : decode cL_law 881 = .ok (.iload_n 3, 1) := by decide +kernel
theorem dL_law_882 : decode cL_law 882 = .ok (.iconst 3, 1) := by decide +kernel
theorem dL_law_883 : decode cL_law 883 = .ok (.iadd, 1) := by decide +kernel
theorem dL_law_884 : decode cL_law 884 = .ok (.iaload, 1) := by decide +kernel
theorem dL_law_885 : decode cL_law 885 = .ok (.invokevirtual 115, 3) := by decide +kernel
theorem dL_law_888 : decode cL_law 888 = .ok (.aload_n 2, 1) := by decide +kernel
theorem dL_law_889 : decode cL_law 889 = .ok (.aload_n 0, 1) := by decide +kernel
theorem dL_law_890 : decode cL_law 890 = .ok (.iload_n 3, 1) := by decide +kernel
theorem dL_law_891 : decode cL_law 891 = .ok (.iconst 1, 1) := by decide +kernel
theorem dL_law_892 : decode cL_law 892 = .ok (.iadd, 1) := by decide +kernel
theorem dL_law_893 : decode cL_law 893 = .ok (.iaload, 1) := by decide +kernel
theorem dL_law_894 : decode cL_law 894 = .ok (.aload_n 0, 1) := by decide +kernel
theorem dL_law_895 : decode cL_law 895 = .ok (.iload_n 3, 1) := by decide +kernel
theorem dL_law_896 : decode cL_law 896 = .ok (.iconst 2, 1) := by decide +kernel
theorem dL_law_897 : decode cL_law 897 = .ok (.iadd, 1) := by decide +kernel
theorem dL_law_898 : decode cL_law 898 = .ok (.iaload, 1) := by decide +kernel
theorem dL_law_899 : decode cL_law 899 = .ok (.aload_n 0, 1) := by decide +kernel
theorem dL_law_900 : decode cL_law 900 = .ok (.iload_n 3, 1) := by decide +kernel
theorem dL_law_901 : decode cL_law 901 = .ok (.iconst 3, 1) := by decide +kernel
theorem dL_law_902 : decode cL_law 902 = .ok (.iadd, 1) := by decide +kernel
theorem dL_law_903 : decode cL_law 903 = .ok (.iaload, 1) := by decide +kernel
theorem dL_law_904 : decode cL_law 904 = .ok (.invokevirtual 118, 3) := by decide +kernel
theorem dL_law_907 : decode cL_law 907 = .ok (.if_icmp .eq 267, 3) := by decide +kernel
theorem dL_law_910 : decode cL_law 910 = .ok (.iconst 0, 1) := by decide +kernel
theorem dL_law_911 : decode cL_law 911 = .ok (.ireturn, 1) := by decide +kernel
theorem dL_law_912 : decode cL_law 912 = .ok (.aload_n 1, 1) := by decide +kernel
theorem dL_law_913 : decode cL_law 913 = .ok (.aload_n 0, 1) := by decide +kernel
theorem dL_law_914 : decode cL_law 914 = .ok (.iload_n 3, 1) := by decide +kernel
theorem dL_law_915 : decode cL_law 915 = .ok (.iconst 1, 1) := by decide +kernel
theorem dL_law_916 : decode cL_law 916 = .ok (.iadd, 1) := by decide +kernel
theorem dL_law_917 : decode cL_law 917 = .ok (.iaload, 1) := by decide +kernel
theorem dL_law_918 : decode cL_law 918 = .ok (.invokevirtual 119, 3) := by decide +kernel
theorem dL_law_921 : decode cL_law 921 = .ok (.aload_n 2, 1) := by decide +kernel
theorem dL_law_922 : decode cL_law 922 = .ok (.aload_n 0, 1) := by decide +kernel
theorem dL_law_923 : decode cL_law 923 = .ok (.iload_n 3, 1) := by decide +kernel
theorem dL_law_924 : decode cL_law 924 = .ok (.iconst 1, 1) := by decide +kernel
theorem dL_law_925 : decode cL_law 925 = .ok (.iadd, 1) := by decide +kernel
theorem dL_law_926 : decode cL_law 926 = .ok (.iaload, 1) := by decide +kernel
theorem dL_law_927 : decode cL_law 927 = .ok (.invokevirtual 122, 3) := by decide +kernel
theorem dL_law_930 : decode cL_law 930 = .ok (.if_icmp .eq 244, 3) := by decide +kernel
theorem dL_law_933 : decode cL_law 933 = .ok (.iconst 0, 1) := by decide +kernel
theorem dL_law_934 : decode cL_law 934 = .ok (.ireturn, 1) := by decide +kernel
theorem dL_law_935 : decode cL_law 935 = .ok (.aload_n 1, 1) := by decide +kernel
theorem dL_law_936 : decode cL_law 936 = .ok (.aload_n 0, 1) := by decide +kernel
theorem dL_law_937 : decode cL_law 937 = .ok (.iload_n 3, 1) := by decide +kernel
theorem dL_law_938 : decode cL_law 938 = .ok (.iconst 1, 1) := by decide +kernel
theorem dL_law_939 : decode cL_law 939 = .ok (.iadd, 1) := by decide +kernel
theorem dL_law_940 : decode cL_law 940 = .ok (.iaload, 1) := by decide +kernel
theorem dL_law_941 : decode cL_law 941 = .ok (.aload_n 0, 1) := by decide +kernel
theorem dL_law_942 : decode cL_law 942 = .ok (.iload_n 3, 1) := by decide +kernel
theorem dL_law_943 : decode cL_law 943 = .ok (.iconst 2, 1) := by decide +kernel
theorem dL_law_944 : decode cL_law 944 = .ok (.iadd, 1) := by decide +kernel
theorem dL_law_945 : decode cL_law 945 = .ok (.iaload, 1) := by decide +kernel
theorem dL_law_946 : decode cL_law 946 = .ok (.aload_n 0, 1) := by decide +kernel
theorem dL_law_947 : decode cL_law 947 = .ok (.iload_n 3, 1) := by decide +kernel
theorem dL_law_948 : decode cL_law 948 = .ok (.iconst 3, 1) := by decide +kernel
theorem dL_law_949 : decode cL_law 949 = .ok (.iadd, 1) := by decide +kernel
theorem dL_law_950 : decode cL_law 950 = .ok (.iaload, 1) := by decide +kernel
theorem dL_law_951 : decode cL_law 951 = .ok (.aload_n 0, 1) := by decide +kernel
theorem dL_law_952 : decode cL_law 952 = .ok (.iload_n 3, 1) := by decide +kernel
theorem dL_law_953 : decode cL_law 953 = .ok (.iconst 4, 1) := by decide +kernel
theorem dL_law_954 : decode cL_law 954 = .ok (.iadd, 1) := by decide +kernel
theorem dL_law_955 : decode cL_law 955 = .ok (.iaload, 1) := by decide +kernel
theorem dL_law_956 : decode cL_law 956 = .ok (.invokevirtual 123, 3) := by decide +kernel
theorem dL_law_959 : decode cL_law 959 = .ok (.aload_n 2, 1) := by decide +kernel
theorem dL_law_960 : decode cL_law 960 = .ok (.aload_n 0, 1) := by decide +kernel
theorem dL_law_961 : decode cL_law 961 = .ok (.iload_n 3, 1) := by decide +kernel
theorem dL_law_962 : decode cL_law 962 = .ok (.iconst 1, 1) := by decide +kernel
theorem dL_law_963 : decode cL_law 963 = .ok (.iadd, 1) := by decide +kernel
theorem dL_law_964 : decode cL_law 964 = .ok (.iaload, 1) := by decide +kernel
theorem dL_law_965 : decode cL_law 965 = .ok (.aload_n 0, 1) := by decide +kernel
theorem dL_law_966 : decode cL_law 966 = .ok (.iload_n 3, 1) := by decide +kernel
theorem dL_law_967 : decode cL_law 967 = .ok (.iconst 2, 1) := by decide +kernel
theorem dL_law_968 : decode cL_law 968 = .ok (.iadd, 1) := by decide +kernel
theorem dL_law_969 : decode cL_law 969 = .ok (.iaload, 1) := by decide +kernel
theorem dL_law_970 : decode cL_law 970 = .ok (.aload_n 0, 1) := by decide +kernel
theorem dL_law_971 : decode cL_law 971 = .ok (.iload_n 3, 1) := by decide +kernel
theorem dL_law_972 : decode cL_law 972 = .ok (.iconst 3, 1) := by decide +kernel
theorem dL_law_973 : decode cL_law 973 = .ok (.iadd, 1) := by decide +kernel
theorem dL_law_974 : decode cL_law 974 = .ok (.iaload, 1) := by decide +kernel
theorem dL_law_975 : decode cL_law 975 = .ok (.aload_n 0, 1) := by decide +kernel
theorem dL_law_976 : decode cL_law 976 = .ok (.iload_n 3, 1) := by decide +kernel
theorem dL_law_977 : decode cL_law 977 = .ok (.iconst 4, 1) := by decide +kernel
theorem dL_law_978 : decode cL_law 978 = .ok (.iadd, 1) := by decide +kernel
theorem dL_law_979 : decode cL_law 979 = .ok (.iaload, 1) := by decide +kernel
theorem dL_law_980 : decode cL_law 980 = .ok (.invokevirtual 126, 3) := by decide +kernel
theorem dL_law_983 : decode cL_law 983 = .ok (.if_icmp .eq 191, 3) := by decide +kernel
theorem dL_law_986 : decode cL_law 986 = .ok (.iconst 0, 1) := by decide +kernel
theorem dL_law_987 : decode cL_law 987 = .ok (.ireturn, 1) := by decide +kernel
theorem dL_law_988 : decode cL_law 988 = .ok (.aload_n 1, 1) := by decide +kernel
theorem dL_law_989 : decode cL_law 989 = .ok (.aload_n 0, 1) := by decide +kernel
theorem dL_law_990 : decode cL_law 990 = .ok (.iload_n 3, 1) := by decide +kernel
theorem dL_law_991 : decode cL_law 991 = .ok (.iconst 1, 1) := by decide +kernel
theorem dL_law_992 : decode cL_law 992 = .ok (.iadd, 1) := by decide +kernel
theorem dL_law_993 : decode cL_law 993 = .ok (.iaload, 1) := by decide +kernel
theorem dL_law_994 : decode cL_law 994 = .ok (.aload_n 0, 1) := by decide +kernel
theorem dL_law_995 : decode cL_law 995 = .ok (.iload_n 3, 1) := by decide +kernel
theorem dL_law_996 : decode cL_law 996 = .ok (.iconst 2, 1) := by decide +kernel
theorem dL_law_997 : decode cL_law 997 = .ok (.iadd, 1) := by decide +kernel
theorem dL_law_998 : decode cL_law 998 = .ok (.iaload, 1) := by decide +kernel
theorem dL_law_999 : decode cL_law 999 = .ok (.aload_n 0, 1) := by decide +kernel
theorem dL_law_1000 : decode cL_law 1000 = .ok (.iload_n 3, 1) := by decide +kernel
theorem dL_law_1001 : decode cL_law 1001 = .ok (.iconst 3, 1) := by decide +kernel
theorem dL_law_1002 : decode cL_law 1002 = .ok (.iadd, 1) := by decide +kernel
theorem dL_law_1003 : decode cL_law 1003 = .ok (.iaload, 1) := by decide +kernel
theorem dL_law_1004 : decode cL_law 1004 = .ok (.invokevirtual 127, 3) := by decide +kernel
theorem dL_law_1007 : decode cL_law 1007 = .ok (.aload_n 2, 1) := by decide +kernel
theorem dL_law_1008 : decode cL_law 1008 = .ok (.aload_n 0, 1) := by decide +kernel
theorem dL_law_1009 : decode cL_law 1009 = .ok (.iload_n 3, 1) := by decide +kernel
theorem dL_law_1010 : decode cL_law 1010 = .ok (.iconst 1, 1) := by decide +kernel
theorem dL_law_1011 : decode cL_law 1011 = .ok (.iadd, 1) := by decide +kernel
theorem dL_law_1012 : decode cL_law 1012 = .ok (.iaload, 1) := by decide +kernel
theorem dL_law_1013 : decode cL_law 1013 = .ok (.aload_n 0, 1) := by decide +kernel
theorem dL_law_1014 : decode cL_law 1014 = .ok (.iload_n 3, 1) := by decide +kernel
theorem dL_law_1015 : decode cL_law 1015 = .ok (.iconst 2, 1) := by decide +kernel
theorem dL_law_1016 : decode cL_law 1016 = .ok (.iadd, 1) := by decide +kernel
