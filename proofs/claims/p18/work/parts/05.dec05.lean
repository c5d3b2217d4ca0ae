theorem dX11_agreesWithSeen_142 : decode cX11_agreesWithSeen 142 = .ok (.iaload, 1) := by decide +kernel
theorem dX11_agreesWithSeen_143 : decode cX11_agreesWithSeen 143 = .ok (.if_icmp .eq 5, 3) := by decide +kernel
theorem dX11_agreesWithSeen_146 : decode cX11_agreesWithSeen 146 = .ok (.iconst 0, 1) := by decide +kernel
theorem dX11_agreesWithSeen_147 : decode cX11_agreesWithSeen 147 = .ok (.ireturn, 1) := by decide +kernel
theorem dX11_agreesWithSeen_148 : decode cX11_agreesWithSeen 148 = .ok (.iinc 5 1, 3) := by decide +kernel
theorem dX11_agreesWithSeen_151 : decode cX11_agreesWithSeen 151 = .ok (.goto (-137), 3) := by decide +kernel
theorem dX11_agreesWithSeen_154 : decode cX11_agreesWithSeen 154 = .ok (.iconst 1, 1) := by decide +kernel
theorem dX11_agreesWithSeen_155 : decode cX11_agreesWithSeen 155 = .ok (.ireturn, 1) := by decide +kernel
theorem dX11_mostAlike_0 : decode cX11_mostAlike 0 = .ok (.aload_n 0, 1) := by decide +kernel
theorem dX11_mostAlike_1 : decode cX11_mostAlike 1 = .ok (.iload_n 1, 1) := by decide +kernel
theorem dX11_mostAlike_2 : decode cX11_mostAlike 2 = .ok (.invokevirtual 150, 3) := by decide +kernel
theorem dX11_mostAlike_5 : decode cX11_mostAlike 5 = .ok (.iconst 0, 1) := by decide +kernel
theorem dX11_mostAlike_6 : decode cX11_mostAlike 6 = .ok (.istore 4, 2) := by decide +kernel
theorem dX11_mostAlike_8 : decode cX11_mostAlike 8 = .ok (.iload 4, 2) := by decide +kernel
theorem dX11_mostAlike_10 : decode cX11_mostAlike 10 = .ok (.aload_n 0, 1) := by decide +kernel
theorem dX11_mostAlike_11 : decode cX11_mostAlike 11 = .ok (.getfield 74, 3) := by decide +kernel
theorem dX11_mostAlike_14 : decode cX11_mostAlike 14 = .ok (.arraylength, 1) := by decide +kernel
theorem dX11_mostAlike_15 : decode cX11_mostAlike 15 = .ok (.if_icmp .ge 17, 3) := by decide +kernel
theorem dX11_mostAlike_18 : decode cX11_mostAlike 18 = .ok (.aload_n 0, 1) := by decide +kernel
theorem dX11_mostAlike_19 : decode cX11_mostAlike 19 = .ok (.getfield 74, 3) := by decide +kernel
theorem dX11_mostAlike_22 : decode cX11_mostAlike 22 = .ok (.iload 4, 2) := by decide +kernel
theorem dX11_mostAlike_24 : decode cX11_mostAlike 24 = .ok (.iconst 0, 1) := by decide +kernel
theorem dX11_mostAlike_25 : decode cX11_mostAlike 25 = .ok (.iastore, 1) := by decide +kernel
theorem dX11_mostAlike_26 : decode cX11_mostAlike 26 = .ok (.iinc 4 1, 3) := by decide +kernel
theorem dX11_mostAlike_29 : decode cX11_mostAlike 29 = .ok (.goto (-21), 3) := by decide +kernel
theorem dX11_mostAlike_32 : decode cX11_mostAlike 32 = .ok (.iconst 0, 1) := by decide +kernel
theorem dX11_mostAlike_33 : decode cX11_mostAlike 33 = .ok (.istore 4, 2) := by decide +kernel
theorem dX11_mostAlike_35 : decode cX11_mostAlike 35 = .ok (.iconst 0, 1) := by decide +kernel
theorem dX11_mostAlike_36 : decode cX11_mostAlike 36 = .ok (.istore 5, 2) := by decide +kernel
theorem dX11_mostAlike_38 : decode cX11_mostAlike 38 = .ok (.iload 5, 2) := by decide +kernel
theorem dX11_mostAlike_40 : decode cX11_mostAlike 40 = .ok (.bipush 6, 2) := by decide +kernel
theorem dX11_mostAlike_42 : decode cX11_mostAlike 42 = .ok (.if_icmp .ge 97, 3) := by decide +kernel
theorem dX11_mostAlike_45 : decode cX11_mostAlike 45 = .ok (.iload_n 3, 1) := by decide +kernel
theorem dX11_mostAlike_46 : decode cX11_mostAlike 46 = .ok (.iload 5, 2) := by decide +kernel
theorem dX11_mostAlike_48 : decode cX11_mostAlike 48 = .ok (.ishr, 1) := by decide +kernel
theorem dX11_mostAlike_49 : decode cX11_mostAlike 49 = .ok (.iconst 1, 1) := by decide +kernel
theorem dX11_mostAlike_50 : decode cX11_mostAlike 50 = .ok (.iand, 1) := by decide +kernel
theorem dX11_mostAlike_51 : decode cX11_mostAlike 51 = .ok (.iconst 1, 1) := by decide +kernel
theorem dX11_mostAlike_52 : decode cX11_mostAlike 52 = .ok (.if_icmp .ne 81, 3) := by decide +kernel
theorem dX11_mostAlike_55 : decode cX11_mostAlike 55 = .ok (.aload_n 0, 1) := by decide +kernel
theorem dX11_mostAlike_56 : decode cX11_mostAlike 56 = .ok (.getfield 33, 3) := by decide +kernel
theorem dX11_mostAlike_59 : decode cX11_mostAlike 59 = .ok (.iload_n 1, 1) := by decide +kernel
theorem dX11_mostAlike_60 : decode cX11_mostAlike 60 = .ok (.invokevirtual 186, 3) := by decide +kernel
theorem dX11_mostAlike_63 : decode cX11_mostAlike 63 = .ok (.iload_n 2, 1) := by decide +kernel
theorem dX11_mostAlike_64 : decode cX11_mostAlike 64 = .ok (.if_icmp .ne 12, 3) := by decide +kernel
theorem dX11_mostAlike_67 : decode cX11_mostAlike 67 = .ok (.aload_n 0, 1) := by decide +kernel
theorem dX11_mostAlike_68 : decode cX11_mostAlike 68 = .ok (.getfield 42, 3) := by decide +kernel
theorem dX11_mostAlike_71 : decode cX11_mostAlike 71 = .ok (.iload 5, 2) := by decide +kernel
theorem dX11_mostAlike_73 : decode cX11_mostAlike 73 = .ok (.putfield 363, 3) := by decide +kernel
theorem dX11_mostAlike_76 : decode cX11_mostAlike 76 = .ok (.aload_n 0, 1) := by decide +kernel
theorem dX11_mostAlike_77 : decode cX11_mostAlike 77 = .ok (.getfield 42, 3) := by decide +kernel
theorem dX11_mostAlike_80 : decode cX11_mostAlike 80 = .ok (.aload_n 0, 1) := by decide +kernel
theorem dX11_mostAlike_81 : decode cX11_mostAlike 81 = .ok (.getfield 33, 3) := by decide +kernel
theorem dX11_mostAlike_84 : decode cX11_mostAlike 84 = .ok (.iload_n 1, 1) := by decide +kernel
theorem dX11_mostAlike_85 : decode cX11_mostAlike 85 = .ok (.invokevirtual 153, 3) := by decide +kernel
theorem dX11_mostAlike_88 : decode cX11_mostAlike 88 = .ok (.invokevirtual 156, 3) := by decide +kernel
theorem dX11_mostAlike_91 : decode cX11_mostAlike 91 = .ok (.istore 6, 2) := by decide +kernel
theorem dX11_mostAlike_93 : decode cX11_mostAlike 93 = .ok (.iload 6, 2) := by decide +kernel
theorem dX11_mostAlike_95 : decode cX11_mostAlike 95 = .ok (.ifCond .lt 38, 3) := by decide +kernel
theorem dX11_mostAlike_98 : decode cX11_mostAlike 98 = .ok (.iload 6, 2) := by decide +kernel
theorem dX11_mostAlike_100 : decode cX11_mostAlike 100 = .ok (.aload_n 0, 1) := by decide +kernel
theorem dX11_mostAlike_101 : decode cX11_mostAlike 101 = .ok (.getfield 74, 3) := by decide +kernel
theorem dX11_mostAlike_104 : decode cX11_mostAlike 104 = .ok (.arraylength, 1) := by decide +kernel
theorem dX11_mostAlike_105 : decode cX11_mostAlike 105 = .ok (.if_icmp .ge 28, 3) := by decide +kernel
theorem dX11_mostAlike_108 : decode cX11_mostAlike 108 = .ok (.aload_n 0, 1) := by decide +kernel
theorem dX11_mostAlike_109 : decode cX11_mostAlike 109 = .ok (.getfield 74, 3) := by decide +kernel
theorem dX11_mostAlike_112 : decode cX11_mostAlike 112 = .ok (.iload 6, 2) := by decide +kernel
theorem dX11_mostAlike_114 : decode cX11_mostAlike 114 = .ok (.dup2, 1) := by decide +kernel
theorem dX11_mostAlike_115 : decode cX11_mostAlike 115 = .ok (.iaload, 1) := by decide +kernel
theorem dX11_mostAlike_116 : decode cX11_mostAlike 116 = .ok (.iconst 1, 1) := by decide +kernel
theorem dX11_mostAlike_117 : decode cX11_mostAlike 117 = .ok (.iadd, 1) := by decide +kernel
theorem dX11_mostAlike_118 : decode cX11_mostAlike 118 = .ok (.iastore, 1) := by decide +kernel
theorem dX11_mostAlike_119 : decode cX11_mostAlike 119 = .ok (.iload 4, 2) := by decide +kernel
theorem dX11_mostAlike_121 : decode cX11_mostAlike 121 = .ok (.aload_n 0, 1) := by decide +kernel
theorem dX11_mostAlike_122 : decode cX11_mostAlike 122 = .ok (.getfield 74, 3) := by decide +kernel
theorem dX11_mostAlike_125 : decode cX11_mostAlike 125 = .ok (.iload 6, 2) := by decide +kernel
theorem dX11_mostAlike_127 : decode cX11_mostAlike 127 = .ok (.iaload, 1) := by decide +kernel
theorem dX11_mostAlike_128 : decode cX11_mostAlike 128 = .ok (.invokestatic 366, 3) := by decide +kernel
theorem dX11_mostAlike_131 : decode cX11_mostAlike 131 = .ok (.istore 4, 2) := by decide +kernel
theorem dX11_mostAlike_133 : decode cX11_mostAlike 133 = .ok (.iinc 5 1, 3) := by decide +kernel
theorem dX11_mostAlike_136 : decode cX11_mostAlike 136 = .ok (.goto (-98), 3) := by decide +kernel
theorem dX11_mostAlike_139 : decode cX11_mostAlike 139 = .ok (.iload 4, 2) := by decide +kernel
theorem dX11_mostAlike_141 : decode cX11_mostAlike 141 = .ok (.ireturn, 1) := by decide +kernel
theorem dX12_init_0 : decode cX12_init 0 = .ok (.aload_n 0, 1) := by decide +kernel
theorem dX12_init_1 : decode cX12_init 1 = .ok (.invokespecial 1, 3) := by decide +kernel
theorem dX12_init_4 : decode cX12_init 4 = .ok (.aload_n 0, 1) := by decide +kernel
theorem dX12_init_5 : decode cX12_init 5 = .ok (.iconst 4, 1) := by decide +kernel
theorem dX12_init_6 : decode cX12_init 6 = .ok (.newarray .int, 2) := by decide +kernel
theorem dX12_init_8 : decode cX12_init 8 = .ok (.putfield 7, 3) := by decide +kernel
theorem dX12_init_11 : decode cX12_init 11 = .ok (.aload_n 0, 1) := by decide +kernel
theorem dX12_init_12 : decode cX12_init 12 = .ok (.iconst 4, 1) := by decide +kernel
theorem dX12_init_13 : decode cX12_init 13 = .ok (.newarray .int, 2) := by decide +kernel
theorem dX12_init_15 : decode cX12_init 15 = .ok (.putfield 13, 3) := by decide +kernel
theorem dX12_init_18 : decode cX12_init 18 = .ok (.aload_n 0, 1) := by decide +kernel
theorem dX12_init_19 : decode cX12_init 19 = .ok (.sipush 240, 3) := by decide +kernel
theorem dX12_init_22 : decode cX12_init 22 = .ok (.newarray .int, 2) := by decide +kernel
theorem dX12_init_24 : decode cX12_init 24 = .ok (.putfield 16, 3) := by decide +kernel
theorem dX12_init_27 : decode cX12_init 27 = .ok (.aload_n 0, 1) := by decide +kernel
theorem dX12_init_28 : decode cX12_init 28 = .ok (.bipush 60, 2) := by decide +kernel
theorem dX12_init_30 : decode cX12_init 30 = .ok (.newarray .int, 2) := by decide +kernel
theorem dX12_init_32 : decode cX12_init 32 = .ok (.putfield 19, 3) := by decide +kernel
theorem dX12_init_35 : decode cX12_init 35 = .ok (.aload_n 0, 1) := by decide +kernel
theorem dX12_init_36 : decode cX12_init 36 = .ok (.bipush 120, 2) := by decide +kernel
theorem dX12_init_38 : decode cX12_init 38 = .ok (.newarray .int, 2) := by decide +kernel
theorem dX12_init_40 : decode cX12_init 40 = .ok (.putfield 22, 3) := by decide +kernel
theorem dX12_init_43 : decode cX12_init 43 = .ok (.aload_n 0, 1) := by decide +kernel
theorem dX12_init_44 : decode cX12_init 44 = .ok (.iconst 3, 1) := by decide +kernel
theorem dX12_init_45 : decode cX12_init 45 = .ok (.newarray .int, 2) := by decide +kernel
theorem dX12_init_47 : decode cX12_init 47 = .ok (.putfield 25, 3) := by decide +kernel
theorem dX12_init_50 : decode cX12_init 50 = .ok (.aload_n 0, 1) := by decide +kernel
theorem dX12_init_51 : decode cX12_init 51 = .ok (.bipush 24, 2) := by decide +kernel
theorem dX12_init_53 : decode cX12_init 53 = .ok (.newarray .int, 2) := by decide +kernel
theorem dX12_init_55 : decode cX12_init 55 = .ok (.putfield 28, 3) := by decide +kernel
theorem dX12_init_58 : decode cX12_init 58 = .ok (.aload_n 0, 1) := by decide +kernel
theorem dX12_init_59 : decode cX12_init 59 = .ok (.bipush 32, 2) := by decide +kernel
theorem dX12_init_61 : decode cX12_init 61 = .ok (.newarray .int, 2) := by decide +kernel
theorem dX12_init_63 : decode cX12_init 63 = .ok (.putfield 31, 3) := by decide +kernel
theorem dX12_init_66 : decode cX12_init 66 = .ok (.aload_n 0, 1) := by decide +kernel
theorem dX12_init_67 : decode cX12_init 67 = .ok (.bipush 16, 2) := by decide +kernel
theorem dX12_init_69 : decode cX12_init 69 = .ok (.newarray .int, 2) := by decide +kernel
theorem dX12_init_71 : decode cX12_init 71 = .ok (.putfield 34, 3) := by decide +kernel
theorem dX12_init_74 : decode cX12_init 74 = .ok (.aload_n 0, 1) := by decide +kernel
theorem dX12_init_75 : decode cX12_init 75 = .ok (.bipush 32, 2) := by decide +kernel
theorem dX12_init_77 : decode cX12_init 77 = .ok (.newarray .int, 2) := by decide +kernel
theorem dX12_init_79 : decode cX12_init 79 = .ok (.putfield 37, 3) := by decide +kernel
theorem dX12_init_82 : decode cX12_init 82 = .ok (.aload_n 0, 1) := by decide +kernel
theorem dX12_init_83 : decode cX12_init 83 = .ok (.bipush 96, 2) := by decide +kernel
theorem dX12_init_85 : decode cX12_init 85 = .ok (.newarray .int, 2) := by decide +kernel
theorem dX12_init_87 : decode cX12_init 87 = .ok (.putfield 40, 3) := by decide +kernel
theorem dX12_init_90 : decode cX12_init 90 = .ok (.aload_n 0, 1) := by decide +kernel
theorem dX12_init_91 : decode cX12_init 91 = .ok (.iconst 2, 1) := by decide +kernel
theorem dX12_init_92 : decode cX12_init 92 = .ok (.newarray .int, 2) := by decide +kernel
theorem dX12_init_94 : decode cX12_init 94 = .ok (.putfield 43, 3) := by decide +kernel
theorem dX12_init_97 : decode cX12_init 97 = .ok (.aload_n 0, 1) := by decide +kernel
theorem dX12_init_98 : decode cX12_init 98 = .ok (.iconst 2, 1) := by decide +kernel
theorem dX12_init_99 : decode cX12_init 99 = .ok (.newarray .int, 2) := by decide +kernel
theorem dX12_init_101 : decode cX12_init 101 = .ok (.putfield 46, 3) := by decide +kernel
theorem dX12_init_104 : decode cX12_init 104 = .ok (.aload_n 0, 1) := by decide +kernel
theorem dX12_init_105 : decode cX12_init 105 = .ok (.iconst 2, 1) := by decide +kernel
theorem dX12_init_106 : decode cX12_init 106 = .ok (.newarray .int, 2) := by decide +kernel
theorem dX12_init_108 : decode cX12_init 108 = .ok (.putfield 49, 3) := by decide +kernel
theorem dX12_init_111 : decode cX12_init 111 = .ok (.aload_n 0, 1) := by decide +kernel
theorem dX12_init_112 : decode cX12_init 112 = .ok (.bipush 16, 2) := by decide +kernel
theorem dX12_init_114 : decode cX12_init 114 = .ok (.newarray .int, 2) := by decide +kernel
theorem dX12_init_116 : decode cX12_init 116 = .ok (.putfield 52, 3) := by decide +kernel
theorem dX12_init_119 : decode cX12_init 119 = .ok (.aload_n 0, 1) := by decide +kernel
theorem dX12_init_120 : decode cX12_init 120 = .ok (.bipush 25, 2) := by decide +kernel
theorem dX12_init_122 : decode cX12_init 122 = .ok (.newarray .int, 2) := by decide +kernel
theorem dX12_init_124 : decode cX12_init 124 = .ok (.putfield 55, 3) := by decide +kernel
theorem dX12_init_127 : decode cX12_init 127 = .ok (.iconst 0, 1) := by decide +kernel
theorem dX12_init_128 : decode cX12_init 128 = .ok (.istore_n 1, 1) := by decide +kernel
theorem dX12_init_129 : decode cX12_init 129 = .ok (.iload_n 1, 1) := by decide +kernel
theorem dX12_init_130 : decode cX12_init 130 = .ok (.iconst 4, 1) := by decide +kernel
theorem dX12_init_131 : decode cX12_init 131 = .ok (.if_icmp .ge 16, 3) := by decide +kernel
theorem dX12_init_134 : decode cX12_init 134 = .ok (.aload_n 0, 1) := by decide +kernel
theorem dX12_init_135 : decode cX12_init 135 = .ok (.getfield 7, 3) := by decide +kernel
theorem dX12_init_138 : decode cX12_init 138 = .ok (.iload_n 1, 1) := by decide +kernel
theorem dX12_init_139 : decode cX12_init 139 = .ok (.iconst (-1), 1) := by decide +kernel
theorem dX12_init_140 : decode cX12_init 140 = .ok (.iastore, 1) := by decide +kernel
theorem dX12_init_141 : decode cX12_init 141 = .ok (.iinc 1 1, 3) := by decide +kernel
theorem dX12_init_144 : decode cX12_init 144 = .ok (.goto (-15), 3) := by decide +kernel
theorem dX12_init_147 : decode cX12_init 147 = .ok (.aload_n 0, 1) := by decide +kernel
theorem dX12_init_148 : decode cX12_init 148 = .ok (.ldc 58, 2) := by decide +kernel
theorem dX12_init_150 : decode cX12_init 150 = .ok (.putfield 59, 3) := by decide +kernel
theorem dX12_init_153 : decode cX12_init 153 = .ok (.return_, 1) := by decide +kernel
theorem dX12_in_0 : decode cX12_in 0 = .ok (.lload_n 0, 1) := by decide +kernel
theorem dX12_in_1 : decode cX12_in 1 = .ok (.lload_n 2, 1) := by decide +kernel
theorem dX12_in_2 : decode cX12_in 2 = .ok (.lcmp, 1) := by decide +kernel
theorem dX12_in_3 : decode cX12_in 3 = .ok (.ifCond .lt 14, 3) := by decide +kernel
theorem dX12_in_6 : decode cX12_in 6 = .ok (.lload_n 0, 1) := by decide +kernel
theorem dX12_in_7 : decode cX12_in 7 = .ok (.lload 4, 2) := by decide +kernel
theorem dX12_in_9 : decode cX12_in 9 = .ok (.lcmp, 1) := by decide +kernel
theorem dX12_in_10 : decode cX12_in 10 = .ok (.ifCond .gt 7, 3) := by decide +kernel
theorem dX12_in_13 : decode cX12_in 13 = .ok (.iconst 1, 1) := by decide +kernel
theorem dX12_in_14 : decode cX12_in 14 = .ok (.goto 4, 3) := by decide +kernel
theorem dX12_in_17 : decode cX12_in 17 = .ok (.iconst 0, 1) := by decide +kernel
theorem dX12_in_18 : decode cX12_in 18 = .ok (.ireturn, 1) := by decide +kernel
theorem dX12_no_0 : decode cX12_no 0 = .ok (.ldc2_w 63, 3) := by decide +kernel
theorem dX12_no_3 : decode cX12_no 3 = .ok (.iload_n 0, 1) := by decide +kernel
theorem dX12_no_4 : decode cX12_no 4 = .ok (.i2l, 1) := by decide +kernel
theorem dX12_no_5 : decode cX12_no 5 = .ok (.lsub, 1) := by decide +kernel
theorem dX12_no_6 : decode cX12_no 6 = .ok (.lreturn, 1) := by decide +kernel
theorem dX12_isTwo_0 : decode cX12_isTwo 0 = .ok (.iload_n 0, 1) := by decide +kernel
theorem dX12_isTwo_1 : decode cX12_isTwo 1 = .ok (.i2l, 1) := by decide +kernel
theorem dX12_isTwo_2 : decode cX12_isTwo 2 = .ok (.lconst 0, 1) := by decide +kernel
theorem dX12_isTwo_3 : decode cX12_isTwo 3 = .ok (.lconst 1, 1) := by decide +kernel
theorem dX12_isTwo_4 : decode cX12_isTwo 4 = .ok (.invokestatic 65, 3) := by decide +kernel
theorem dX12_isTwo_7 : decode cX12_isTwo 7 = .ok (.ireturn, 1) := by decide +kernel
theorem dX12_isIn_0 : decode cX12_isIn 0 = .ok (.iload_n 0, 1) := by decide +kernel
theorem dX12_isIn_1 : decode cX12_isIn 1 = .ok (.iload_n 1, 1) := by decide +kernel
theorem dX12_isIn_2 : decode cX12_isIn 2 = .ok (.ishr, 1) := by decide +kernel
theorem dX12_isIn_3 : decode cX12_isIn 3 = .ok (.iconst 1, 1) := by decide +kernel
theorem dX12_isIn_4 : decode cX12_isIn 4 = .ok (.iand, 1) := by decide +kernel
theorem dX12_isIn_5 : decode cX12_isIn 5 = .ok (.iconst 1, 1) := by decide +kernel
theorem dX12_isIn_6 : decode cX12_isIn 6 = .ok (.if_icmp .ne 7, 3) := by decide +kernel
theorem dX12_isIn_9 : decode cX12_isIn 9 = .ok (.iconst 1, 1) := by decide +kernel
theorem dX12_isIn_10 : decode cX12_isIn 10 = .ok (.goto 4, 3) := by decide +kernel
theorem dX12_isIn_13 : decode cX12_isIn 13 = .ok (.iconst 0, 1) := by decide +kernel
theorem dX12_isIn_14 : decode cX12_isIn 14 = .ok (.ireturn, 1) := by decide +kernel
theorem dX12_ones_0 : decode cX12_ones 0 = .ok (.iconst 0, 1) := by decide +kernel
theorem dX12_ones_1 : decode cX12_ones 1 = .ok (.istore_n 1, 1) := by decide +kernel
theorem dX12_ones_2 : decode cX12_ones 2 = .ok (.iload_n 0, 1) := by decide +kernel
theorem dX12_ones_3 : decode cX12_ones 3 = .ok (.istore_n 2, 1) := by decide +kernel
theorem dX12_ones_4 : decode cX12_ones 4 = .ok (.iload_n 2, 1) := by decide +kernel
theorem dX12_ones_5 : decode cX12_ones 5 = .ok (.ifCond .eq 15, 3) := by decide +kernel
theorem dX12_ones_8 : decode cX12_ones 8 = .ok (.iinc 1 1, 3) := by decide +kernel
theorem dX12_ones_11 : decode cX12_ones 11 = .ok (.iload_n 2, 1) := by decide +kernel
theorem dX12_ones_12 : decode cX12_ones 12 = .ok (.iload_n 2, 1) := by decide +kernel
theorem dX12_ones_13 : decode cX12_ones 13 = .ok (.iconst 1, 1) := by decide +kernel
theorem dX12_ones_14 : decode cX12_ones 14 = .ok (.isub, 1) := by decide +kernel
theorem dX12_ones_15 : decode cX12_ones 15 = .ok (.iand, 1) := by decide +kernel
theorem dX12_ones_16 : decode cX12_ones 16 = .ok (.istore_n 2, 1) := by decide +kernel
theorem dX12_ones_17 : decode cX12_ones 17 = .ok (.goto (-13), 3) := by decide +kernel
theorem dX12_ones_20 : decode cX12_ones 20 = .ok (.iload_n 1, 1) := by decide +kernel
theorem dX12_ones_21 : decode cX12_ones 21 = .ok (.ireturn, 1) := by decide +kernel
theorem dX12_lesser_0 : decode cX12_lesser 0 = .ok (.iload_n 0, 1) := by decide +kernel
theorem dX12_lesser_1 : decode cX12_lesser 1 = .ok (.iload_n 1, 1) := by decide +kernel
theorem dX12_lesser_2 : decode cX12_lesser 2 = .ok (.if_icmp .ge 7, 3) := by decide +kernel
theorem dX12_lesser_5 : decode cX12_lesser 5 = .ok (.iload_n 0, 1) := by decide +kernel
theorem dX12_lesser_6 : decode cX12_lesser 6 = .ok (.goto 4, 3) := by decide +kernel
theorem dX12_lesser_9 : decode cX12_lesser 9 = .ok (.iload_n 1, 1) := by decide +kernel
theorem dX12_lesser_10 : decode cX12_lesser 10 = .ok (.ireturn, 1) := by decide +kernel
theorem dX12_part_0 : decode cX12_part 0 = .ok (.lload_n 0, 1) := by decide +kernel
theorem dX12_part_1 : decode cX12_part 1 = .ok (.lstore 5, 2) := by decide +kernel
theorem dX12_part_3 : decode cX12_part 3 = .ok (.lload_n 2, 1) := by decide +kernel
theorem dX12_part_4 : decode cX12_part 4 = .ok (.lstore 7, 2) := by decide +kernel
theorem dX12_part_6 : decode cX12_part 6 = .ok (.lload 7, 2) := by decide +kernel
theorem dX12_part_8 : decode cX12_part 8 = .ok (.lconst 0, 1) := by decide +kernel
theorem dX12_part_9 : decode cX12_part 9 = .ok (.lcmp, 1) := by decide +kernel
theorem dX12_part_10 : decode cX12_part 10 = .ok (.ifCond .eq 21, 3) := by decide +kernel
theorem dX12_part_13 : decode cX12_part 13 = .ok (.lload 5, 2) := by decide +kernel
theorem dX12_part_15 : decode cX12_part 15 = .ok (.lload 7, 2) := by decide +kernel
theorem dX12_part_17 : decode cX12_part 17 = .ok (.lrem, 1) := by decide +kernel
theorem dX12_part_18 : decode cX12_part 18 = .ok (.lstore 9, 2) := by decide +kernel
theorem dX12_part_20 : decode cX12_part 20 = .ok (.lload 7, 2) := by decide +kernel
theorem dX12_part_22 : decode cX12_part 22 = .ok (.lstore 5, 2) := by decide +kernel
theorem dX12_part_24 : decode cX12_part 24 = .ok (.lload 9, 2) := by decide +kernel
theorem dX12_part_26 : decode cX12_part 26 = .ok (.lstore 7, 2) := by decide +kernel
theorem dX12_part_28 : decode cX12_part 28 = .ok (.goto (-22), 3) := by decide +kernel
theorem dX12_part_31 : decode cX12_part 31 = .ok (.iload 4, 2) := by decide +kernel
theorem dX12_part_33 : decode cX12_part 33 = .ok (.ifCond .ne 7, 3) := by decide +kernel
theorem dX12_part_36 : decode cX12_part 36 = .ok (.lload_n 0, 1) := by decide +kernel
theorem dX12_part_37 : decode cX12_part 37 = .ok (.goto 4, 3) := by decide +kernel
theorem dX12_part_40 : decode cX12_part 40 = .ok (.lload_n 2, 1) := by decide +kernel
theorem dX12_part_41 : decode cX12_part 41 = .ok (.lload 5, 2) := by decide +kernel
theorem dX12_part_43 : decode cX12_part 43 = .ok (.ldiv, 1) := by decide +kernel
theorem dX12_part_44 : decode cX12_part 44 = .ok (.lreturn, 1) := by decide +kernel
theorem dX12_finds_0 : decode cX12_finds 0 = .ok (.aload_n 0, 1) := by decide +kernel
theorem dX12_finds_1 : decode cX12_finds 1 = .ok (.iload_n 1, 1) := by decide +kernel
theorem dX12_finds_2 : decode cX12_finds 2 = .ok (.putfield 69, 3) := by decide +kernel
theorem dX12_finds_5 : decode cX12_finds 5 = .ok (.bipush (-10), 2) := by decide +kernel
theorem dX12_finds_7 : decode cX12_finds 7 = .ok (.iload_n 1, 1) := by decide +kernel
theorem dX12_finds_8 : decode cX12_finds 8 = .ok (.isub, 1) := by decide +kernel
theorem dX12_finds_9 : decode cX12_finds 9 = .ok (.ireturn, 1) := by decide +kernel
theorem dX12_isSheet_0 : decode cX12_isSheet 0 = .ok (.iload_n 0, 1) := by decide +kernel
theorem dX12_isSheet_1 : decode cX12_isSheet 1 = .ok (.i2l, 1) := by decide +kernel
theorem dX12_isSheet_2 : decode cX12_isSheet 2 = .ok (.lconst 0, 1) := by decide +kernel
theorem dX12_isSheet_3 : decode cX12_isSheet 3 = .ok (.ldc2_w 72, 3) := by decide +kernel
theorem dX12_isSheet_6 : decode cX12_isSheet 6 = .ok (.invokestatic 65, 3) := by decide +kernel
theorem dX12_isSheet_9 : decode cX12_isSheet 9 = .ok (.ireturn, 1) := by decide +kernel
theorem dX12_sheet_0 : decode cX12_sheet 0 = .ok (.iload_n 1, 1) := by decide +kernel
theorem dX12_sheet_1 : decode cX12_sheet 1 = .ok (.invokestatic 74, 3) := by decide +kernel
theorem dX12_sheet_4 : decode cX12_sheet 4 = .ok (.ifCond .eq 21, 3) := by decide +kernel
theorem dX12_sheet_7 : decode cX12_sheet 7 = .ok (.iload_n 2, 1) := by decide +kernel
theorem dX12_sheet_8 : decode cX12_sheet 8 = .ok (.i2l, 1) := by decide +kernel
theorem dX12_sheet_9 : decode cX12_sheet 9 = .ok (.lconst 0, 1) := by decide +kernel
theorem dX12_sheet_10 : decode cX12_sheet 10 = .ok (.ldc2_w 78, 3) := by decide +kernel
theorem dX12_sheet_13 : decode cX12_sheet 13 = .ok (.invokestatic 65, 3) := by decide +kernel
theorem dX12_sheet_16 : decode cX12_sheet 16 = .ok (.ifCond .eq 9, 3) := by decide +kernel
theorem dX12_sheet_19 : decode cX12_sheet 19 = .ok (.iload_n 3, 1) := by decide +kernel
theorem dX12_sheet_20 : decode cX12_sheet 20 = .ok (.bipush 60, 2) := by decide +kernel
theorem dX12_sheet_22 : decode cX12_sheet 22 = .ok (.if_icmp .le 6, 3) := by decide +kernel
theorem dX12_sheet_25 : decode cX12_sheet 25 = .ok (.bipush (-2), 2) := by decide +kernel
theorem dX12_sheet_27 : decode cX12_sheet 27 = .ok (.ireturn, 1) := by decide +kernel
theorem dX12_sheet_28 : decode cX12_sheet 28 = .ok (.iload_n 3, 1) := by decide +kernel
theorem dX12_sheet_29 : decode cX12_sheet 29 = .ok (.ifCond .ge 9, 3) := by decide +kernel
theorem dX12_sheet_32 : decode cX12_sheet 32 = .ok (.aload_n 0, 1) := by decide +kernel
theorem dX12_sheet_33 : decode cX12_sheet 33 = .ok (.iconst 5, 1) := by decide +kernel
theorem dX12_sheet_34 : decode cX12_sheet 34 = .ok (.invokevirtual 80, 3) := by decide +kernel
theorem dX12_sheet_37 : decode cX12_sheet 37 = .ok (.ireturn, 1) := by decide +kernel
theorem dX12_sheet_38 : decode cX12_sheet 38 = .ok (.aload_n 0, 1) := by decide +kernel
theorem dX12_sheet_39 : decode cX12_sheet 39 = .ok (.getfield 7, 3) := by decide +kernel
theorem dX12_sheet_42 : decode cX12_sheet 42 = .ok (.iload_n 1, 1) := by decide +kernel
theorem dX12_sheet_43 : decode cX12_sheet 43 = .ok (.iload_n 2, 1) := by decide +kernel
theorem dX12_sheet_44 : decode cX12_sheet 44 = .ok (.iastore, 1) := by decide +kernel
theorem dX12_sheet_45 : decode cX12_sheet 45 = .ok (.aload_n 0, 1) := by decide +kernel
theorem dX12_sheet_46 : decode cX12_sheet 46 = .ok (.getfield 13, 3) := by decide +kernel
theorem dX12_sheet_49 : decode cX12_sheet 49 = .ok (.iload_n 1, 1) := by decide +kernel
theorem dX12_sheet_50 : decode cX12_sheet 50 = .ok (.iload_n 3, 1) := by decide +kernel
theorem dX12_sheet_51 : decode cX12_sheet 51 = .ok (.iastore, 1) := by decide +kernel
theorem dX12_sheet_52 : decode cX12_sheet 52 = .ok (.iconst 0, 1) := by decide +kernel
theorem dX12_sheet_53 : decode cX12_sheet 53 = .ok (.istore 4, 2) := by decide +kernel
theorem dX12_sheet_55 : decode cX12_sheet 55 = .ok (.iload 4, 2) := by decide +kernel
theorem dX12_sheet_57 : decode cX12_sheet 57 = .ok (.iload_n 3, 1) := by decide +kernel
theorem dX12_sheet_58 : decode cX12_sheet 58 = .ok (.if_icmp .ge 22, 3) := by decide +kernel
theorem dX12_sheet_61 : decode cX12_sheet 61 = .ok (.aload_n 0, 1) := by decide +kernel
theorem dX12_sheet_62 : decode cX12_sheet 62 = .ok (.getfield 16, 3) := by decide +kernel
theorem dX12_sheet_65 : decode cX12_sheet 65 = .ok (.bipush 60, 2) := by decide +kernel
theorem dX12_sheet_67 : decode cX12_sheet 67 = .ok (.iload_n 1, 1) := by decide +kernel
theorem dX12_sheet_68 : decode cX12_sheet 68 = .ok (.imul, 1) := by decide +kernel
theorem dX12_sheet_69 : decode cX12_sheet 69 = .ok (.iload 4, 2) := by decide +kernel
theorem dX12_sheet_71 : decode cX12_sheet 71 = .ok (.iadd, 1) := by decide +kernel
theorem dX12_sheet_72 : decode cX12_sheet 72 = .ok (.iconst 0, 1) := by decide +kernel
theorem dX12_sheet_73 : decode cX12_sheet 73 = .ok (.iastore, 1) := by decide +kernel
theorem dX12_sheet_74 : decode cX12_sheet 74 = .ok (.iinc 4 1, 3) := by decide +kernel
theorem dX12_sheet_77 : decode cX12_sheet 77 = .ok (.goto (-22), 3) := by decide +kernel
theorem dX12_sheet_80 : decode cX12_sheet 80 = .ok (.iload_n 3, 1) := by decide +kernel
theorem dX12_sheet_81 : decode cX12_sheet 81 = .ok (.ireturn, 1) := by decide +kernel
theorem dX12_lose_0 : decode cX12_lose 0 = .ok (.iload_n 1, 1) := by decide +kernel
theorem dX12_lose_1 : decode cX12_lose 1 = .ok (.invokestatic 74, 3) := by decide +kernel
theorem dX12_lose_4 : decode cX12_lose 4 = .ok (.ifCond .ne 6, 3) := by decide +kernel
theorem dX12_lose_7 : decode cX12_lose 7 = .ok (.bipush (-2), 2) := by decide +kernel
theorem dX12_lose_9 : decode cX12_lose 9 = .ok (.ireturn, 1) := by decide +kernel
theorem dX12_lose_10 : decode cX12_lose 10 = .ok (.aload_n 0, 1) := by decide +kernel
theorem dX12_lose_11 : decode cX12_lose 11 = .ok (.getfield 7, 3) := by decide +kernel
theorem dX12_lose_14 : decode cX12_lose 14 = .ok (.iload_n 1, 1) := by decide +kernel
theorem dX12_lose_15 : decode cX12_lose 15 = .ok (.iaload, 1) := by decide +kernel
theorem dX12_lose_16 : decode cX12_lose 16 = .ok (.ifCond .ge 9, 3) := by decide +kernel
theorem dX12_lose_19 : decode cX12_lose 19 = .ok (.aload_n 0, 1) := by decide +kernel
theorem dX12_lose_20 : decode cX12_lose 20 = .ok (.iconst 1, 1) := by decide +kernel
theorem dX12_lose_21 : decode cX12_lose 21 = .ok (.invokevirtual 80, 3) := by decide +kernel
theorem dX12_lose_24 : decode cX12_lose 24 = .ok (.ireturn, 1) := by decide +kernel
theorem dX12_lose_25 : decode cX12_lose 25 = .ok (.aload_n 0, 1) := by decide +kernel
theorem dX12_lose_26 : decode cX12_lose 26 = .ok (.getfield 7, 3) := by decide +kernel
theorem dX12_lose_29 : decode cX12_lose 29 = .ok (.iload_n 1, 1) := by decide +kernel
theorem dX12_lose_30 : decode cX12_lose 30 = .ok (.iconst (-1), 1) := by decide +kernel
theorem dX12_lose_31 : decode cX12_lose 31 = .ok (.iastore, 1) := by decide +kernel
theorem dX12_lose_32 : decode cX12_lose 32 = .ok (.aload_n 0, 1) := by decide +kernel
theorem dX12_lose_33 : decode cX12_lose 33 = .ok (.getfield 13, 3) := by decide +kernel
theorem dX12_lose_36 : decode cX12_lose 36 = .ok (.iload_n 1, 1) := by decide +kernel
theorem dX12_lose_37 : decode cX12_lose 37 = .ok (.iaload, 1) := by decide +kernel
theorem dX12_lose_38 : decode cX12_lose 38 = .ok (.ireturn, 1) := by decide +kernel
theorem dX12_lacks_0 : decode cX12_lacks 0 = .ok (.aload_n 0, 1) := by decide +kernel
theorem dX12_lacks_1 : decode cX12_lacks 1 = .ok (.getfield 7, 3) := by decide +kernel
theorem dX12_lacks_4 : decode cX12_lacks 4 = .ok (.iload_n 1, 1) := by decide +kernel
theorem dX12_lacks_5 : decode cX12_lacks 5 = .ok (.iaload, 1) := by decide +kernel
theorem dX12_lacks_6 : decode cX12_lacks 6 = .ok (.ifCond .ge 9, 3) := by decide +kernel
theorem dX12_lacks_9 : decode cX12_lacks 9 = .ok (.aload_n 0, 1) := by decide +kernel
theorem dX12_lacks_10 : decode cX12_lacks 10 = .ok (.iconst 1, 1) := by decide +kernel
theorem dX12_lacks_11 : decode cX12_lacks 11 = .ok (.invokevirtual 80, 3) := by decide +kernel
theorem dX12_lacks_14 : decode cX12_lacks 14 = .ok (.ireturn, 1) := by decide +kernel
theorem dX12_lacks_15 : decode cX12_lacks 15 = .ok (.aload_n 0, 1) := by decide +kernel
theorem dX12_lacks_16 : decode cX12_lacks 16 = .ok (.getfield 7, 3) := by decide +kernel
theorem dX12_lacks_19 : decode cX12_lacks 19 = .ok (.iload_n 1, 1) := by decide +kernel
theorem dX12_lacks_20 : decode cX12_lacks 20 = .ok (.iaload, 1) := by decide +kernel
theorem dX12_lacks_21 : decode cX12_lacks 21 = .ok (.iload_n 2, 1) := by decide +kernel
theorem dX12_lacks_22 : decode cX12_lacks 22 = .ok (.if_icmp .eq 9, 3) := by decide +kernel
theorem dX12_lacks_25 : decode cX12_lacks 25 = .ok (.aload_n 0, 1) := by decide +kernel
theorem dX12_lacks_26 : decode cX12_lacks 26 = .ok (.iconst 3, 1) := by decide +kernel
theorem dX12_lacks_27 : decode cX12_lacks 27 = .ok (.invokevirtual 80, 3) := by decide +kernel
theorem dX12_lacks_30 : decode cX12_lacks 30 = .ok (.ireturn, 1) := by decide +kernel
theorem dX12_lacks_31 : decode cX12_lacks 31 = .ok (.iload_n 3, 1) := by decide +kernel
theorem dX12_lacks_32 : decode cX12_lacks 32 = .ok (.i2l, 1) := by decide +kernel
theorem dX12_lacks_33 : decode cX12_lacks 33 = .ok (.lconst 0, 1) := by decide +kernel
theorem dX12_lacks_34 : decode cX12_lacks 34 = .ok (.aload_n 0, 1) := by decide +kernel
theorem dX12_lacks_35 : decode cX12_lacks 35 = .ok (.getfield 13, 3) := by decide +kernel
theorem dX12_lacks_38 : decode cX12_lacks 38 = .ok (.iload_n 1, 1) := by decide +kernel
theorem dX12_lacks_39 : decode cX12_lacks 39 = .ok (.iaload, 1) := by decide +kernel
theorem dX12_lacks_40 : decode cX12_lacks 40 = .ok (.iconst 1, 1) := by decide +kernel
theorem dX12_lacks_41 : decode cX12_lacks 41 = .ok (.isub, 1) := by decide +kernel
theorem dX12_lacks_42 : decode cX12_lacks 42 = .ok (.i2l, 1) := by decide +kernel
theorem dX12_lacks_43 : decode cX12_lacks 43 = .ok (.invokestatic 65, 3) := by decide +kernel
theorem dX12_lacks_46 : decode cX12_lacks 46 = .ok (.ifCond .eq 7, 3) := by decide +kernel
theorem dX12_lacks_49 : decode cX12_lacks 49 = .ok (.iconst 0, 1) := by decide +kernel
theorem dX12_lacks_50 : decode cX12_lacks 50 = .ok (.goto 8, 3) := by decide +kernel
theorem dX12_lacks_53 : decode cX12_lacks 53 = .ok (.aload_n 0, 1) := by decide +kernel
theorem dX12_lacks_54 : decode cX12_lacks 54 = .ok (.iconst 2, 1) := by decide +kernel
theorem dX12_lacks_55 : decode cX12_lacks 55 = .ok (.invokevirtual 80, 3) := by decide +kernel
theorem dX12_lacks_58 : decode cX12_lacks 58 = .ok (.ireturn, 1) := by decide +kernel
theorem dX12_cut_0 : decode cX12_cut 0 = .ok (.iload_n 0, 1) := by decide +kernel
theorem dX12_cut_1 : decode cX12_cut 1 = .ok (.ifCond .ne 8, 3) := by decide +kernel
theorem dX12_cut_4 : decode cX12_cut 4 = .ok (.iload_n 1, 1) := by decide +kernel
theorem dX12_cut_5 : decode cX12_cut 5 = .ok (.i2b, 1) := by decide +kernel
theorem dX12_cut_6 : decode cX12_cut 6 = .ok (.goto 14, 3) := by decide +kernel
theorem dX12_cut_9 : decode cX12_cut 9 = .ok (.iload_n 0, 1) := by decide +kernel
theorem dX12_cut_10 : decode cX12_cut 10 = .ok (.iconst 1, 1) := by decide +kernel
theorem dX12_cut_11 : decode cX12_cut 11 = .ok (.if_icmp .ne 8, 3) := by decide +kernel
theorem dX12_cut_14 : decode cX12_cut 14 = .ok (.iload_n 1, 1) := by decide +kernel
theorem dX12_cut_15 : decode cX12_cut 15 = .ok (.i2s, 1) := by decide +kernel
theorem dX12_cut_16 : decode cX12_cut 16 = .ok (.goto 4, 3) := by decide +kernel
theorem dX12_cut_19 : decode cX12_cut 19 = .ok (.iload_n 1, 1) := by decide +kernel
theorem dX12_cut_20 : decode cX12_cut 20 = .ok (.ireturn, 1) := by decide +kernel
theorem dX12_lay_0 : decode cX12_lay 0 = .ok (.iload_n 1, 1) := by decide +kernel
theorem dX12_lay_1 : decode cX12_lay 1 = .ok (.invokestatic 74, 3) := by decide +kernel
theorem dX12_lay_4 : decode cX12_lay 4 = .ok (.ifCond .eq 15, 3) := by decide +kernel
theorem dX12_lay_7 : decode cX12_lay 7 = .ok (.iload_n 2, 1) := by decide +kernel
theorem dX12_lay_8 : decode cX12_lay 8 = .ok (.i2l, 1) := by decide +kernel
theorem dX12_lay_9 : decode cX12_lay 9 = .ok (.lconst 0, 1) := by decide +kernel
theorem dX12_lay_10 : decode cX12_lay 10 = .ok (.ldc2_w 78, 3) := by decide +kernel
theorem dX12_lay_13 : decode cX12_lay 13 = .ok (.invokestatic 65, 3) := by decide +kernel
theorem dX12_lay_16 : decode cX12_lay 16 = .ok (.ifCond .ne 6, 3) := by decide +kernel
theorem dX12_lay_19 : decode cX12_lay 19 = .ok (.bipush (-2), 2) := by decide +kernel
theorem dX12_lay_21 : decode cX12_lay 21 = .ok (.ireturn, 1) := by decide +kernel
theorem dX12_lay_22 : decode cX12_lay 22 = .ok (.aload_n 0, 1) := by decide +kernel
theorem dX12_lay_23 : decode cX12_lay 23 = .ok (.iload_n 1, 1) := by decide +kernel
theorem dX12_lay_24 : decode cX12_lay 24 = .ok (.iload_n 2, 1) := by decide +kernel
theorem dX12_lay_25 : decode cX12_lay 25 = .ok (.iload_n 3, 1) := by decide +kernel
theorem dX12_lay_26 : decode cX12_lay 26 = .ok (.invokevirtual 84, 3) := by decide +kernel
theorem dX12_lay_29 : decode cX12_lay 29 = .ok (.istore 5, 2) := by decide +kernel
theorem dX12_lay_31 : decode cX12_lay 31 = .ok (.iload 5, 2) := by decide +kernel
theorem dX12_lay_33 : decode cX12_lay 33 = .ok (.ifCond .eq 6, 3) := by decide +kernel
theorem dX12_lay_36 : decode cX12_lay 36 = .ok (.iload 5, 2) := by decide +kernel
theorem dX12_lay_38 : decode cX12_lay 38 = .ok (.ireturn, 1) := by decide +kernel
theorem dX12_lay_39 : decode cX12_lay 39 = .ok (.aload_n 0, 1) := by decide +kernel
theorem dX12_lay_40 : decode cX12_lay 40 = .ok (.getfield 16, 3) := by decide +kernel
theorem dX12_lay_43 : decode cX12_lay 43 = .ok (.bipush 60, 2) := by decide +kernel
theorem dX12_lay_45 : decode cX12_lay 45 = .ok (.iload_n 1, 1) := by decide +kernel
theorem dX12_lay_46 : decode cX12_lay 46 = .ok (.imul, 1) := by decide +kernel
theorem dX12_lay_47 : decode cX12_lay 47 = .ok (.iload_n 3, 1) := by decide +kernel
theorem dX12_lay_48 : decode cX12_lay 48 = .ok (.iadd, 1) := by decide +kernel
theorem dX12_lay_49 : decode cX12_lay 49 = .ok (.iload_n 2, 1) := by decide +kernel
theorem dX12_lay_50 : decode cX12_lay 50 = .ok (.iload 4, 2) := by decide +kernel
theorem dX12_lay_52 : decode cX12_lay 52 = .ok (.invokestatic 88, 3) := by decide +kernel
theorem dX12_lay_55 : decode cX12_lay 55 = .ok (.iastore, 1) := by decide +kernel
theorem dX12_lay_56 : decode cX12_lay 56 = .ok (.iconst 1, 1) := by decide +kernel
theorem dX12_lay_57 : decode cX12_lay 57 = .ok (.ireturn, 1) := by decide +kernel
theorem dX12_get_0 : decode cX12_get 0 = .ok (.iload_n 1, 1) := by decide +kernel
theorem dX12_get_1 : decode cX12_get 1 = .ok (.invokestatic 74, 3) := by decide +kernel
theorem dX12_get_4 : decode cX12_get 4 = .ok (.ifCond .eq 25, 3) := by decide +kernel
theorem dX12_get_7 : decode cX12_get 7 = .ok (.iload_n 2, 1) := by decide +kernel
theorem dX12_get_8 : decode cX12_get 8 = .ok (.i2l, 1) := by decide +kernel
theorem dX12_get_9 : decode cX12_get 9 = .ok (.lconst 0, 1) := by decide +kernel
theorem dX12_get_10 : decode cX12_get 10 = .ok (.ldc2_w 78, 3) := by decide +kernel
theorem dX12_get_13 : decode cX12_get 13 = .ok (.invokestatic 65, 3) := by decide +kernel
theorem dX12_get_16 : decode cX12_get 16 = .ok (.ifCond .eq 13, 3) := by decide +kernel
theorem dX12_get_19 : decode cX12_get 19 = .ok (.aload_n 0, 1) := by decide +kernel
theorem dX12_get_20 : decode cX12_get 20 = .ok (.iload_n 1, 1) := by decide +kernel
theorem dX12_get_21 : decode cX12_get 21 = .ok (.iload_n 2, 1) := by decide +kernel
theorem dX12_get_22 : decode cX12_get 22 = .ok (.iload_n 3, 1) := by decide +kernel
theorem dX12_get_23 : decode cX12_get 23 = .ok (.invokevirtual 84, 3) := by decide +kernel
theorem dX12_get_26 : decode cX12_get 26 = .ok (.ifCond .eq 6, 3) := by decide +kernel
theorem dX12_get_29 : decode cX12_get 29 = .ok (.ldc 92, 2) := by decide +kernel
theorem dX12_get_31 : decode cX12_get 31 = .ok (.ireturn, 1) := by decide +kernel
theorem dX12_get_32 : decode cX12_get 32 = .ok (.aload_n 0, 1) := by decide +kernel
theorem dX12_get_33 : decode cX12_get 33 = .ok (.getfield 16, 3) := by decide +kernel
theorem dX12_get_36 : decode cX12_get 36 = .ok (.bipush 60, 2) := by decide +kernel
theorem dX12_get_38 : decode cX12_get 38 = .ok (.iload_n 1, 1) := by decide +kernel
theorem dX12_get_39 : decode cX12_get 39 = .ok (.imul, 1) := by decide +kernel
theorem dX12_get_40 : decode cX12_get 40 = .ok (.iload_n 3, 1) := by decide +kernel
theorem dX12_get_41 : decode cX12_get 41 = .ok (.iadd, 1) := by decide +kernel
theorem dX12_get_42 : decode cX12_get 42 = .ok (.iaload, 1) := by decide +kernel
theorem dX12_get_43 : decode cX12_get 43 = .ok (.ireturn, 1) := by decide +kernel
theorem dX12_copy_0 : decode cX12_copy 0 = .ok (.iload_n 1, 1) := by decide +kernel
theorem dX12_copy_1 : decode cX12_copy 1 = .ok (.invokestatic 74, 3) := by decide +kernel
theorem dX12_copy_4 : decode cX12_copy 4 = .ok (.ifCond .eq 10, 3) := by decide +kernel
theorem dX12_copy_7 : decode cX12_copy 7 = .ok (.iload_n 3, 1) := by decide +kernel
theorem dX12_copy_8 : decode cX12_copy 8 = .ok (.invokestatic 74, 3) := by decide +kernel
theorem dX12_copy_11 : decode cX12_copy 11 = .ok (.ifCond .ne 6, 3) := by decide +kernel
theorem dX12_copy_14 : decode cX12_copy 14 = .ok (.bipush (-2), 2) := by decide +kernel
theorem dX12_copy_16 : decode cX12_copy 16 = .ok (.ireturn, 1) := by decide +kernel
theorem dX12_copy_17 : decode cX12_copy 17 = .ok (.aload_n 0, 1) := by decide +kernel
theorem dX12_copy_18 : decode cX12_copy 18 = .ok (.getfield 7, 3) := by decide +kernel
theorem dX12_copy_21 : decode cX12_copy 21 = .ok (.iload_n 1, 1) := by decide +kernel
theorem dX12_copy_22 : decode cX12_copy 22 = .ok (.iaload, 1) := by decide +kernel
theorem dX12_copy_23 : decode cX12_copy 23 = .ok (.ifCond .lt 12, 3) := by decide +kernel
theorem dX12_copy_26 : decode cX12_copy 26 = .ok (.aload_n 0, 1) := by decide +kernel
theorem dX12_copy_27 : decode cX12_copy 27 = .ok (.getfield 7, 3) := by decide +kernel
theorem dX12_copy_30 : decode cX12_copy 30 = .ok (.iload_n 3, 1) := by decide +kernel
theorem dX12_copy_31 : decode cX12_copy 31 = .ok (.iaload, 1) := by decide +kernel
theorem dX12_copy_32 : decode cX12_copy 32 = .ok (.ifCond .ge 9, 3) := by decide +kernel
theorem dX12_copy_35 : decode cX12_copy 35 = .ok (.aload_n 0, 1) := by decide +kernel
theorem dX12_copy_36 : decode cX12_copy 36 = .ok (.iconst 1, 1) := by decide +kernel
theorem dX12_copy_37 : decode cX12_copy 37 = .ok (.invokevirtual 80, 3) := by decide +kernel
theorem dX12_copy_40 : decode cX12_copy 40 = .ok (.ireturn, 1) := by decide +kernel
theorem dX12_copy_41 : decode cX12_copy 41 = .ok (.aload_n 0, 1) := by decide +kernel
theorem dX12_copy_42 : decode cX12_copy 42 = .ok (.getfield 7, 3) := by decide +kernel
theorem dX12_copy_45 : decode cX12_copy 45 = .ok (.iload_n 1, 1) := by decide +kernel
theorem dX12_copy_46 : decode cX12_copy 46 = .ok (.iaload, 1) := by decide +kernel
theorem dX12_copy_47 : decode cX12_copy 47 = .ok (.aload_n 0, 1) := by decide +kernel
theorem dX12_copy_48 : decode cX12_copy 48 = .ok (.getfield 7, 3) := by decide +kernel
theorem dX12_copy_51 : decode cX12_copy 51 = .ok (.iload_n 3, 1) := by decide +kernel
theorem dX12_copy_52 : decode cX12_copy 52 = .ok (.iaload, 1) := by decide +kernel
theorem dX12_copy_53 : decode cX12_copy 53 = .ok (.if_icmp .eq 9, 3) := by decide +kernel
theorem dX12_copy_56 : decode cX12_copy 56 = .ok (.aload_n 0, 1) := by decide +kernel
theorem dX12_copy_57 : decode cX12_copy 57 = .ok (.iconst 4, 1) := by decide +kernel
theorem dX12_copy_58 : decode cX12_copy 58 = .ok (.invokevirtual 80, 3) := by decide +kernel
theorem dX12_copy_61 : decode cX12_copy 61 = .ok (.ireturn, 1) := by decide +kernel
theorem dX12_copy_62 : decode cX12_copy 62 = .ok (.iload_n 2, 1) := by decide +kernel
theorem dX12_copy_63 : decode cX12_copy 63 = .ok (.ifCond .lt 48, 3) := by decide +kernel
theorem dX12_copy_66 : decode cX12_copy 66 = .ok (.iload 4, 2) := by decide +kernel
theorem dX12_copy_68 : decode cX12_copy 68 = .ok (.ifCond .lt 43, 3) := by decide +kernel
theorem dX12_copy_71 : decode cX12_copy 71 = .ok (.iload 5, 2) := by decide +kernel
theorem dX12_copy_73 : decode cX12_copy 73 = .ok (.ifCond .lt 38, 3) := by decide +kernel
theorem dX12_copy_76 : decode cX12_copy 76 = .ok (.iload_n 2, 1) := by decide +kernel
theorem dX12_copy_77 : decode cX12_copy 77 = .ok (.i2l, 1) := by decide +kernel
theorem dX12_copy_78 : decode cX12_copy 78 = .ok (.iload 5, 2) := by decide +kernel
theorem dX12_copy_80 : decode cX12_copy 80 = .ok (.i2l, 1) := by decide +kernel
theorem dX12_copy_81 : decode cX12_copy 81 = .ok (.ladd, 1) := by decide +kernel
theorem dX12_copy_82 : decode cX12_copy 82 = .ok (.aload_n 0, 1) := by decide +kernel
theorem dX12_copy_83 : decode cX12_copy 83 = .ok (.getfield 13, 3) := by decide +kernel
theorem dX12_copy_86 : decode cX12_copy 86 = .ok (.iload_n 1, 1) := by decide +kernel
theorem dX12_copy_87 : decode cX12_copy 87 = .ok (.iaload, 1) := by decide +kernel
theorem dX12_copy_88 : decode cX12_copy 88 = .ok (.i2l, 1) := by decide +kernel
theorem dX12_copy_89 : decode cX12_copy 89 = .ok (.lcmp, 1) := by decide +kernel
theorem dX12_copy_90 : decode cX12_copy 90 = .ok (.ifCond .gt 21, 3) := by decide +kernel
theorem dX12_copy_93 : decode cX12_copy 93 = .ok (.iload 4, 2) := by decide +kernel
theorem dX12_copy_95 : decode cX12_copy 95 = .ok (.i2l, 1) := by decide +kernel
theorem dX12_copy_96 : decode cX12_copy 96 = .ok (.iload 5, 2) := by decide +kernel
theorem dX12_copy_98 : decode cX12_copy 98 = .ok (.i2l, 1) := by decide +kernel
theorem dX12_copy_99 : decode cX12_copy 99 = .ok (.ladd, 1) := by decide +kernel
theorem dX12_copy_100 : decode cX12_copy 100 = .ok (.aload_n 0, 1) := by decide +kernel
theorem dX12_copy_101 : decode cX12_copy 101 = .ok (.getfield 13, 3) := by decide +kernel
theorem dX12_copy_104 : decode cX12_copy 104 = .ok (.iload_n 3, 1) := by decide +kernel
theorem dX12_copy_105 : decode cX12_copy 105 = .ok (.iaload, 1) := by decide +kernel
theorem dX12_copy_106 : decode cX12_copy 106 = .ok (.i2l, 1) := by decide +kernel
theorem dX12_copy_107 : decode cX12_copy 107 = .ok (.lcmp, 1) := by decide +kernel
theorem dX12_copy_108 : decode cX12_copy 108 = .ok (.ifCond .le 9, 3) := by decide +kernel
theorem dX12_copy_111 : decode cX12_copy 111 = .ok (.aload_n 0, 1) := by decide +kernel
theorem dX12_copy_112 : decode cX12_copy 112 = .ok (.iconst 2, 1) := by decide +kernel
theorem dX12_copy_113 : decode cX12_copy 113 = .ok (.invokevirtual 80, 3) := by decide +kernel
theorem dX12_copy_116 : decode cX12_copy 116 = .ok (.ireturn, 1) := by decide +kernel
theorem dX12_copy_117 : decode cX12_copy 117 = .ok (.iconst 0, 1) := by decide +kernel
theorem dX12_copy_118 : decode cX12_copy 118 = .ok (.istore 6, 2) := by decide +kernel
theorem dX12_copy_120 : decode cX12_copy 120 = .ok (.iload 6, 2) := by decide +kernel
theorem dX12_copy_122 : decode cX12_copy 122 = .ok (.iload 5, 2) := by decide +kernel
theorem dX12_copy_124 : decode cX12_copy 124 = .ok (.if_icmp .ge 30, 3) := by decide +kernel
theorem dX12_copy_127 : decode cX12_copy 127 = .ok (.aload_n 0, 1) := by decide +kernel
theorem dX12_copy_128 : decode cX12_copy 128 = .ok (.getfield 19, 3) := by decide +kernel
theorem dX12_copy_131 : decode cX12_copy 131 = .ok (.iload 6, 2) := by decide +kernel
theorem dX12_copy_133 : decode cX12_copy 133 = .ok (.aload_n 0, 1) := by decide +kernel
theorem dX12_copy_134 : decode cX12_copy 134 = .ok (.getfield 16, 3) := by decide +kernel
theorem dX12_copy_137 : decode cX12_copy 137 = .ok (.bipush 60, 2) := by decide +kernel
theorem dX12_copy_139 : decode cX12_copy 139 = .ok (.iload_n 1, 1) := by decide +kernel
theorem dX12_copy_140 : decode cX12_copy 140 = .ok (.imul, 1) := by decide +kernel
theorem dX12_copy_141 : decode cX12_copy 141 = .ok (.iload_n 2, 1) := by decide +kernel
theorem dX12_copy_142 : decode cX12_copy 142 = .ok (.iadd, 1) := by decide +kernel
theorem dX12_copy_143 : decode cX12_copy 143 = .ok (.iload 6, 2) := by decide +kernel
theorem dX12_copy_145 : decode cX12_copy 145 = .ok (.iadd, 1) := by decide +kernel
theorem dX12_copy_146 : decode cX12_copy 146 = .ok (.iaload, 1) := by decide +kernel
theorem dX12_copy_147 : decode cX12_copy 147 = .ok (.iastore, 1) := by decide +kernel
theorem dX12_copy_148 : decode cX12_copy 148 = .ok (.iinc 6 1, 3) := by decide +kernel
theorem dX12_copy_151 : decode cX12_copy 151 = .ok (.goto (-31), 3) := by decide +kernel
theorem dX12_copy_154 : decode cX12_copy 154 = .ok (.iconst 0, 1) := by decide +kernel
theorem dX12_copy_155 : decode cX12_copy 155 = .ok (.istore 6, 2) := by decide +kernel
theorem dX12_copy_157 : decode cX12_copy 157 = .ok (.iload 6, 2) := by decide +kernel
theorem dX12_copy_159 : decode cX12_copy 159 = .ok (.iload 5, 2) := by decide +kernel
theorem dX12_copy_161 : decode cX12_copy 161 = .ok (.if_icmp .ge 31, 3) := by decide +kernel
theorem dX12_copy_164 : decode cX12_copy 164 = .ok (.aload_n 0, 1) := by decide +kernel
theorem dX12_copy_165 : decode cX12_copy 165 = .ok (.getfield 16, 3) := by decide +kernel
theorem dX12_copy_168 : decode cX12_copy 168 = .ok (.bipush 60, 2) := by decide +kernel
theorem dX12_copy_170 : decode cX12_copy 170 = .ok (.iload_n 3, 1) := by decide +kernel
theorem dX12_copy_171 : decode cX12_copy 171 = .ok (.imul, 1) := by decide +kernel
theorem dX12_copy_172 : decode cX12_copy 172 = .ok (.iload 4, 2) := by decide +kernel
theorem dX12_copy_174 : decode cX12_copy 174 = .ok (.iadd, 1) := by decide +kernel
theorem dX12_copy_175 : decode cX12_copy 175 = .ok (.iload 6, 2) := by decide +kernel
theorem dX12_copy_177 : decode cX12_copy 177 = .ok (.iadd, 1) := by decide +kernel
theorem dX12_copy_178 : decode cX12_copy 178 = .ok (.aload_n 0, 1) := by decide +kernel
theorem dX12_copy_179 : decode cX12_copy 179 = .ok (.getfield 19, 3) := by decide +kernel
theorem dX12_copy_182 : decode cX12_copy 182 = .ok (.iload 6, 2) := by decide +kernel
theorem dX12_copy_184 : decode cX12_copy 184 = .ok (.iaload, 1) := by decide +kernel
theorem dX12_copy_185 : decode cX12_copy 185 = .ok (.iastore, 1) := by decide +kernel
theorem dX12_copy_186 : decode cX12_copy 186 = .ok (.iinc 6 1, 3) := by decide +kernel
theorem dX12_copy_189 : decode cX12_copy 189 = .ok (.goto (-32), 3) := by decide +kernel
theorem dX12_copy_192 : decode cX12_copy 192 = .ok (.iconst 1, 1) := by decide +kernel
theorem dX12_copy_193 : decode cX12_copy 193 = .ok (.ireturn, 1) := by decide +kernel
theorem dX12_isText_0 : decode cX12_isText 0 = .ok (.iload_n 0, 1) := by decide +kernel
theorem dX12_isText_1 : decode cX12_isText 1 = .ok (.i2l, 1) := by decide +kernel
theorem dX12_isText_2 : decode cX12_isText 2 = .ok (.lconst 0, 1) := by decide +kernel
theorem dX12_isText_3 : decode cX12_isText 3 = .ok (.ldc2_w 78, 3) := by decide +kernel
theorem dX12_isText_6 : decode cX12_isText 6 = .ok (.invokestatic 65, 3) := by decide +kernel
theorem dX12_isText_9 : decode cX12_isText 9 = .ok (.ireturn, 1) := by decide +kernel
theorem dX12_type_0 : decode cX12_type 0 = .ok (.iload_n 1, 1) := by decide +kernel
theorem dX12_type_1 : decode cX12_type 1 = .ok (.invokestatic 93, 3) := by decide +kernel
theorem dX12_type_4 : decode cX12_type 4 = .ok (.ifCond .eq 15, 3) := by decide +kernel
theorem dX12_type_7 : decode cX12_type 7 = .ok (.iload_n 2, 1) := by decide +kernel
theorem dX12_type_8 : decode cX12_type 8 = .ok (.i2l, 1) := by decide +kernel
theorem dX12_type_9 : decode cX12_type 9 = .ok (.lconst 0, 1) := by decide +kernel
theorem dX12_type_10 : decode cX12_type 10 = .ok (.ldc2_w 96, 3) := by decide +kernel
theorem dX12_type_13 : decode cX12_type 13 = .ok (.invokestatic 65, 3) := by decide +kernel
theorem dX12_type_16 : decode cX12_type 16 = .ok (.ifCond .ne 6, 3) := by decide +kernel
theorem dX12_type_19 : decode cX12_type 19 = .ok (.bipush (-2), 2) := by decide +kernel
theorem dX12_type_21 : decode cX12_type 21 = .ok (.ireturn, 1) := by decide +kernel
theorem dX12_type_22 : decode cX12_type 22 = .ok (.aload_n 0, 1) := by decide +kernel
theorem dX12_type_23 : decode cX12_type 23 = .ok (.getfield 25, 3) := by decide +kernel
theorem dX12_type_26 : decode cX12_type 26 = .ok (.iload_n 1, 1) := by decide +kernel
theorem dX12_type_27 : decode cX12_type 27 = .ok (.iaload, 1) := by decide +kernel
theorem dX12_type_28 : decode cX12_type 28 = .ok (.iload_n 1, 1) := by decide +kernel
theorem dX12_type_29 : decode cX12_type 29 = .ok (.ifCond .ne 8, 3) := by decide +kernel
theorem dX12_type_32 : decode cX12_type 32 = .ok (.bipush 24, 2) := by decide +kernel
theorem dX12_type_34 : decode cX12_type 34 = .ok (.goto 15, 3) := by decide +kernel
theorem dX12_type_37 : decode cX12_type 37 = .ok (.iload_n 1, 1) := by decide +kernel
theorem dX12_type_38 : decode cX12_type 38 = .ok (.iconst 1, 1) := by decide +kernel
theorem dX12_type_39 : decode cX12_type 39 = .ok (.if_icmp .ne 8, 3) := by decide +kernel
theorem dX12_type_42 : decode cX12_type 42 = .ok (.bipush 39, 2) := by decide +kernel
theorem dX12_type_44 : decode cX12_type 44 = .ok (.goto 5, 3) := by decide +kernel
theorem dX12_type_47 : decode cX12_type 47 = .ok (.bipush 23, 2) := by decide +kernel
theorem dX12_type_49 : decode cX12_type 49 = .ok (.if_icmp .ne 6, 3) := by decide +kernel
theorem dX12_type_52 : decode cX12_type 52 = .ok (.bipush (-4), 2) := by decide +kernel
theorem dX12_type_54 : decode cX12_type 54 = .ok (.ireturn, 1) := by decide +kernel
theorem dX12_type_55 : decode cX12_type 55 = .ok (.aload_n 0, 1) := by decide +kernel
theorem dX12_type_56 : decode cX12_type 56 = .ok (.getfield 22, 3) := by decide +kernel
theorem dX12_type_59 : decode cX12_type 59 = .ok (.bipush 40, 2) := by decide +kernel
theorem dX12_type_61 : decode cX12_type 61 = .ok (.iload_n 1, 1) := by decide +kernel
theorem dX12_type_62 : decode cX12_type 62 = .ok (.imul, 1) := by decide +kernel
theorem dX12_type_63 : decode cX12_type 63 = .ok (.aload_n 0, 1) := by decide +kernel
theorem dX12_type_64 : decode cX12_type 64 = .ok (.getfield 25, 3) := by decide +kernel
theorem dX12_type_67 : decode cX12_type 67 = .ok (.iload_n 1, 1) := by decide +kernel
theorem dX12_type_68 : decode cX12_type 68 = .ok (.iaload, 1) := by decide +kernel
theorem dX12_type_69 : decode cX12_type 69 = .ok (.iadd, 1) := by decide +kernel
theorem dX12_type_70 : decode cX12_type 70 = .ok (.iload_n 2, 1) := by decide +kernel
