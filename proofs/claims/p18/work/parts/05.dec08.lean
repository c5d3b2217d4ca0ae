theorem dX12_behindOf_13 : decode cX12_behindOf 13 = .ok (.aload_n 0, 1) := by decide +kernel
theorem dX12_behindOf_14 : decode cX12_behindOf 14 = .ok (.getfield 40, 3) := by decide +kernel
theorem dX12_behindOf_17 : decode cX12_behindOf 17 = .ok (.iconst 4, 1) := by decide +kernel
theorem dX12_behindOf_18 : decode cX12_behindOf 18 = .ok (.iload_n 2, 1) := by decide +kernel
theorem dX12_behindOf_19 : decode cX12_behindOf 19 = .ok (.imul, 1) := by decide +kernel
theorem dX12_behindOf_20 : decode cX12_behindOf 20 = .ok (.iload_n 3, 1) := by decide +kernel
theorem dX12_behindOf_21 : decode cX12_behindOf 21 = .ok (.iadd, 1) := by decide +kernel
theorem dX12_behindOf_22 : decode cX12_behindOf 22 = .ok (.iaload, 1) := by decide +kernel
theorem dX12_behindOf_23 : decode cX12_behindOf 23 = .ok (.goto 4, 3) := by decide +kernel
theorem dX12_behindOf_26 : decode cX12_behindOf 26 = .ok (.iconst (-1), 1) := by decide +kernel
theorem dX12_behindOf_27 : decode cX12_behindOf 27 = .ok (.ireturn, 1) := by decide +kernel
theorem dX12_behind_0 : decode cX12_behind 0 = .ok (.aload_n 0, 1) := by decide +kernel
theorem dX12_behind_1 : decode cX12_behind 1 = .ok (.invokevirtual 141, 3) := by decide +kernel
theorem dX12_behind_4 : decode cX12_behind 4 = .ok (.aload_n 0, 1) := by decide +kernel
theorem dX12_behind_5 : decode cX12_behind 5 = .ok (.iload_n 1, 1) := by decide +kernel
theorem dX12_behind_6 : decode cX12_behind 6 = .ok (.invokevirtual 212, 3) := by decide +kernel
theorem dX12_behind_9 : decode cX12_behind 9 = .ok (.ifCond .eq 41, 3) := by decide +kernel
theorem dX12_behind_12 : decode cX12_behind 12 = .ok (.iload_n 2, 1) := by decide +kernel
theorem dX12_behind_13 : decode cX12_behind 13 = .ok (.i2l, 1) := by decide +kernel
theorem dX12_behind_14 : decode cX12_behind 14 = .ok (.lconst 0, 1) := by decide +kernel
theorem dX12_behind_15 : decode cX12_behind 15 = .ok (.aload_n 0, 1) := by decide +kernel
theorem dX12_behind_16 : decode cX12_behind 16 = .ok (.getfield 107, 3) := by decide +kernel
theorem dX12_behind_19 : decode cX12_behind 19 = .ok (.iconst 1, 1) := by decide +kernel
theorem dX12_behind_20 : decode cX12_behind 20 = .ok (.isub, 1) := by decide +kernel
theorem dX12_behind_21 : decode cX12_behind 21 = .ok (.i2l, 1) := by decide +kernel
theorem dX12_behind_22 : decode cX12_behind 22 = .ok (.invokestatic 65, 3) := by decide +kernel
theorem dX12_behind_25 : decode cX12_behind 25 = .ok (.ifCond .eq 25, 3) := by decide +kernel
theorem dX12_behind_28 : decode cX12_behind 28 = .ok (.iload_n 3, 1) := by decide +kernel
theorem dX12_behind_29 : decode cX12_behind 29 = .ok (.i2l, 1) := by decide +kernel
theorem dX12_behind_30 : decode cX12_behind 30 = .ok (.lconst 0, 1) := by decide +kernel
theorem dX12_behind_31 : decode cX12_behind 31 = .ok (.ldc2_w 72, 3) := by decide +kernel
theorem dX12_behind_34 : decode cX12_behind 34 = .ok (.invokestatic 65, 3) := by decide +kernel
theorem dX12_behind_37 : decode cX12_behind 37 = .ok (.ifCond .eq 13, 3) := by decide +kernel
theorem dX12_behind_40 : decode cX12_behind 40 = .ok (.aload_n 0, 1) := by decide +kernel
theorem dX12_behind_41 : decode cX12_behind 41 = .ok (.iload_n 1, 1) := by decide +kernel
theorem dX12_behind_42 : decode cX12_behind 42 = .ok (.iload_n 2, 1) := by decide +kernel
theorem dX12_behind_43 : decode cX12_behind 43 = .ok (.iload_n 3, 1) := by decide +kernel
theorem dX12_behind_44 : decode cX12_behind 44 = .ok (.invokevirtual 218, 3) := by decide +kernel
theorem dX12_behind_47 : decode cX12_behind 47 = .ok (.goto 5, 3) := by decide +kernel
theorem dX12_behind_50 : decode cX12_behind 50 = .ok (.bipush (-2), 2) := by decide +kernel
theorem dX12_behind_52 : decode cX12_behind 52 = .ok (.ireturn, 1) := by decide +kernel
theorem dX12_farthestNow_0 : decode cX12_farthestNow 0 = .ok (.iconst (-1), 1) := by decide +kernel
theorem dX12_farthestNow_1 : decode cX12_farthestNow 1 = .ok (.istore_n 1, 1) := by decide +kernel
theorem dX12_farthestNow_2 : decode cX12_farthestNow 2 = .ok (.iconst 0, 1) := by decide +kernel
theorem dX12_farthestNow_3 : decode cX12_farthestNow 3 = .ok (.istore_n 2, 1) := by decide +kernel
theorem dX12_farthestNow_4 : decode cX12_farthestNow 4 = .ok (.iconst 0, 1) := by decide +kernel
theorem dX12_farthestNow_5 : decode cX12_farthestNow 5 = .ok (.istore_n 3, 1) := by decide +kernel
theorem dX12_farthestNow_6 : decode cX12_farthestNow 6 = .ok (.iload_n 3, 1) := by decide +kernel
theorem dX12_farthestNow_7 : decode cX12_farthestNow 7 = .ok (.aload_n 0, 1) := by decide +kernel
theorem dX12_farthestNow_8 : decode cX12_farthestNow 8 = .ok (.getfield 159, 3) := by decide +kernel
theorem dX12_farthestNow_11 : decode cX12_farthestNow 11 = .ok (.if_icmp .ge 76, 3) := by decide +kernel
theorem dX12_farthestNow_14 : decode cX12_farthestNow 14 = .ok (.aload_n 0, 1) := by decide +kernel
theorem dX12_farthestNow_15 : decode cX12_farthestNow 15 = .ok (.iload_n 3, 1) := by decide +kernel
theorem dX12_farthestNow_16 : decode cX12_farthestNow 16 = .ok (.invokevirtual 206, 3) := by decide +kernel
theorem dX12_farthestNow_19 : decode cX12_farthestNow 19 = .ok (.iconst 2, 1) := by decide +kernel
theorem dX12_farthestNow_20 : decode cX12_farthestNow 20 = .ok (.aload_n 0, 1) := by decide +kernel
theorem dX12_farthestNow_21 : decode cX12_farthestNow 21 = .ok (.getfield 193, 3) := by decide +kernel
theorem dX12_farthestNow_24 : decode cX12_farthestNow 24 = .ok (.imul, 1) := by decide +kernel
theorem dX12_farthestNow_25 : decode cX12_farthestNow 25 = .ok (.aload_n 0, 1) := by decide +kernel
theorem dX12_farthestNow_26 : decode cX12_farthestNow 26 = .ok (.getfield 196, 3) := by decide +kernel
theorem dX12_farthestNow_29 : decode cX12_farthestNow 29 = .ok (.ifCond .ne 7, 3) := by decide +kernel
theorem dX12_farthestNow_32 : decode cX12_farthestNow 32 = .ok (.iconst 1, 1) := by decide +kernel
theorem dX12_farthestNow_33 : decode cX12_farthestNow 33 = .ok (.goto 4, 3) := by decide +kernel
theorem dX12_farthestNow_36 : decode cX12_farthestNow 36 = .ok (.iconst 0, 1) := by decide +kernel
theorem dX12_farthestNow_37 : decode cX12_farthestNow 37 = .ok (.iadd, 1) := by decide +kernel
theorem dX12_farthestNow_38 : decode cX12_farthestNow 38 = .ok (.istore 4, 2) := by decide +kernel
theorem dX12_farthestNow_40 : decode cX12_farthestNow 40 = .ok (.iload_n 1, 1) := by decide +kernel
theorem dX12_farthestNow_41 : decode cX12_farthestNow 41 = .ok (.iconst (-1), 1) := by decide +kernel
theorem dX12_farthestNow_42 : decode cX12_farthestNow 42 = .ok (.if_icmp .eq 9, 3) := by decide +kernel
theorem dX12_farthestNow_45 : decode cX12_farthestNow 45 = .ok (.iload 4, 2) := by decide +kernel
theorem dX12_farthestNow_47 : decode cX12_farthestNow 47 = .ok (.iload_n 2, 1) := by decide +kernel
theorem dX12_farthestNow_48 : decode cX12_farthestNow 48 = .ok (.if_icmp .le 7, 3) := by decide +kernel
theorem dX12_farthestNow_51 : decode cX12_farthestNow 51 = .ok (.iconst 1, 1) := by decide +kernel
theorem dX12_farthestNow_52 : decode cX12_farthestNow 52 = .ok (.goto 4, 3) := by decide +kernel
theorem dX12_farthestNow_55 : decode cX12_farthestNow 55 = .ok (.iconst 0, 1) := by decide +kernel
theorem dX12_farthestNow_56 : decode cX12_farthestNow 56 = .ok (.istore 5, 2) := by decide +kernel
theorem dX12_farthestNow_58 : decode cX12_farthestNow 58 = .ok (.iload 5, 2) := by decide +kernel
theorem dX12_farthestNow_60 : decode cX12_farthestNow 60 = .ok (.ifCond .eq 7, 3) := by decide +kernel
theorem dX12_farthestNow_63 : decode cX12_farthestNow 63 = .ok (.iload_n 3, 1) := by decide +kernel
theorem dX12_farthestNow_64 : decode cX12_farthestNow 64 = .ok (.goto 4, 3) := by decide +kernel
theorem dX12_farthestNow_67 : decode cX12_farthestNow 67 = .ok (.iload_n 1, 1) := by decide +kernel
theorem dX12_farthestNow_68 : decode cX12_farthestNow 68 = .ok (.istore_n 1, 1) := by decide +kernel
theorem dX12_farthestNow_69 : decode cX12_farthestNow 69 = .ok (.iload 5, 2) := by decide +kernel
theorem dX12_farthestNow_71 : decode cX12_farthestNow 71 = .ok (.ifCond .eq 8, 3) := by decide +kernel
theorem dX12_farthestNow_74 : decode cX12_farthestNow 74 = .ok (.iload 4, 2) := by decide +kernel
theorem dX12_farthestNow_76 : decode cX12_farthestNow 76 = .ok (.goto 4, 3) := by decide +kernel
theorem dX12_farthestNow_79 : decode cX12_farthestNow 79 = .ok (.iload_n 2, 1) := by decide +kernel
theorem dX12_farthestNow_80 : decode cX12_farthestNow 80 = .ok (.istore_n 2, 1) := by decide +kernel
theorem dX12_farthestNow_81 : decode cX12_farthestNow 81 = .ok (.iinc 3 1, 3) := by decide +kernel
theorem dX12_farthestNow_84 : decode cX12_farthestNow 84 = .ok (.goto (-78), 3) := by decide +kernel
theorem dX12_farthestNow_87 : decode cX12_farthestNow 87 = .ok (.iload_n 1, 1) := by decide +kernel
theorem dX12_farthestNow_88 : decode cX12_farthestNow 88 = .ok (.ireturn, 1) := by decide +kernel
theorem dX12_farthest_0 : decode cX12_farthest 0 = .ok (.aload_n 0, 1) := by decide +kernel
theorem dX12_farthest_1 : decode cX12_farthest 1 = .ok (.invokevirtual 141, 3) := by decide +kernel
theorem dX12_farthest_4 : decode cX12_farthest 4 = .ok (.aload_n 0, 1) := by decide +kernel
theorem dX12_farthest_5 : decode cX12_farthest 5 = .ok (.invokevirtual 221, 3) := by decide +kernel
theorem dX12_farthest_8 : decode cX12_farthest 8 = .ok (.ireturn, 1) := by decide +kernel
theorem dX12_climbOf_0 : decode cX12_climbOf 0 = .ok (.iconst (-1), 1) := by decide +kernel
theorem dX12_climbOf_1 : decode cX12_climbOf 1 = .ok (.istore_n 3, 1) := by decide +kernel
theorem dX12_climbOf_2 : decode cX12_climbOf 2 = .ok (.iconst 0, 1) := by decide +kernel
theorem dX12_climbOf_3 : decode cX12_climbOf 3 = .ok (.istore 4, 2) := by decide +kernel
theorem dX12_climbOf_5 : decode cX12_climbOf 5 = .ok (.iconst 0, 1) := by decide +kernel
theorem dX12_climbOf_6 : decode cX12_climbOf 6 = .ok (.istore 5, 2) := by decide +kernel
theorem dX12_climbOf_8 : decode cX12_climbOf 8 = .ok (.iload 5, 2) := by decide +kernel
theorem dX12_climbOf_10 : decode cX12_climbOf 10 = .ok (.sipush 1863, 3) := by decide +kernel
theorem dX12_climbOf_13 : decode cX12_climbOf 13 = .ok (.if_icmp .ge 108, 3) := by decide +kernel
theorem dX12_climbOf_16 : decode cX12_climbOf 16 = .ok (.iload 5, 2) := by decide +kernel
theorem dX12_climbOf_18 : decode cX12_climbOf 18 = .ok (.sipush 207, 3) := by decide +kernel
theorem dX12_climbOf_21 : decode cX12_climbOf 21 = .ok (.idiv, 1) := by decide +kernel
theorem dX12_climbOf_22 : decode cX12_climbOf 22 = .ok (.iconst 1, 1) := by decide +kernel
theorem dX12_climbOf_23 : decode cX12_climbOf 23 = .ok (.iadd, 1) := by decide +kernel
theorem dX12_climbOf_24 : decode cX12_climbOf 24 = .ok (.istore 6, 2) := by decide +kernel
theorem dX12_climbOf_26 : decode cX12_climbOf 26 = .ok (.iload 5, 2) := by decide +kernel
theorem dX12_climbOf_28 : decode cX12_climbOf 28 = .ok (.bipush 9, 2) := by decide +kernel
theorem dX12_climbOf_30 : decode cX12_climbOf 30 = .ok (.idiv, 1) := by decide +kernel
theorem dX12_climbOf_31 : decode cX12_climbOf 31 = .ok (.bipush 23, 2) := by decide +kernel
theorem dX12_climbOf_33 : decode cX12_climbOf 33 = .ok (.irem, 1) := by decide +kernel
theorem dX12_climbOf_34 : decode cX12_climbOf 34 = .ok (.iconst 1, 1) := by decide +kernel
theorem dX12_climbOf_35 : decode cX12_climbOf 35 = .ok (.iadd, 1) := by decide +kernel
theorem dX12_climbOf_36 : decode cX12_climbOf 36 = .ok (.istore 7, 2) := by decide +kernel
theorem dX12_climbOf_38 : decode cX12_climbOf 38 = .ok (.aload_n 0, 1) := by decide +kernel
theorem dX12_climbOf_39 : decode cX12_climbOf 39 = .ok (.aload_n 0, 1) := by decide +kernel
theorem dX12_climbOf_40 : decode cX12_climbOf 40 = .ok (.getfield 37, 3) := by decide +kernel
theorem dX12_climbOf_43 : decode cX12_climbOf 43 = .ok (.iconst 4, 1) := by decide +kernel
theorem dX12_climbOf_44 : decode cX12_climbOf 44 = .ok (.iload_n 1, 1) := by decide +kernel
theorem dX12_climbOf_45 : decode cX12_climbOf 45 = .ok (.imul, 1) := by decide +kernel
theorem dX12_climbOf_46 : decode cX12_climbOf 46 = .ok (.iaload, 1) := by decide +kernel
theorem dX12_climbOf_47 : decode cX12_climbOf 47 = .ok (.aload_n 0, 1) := by decide +kernel
theorem dX12_climbOf_48 : decode cX12_climbOf 48 = .ok (.getfield 37, 3) := by decide +kernel
theorem dX12_climbOf_51 : decode cX12_climbOf 51 = .ok (.iconst 4, 1) := by decide +kernel
theorem dX12_climbOf_52 : decode cX12_climbOf 52 = .ok (.iload_n 1, 1) := by decide +kernel
theorem dX12_climbOf_53 : decode cX12_climbOf 53 = .ok (.imul, 1) := by decide +kernel
theorem dX12_climbOf_54 : decode cX12_climbOf 54 = .ok (.iconst 1, 1) := by decide +kernel
theorem dX12_climbOf_55 : decode cX12_climbOf 55 = .ok (.iadd, 1) := by decide +kernel
theorem dX12_climbOf_56 : decode cX12_climbOf 56 = .ok (.iaload, 1) := by decide +kernel
theorem dX12_climbOf_57 : decode cX12_climbOf 57 = .ok (.aload_n 0, 1) := by decide +kernel
theorem dX12_climbOf_58 : decode cX12_climbOf 58 = .ok (.getfield 37, 3) := by decide +kernel
theorem dX12_climbOf_61 : decode cX12_climbOf 61 = .ok (.iconst 4, 1) := by decide +kernel
theorem dX12_climbOf_62 : decode cX12_climbOf 62 = .ok (.iload_n 1, 1) := by decide +kernel
theorem dX12_climbOf_63 : decode cX12_climbOf 63 = .ok (.imul, 1) := by decide +kernel
theorem dX12_climbOf_64 : decode cX12_climbOf 64 = .ok (.iconst 2, 1) := by decide +kernel
theorem dX12_climbOf_65 : decode cX12_climbOf 65 = .ok (.iadd, 1) := by decide +kernel
theorem dX12_climbOf_66 : decode cX12_climbOf 66 = .ok (.iaload, 1) := by decide +kernel
theorem dX12_climbOf_67 : decode cX12_climbOf 67 = .ok (.iload 6, 2) := by decide +kernel
theorem dX12_climbOf_69 : decode cX12_climbOf 69 = .ok (.iload 7, 2) := by decide +kernel
theorem dX12_climbOf_71 : decode cX12_climbOf 71 = .ok (.iload 5, 2) := by decide +kernel
theorem dX12_climbOf_73 : decode cX12_climbOf 73 = .ok (.bipush 9, 2) := by decide +kernel
theorem dX12_climbOf_75 : decode cX12_climbOf 75 = .ok (.irem, 1) := by decide +kernel
theorem dX12_climbOf_76 : decode cX12_climbOf 76 = .ok (.iconst 1, 1) := by decide +kernel
theorem dX12_climbOf_77 : decode cX12_climbOf 77 = .ok (.iadd, 1) := by decide +kernel
theorem dX12_climbOf_78 : decode cX12_climbOf 78 = .ok (.invokevirtual 202, 3) := by decide +kernel
theorem dX12_climbOf_81 : decode cX12_climbOf 81 = .ok (.aload_n 0, 1) := by decide +kernel
theorem dX12_climbOf_82 : decode cX12_climbOf 82 = .ok (.getfield 193, 3) := by decide +kernel
theorem dX12_climbOf_85 : decode cX12_climbOf 85 = .ok (.iload_n 3, 1) := by decide +kernel
theorem dX12_climbOf_86 : decode cX12_climbOf 86 = .ok (.if_icmp .le 8, 3) := by decide +kernel
theorem dX12_climbOf_89 : decode cX12_climbOf 89 = .ok (.iload 5, 2) := by decide +kernel
theorem dX12_climbOf_91 : decode cX12_climbOf 91 = .ok (.goto 5, 3) := by decide +kernel
theorem dX12_climbOf_94 : decode cX12_climbOf 94 = .ok (.iload 4, 2) := by decide +kernel
theorem dX12_climbOf_96 : decode cX12_climbOf 96 = .ok (.istore 4, 2) := by decide +kernel
theorem dX12_climbOf_98 : decode cX12_climbOf 98 = .ok (.aload_n 0, 1) := by decide +kernel
theorem dX12_climbOf_99 : decode cX12_climbOf 99 = .ok (.getfield 193, 3) := by decide +kernel
theorem dX12_climbOf_102 : decode cX12_climbOf 102 = .ok (.iload_n 3, 1) := by decide +kernel
theorem dX12_climbOf_103 : decode cX12_climbOf 103 = .ok (.if_icmp .le 10, 3) := by decide +kernel
theorem dX12_climbOf_106 : decode cX12_climbOf 106 = .ok (.aload_n 0, 1) := by decide +kernel
theorem dX12_climbOf_107 : decode cX12_climbOf 107 = .ok (.getfield 193, 3) := by decide +kernel
theorem dX12_climbOf_110 : decode cX12_climbOf 110 = .ok (.goto 4, 3) := by decide +kernel
theorem dX12_climbOf_113 : decode cX12_climbOf 113 = .ok (.iload_n 3, 1) := by decide +kernel
theorem dX12_climbOf_114 : decode cX12_climbOf 114 = .ok (.istore_n 3, 1) := by decide +kernel
theorem dX12_climbOf_115 : decode cX12_climbOf 115 = .ok (.iinc 5 1, 3) := by decide +kernel
theorem dX12_climbOf_118 : decode cX12_climbOf 118 = .ok (.goto (-110), 3) := by decide +kernel
theorem dX12_climbOf_121 : decode cX12_climbOf 121 = .ok (.iload_n 2, 1) := by decide +kernel
theorem dX12_climbOf_122 : decode cX12_climbOf 122 = .ok (.iconst (-1), 1) := by decide +kernel
theorem dX12_climbOf_123 : decode cX12_climbOf 123 = .ok (.if_icmp .ne 7, 3) := by decide +kernel
theorem dX12_climbOf_126 : decode cX12_climbOf 126 = .ok (.iload_n 3, 1) := by decide +kernel
theorem dX12_climbOf_127 : decode cX12_climbOf 127 = .ok (.goto 43, 3) := by decide +kernel
theorem dX12_climbOf_130 : decode cX12_climbOf 130 = .ok (.iload_n 2, 1) := by decide +kernel
theorem dX12_climbOf_131 : decode cX12_climbOf 131 = .ok (.ifCond .ne 14, 3) := by decide +kernel
theorem dX12_climbOf_134 : decode cX12_climbOf 134 = .ok (.iload 4, 2) := by decide +kernel
theorem dX12_climbOf_136 : decode cX12_climbOf 136 = .ok (.sipush 207, 3) := by decide +kernel
theorem dX12_climbOf_139 : decode cX12_climbOf 139 = .ok (.idiv, 1) := by decide +kernel
theorem dX12_climbOf_140 : decode cX12_climbOf 140 = .ok (.iconst 1, 1) := by decide +kernel
theorem dX12_climbOf_141 : decode cX12_climbOf 141 = .ok (.iadd, 1) := by decide +kernel
theorem dX12_climbOf_142 : decode cX12_climbOf 142 = .ok (.goto 28, 3) := by decide +kernel
theorem dX12_climbOf_145 : decode cX12_climbOf 145 = .ok (.iload_n 2, 1) := by decide +kernel
theorem dX12_climbOf_146 : decode cX12_climbOf 146 = .ok (.iconst 1, 1) := by decide +kernel
theorem dX12_climbOf_147 : decode cX12_climbOf 147 = .ok (.if_icmp .ne 16, 3) := by decide +kernel
theorem dX12_climbOf_150 : decode cX12_climbOf 150 = .ok (.iload 4, 2) := by decide +kernel
theorem dX12_climbOf_152 : decode cX12_climbOf 152 = .ok (.bipush 9, 2) := by decide +kernel
theorem dX12_climbOf_154 : decode cX12_climbOf 154 = .ok (.idiv, 1) := by decide +kernel
theorem dX12_climbOf_155 : decode cX12_climbOf 155 = .ok (.bipush 23, 2) := by decide +kernel
theorem dX12_climbOf_157 : decode cX12_climbOf 157 = .ok (.irem, 1) := by decide +kernel
theorem dX12_climbOf_158 : decode cX12_climbOf 158 = .ok (.iconst 1, 1) := by decide +kernel
theorem dX12_climbOf_159 : decode cX12_climbOf 159 = .ok (.iadd, 1) := by decide +kernel
theorem dX12_climbOf_160 : decode cX12_climbOf 160 = .ok (.goto 10, 3) := by decide +kernel
theorem dX12_climbOf_163 : decode cX12_climbOf 163 = .ok (.iload 4, 2) := by decide +kernel
theorem dX12_climbOf_165 : decode cX12_climbOf 165 = .ok (.bipush 9, 2) := by decide +kernel
theorem dX12_climbOf_167 : decode cX12_climbOf 167 = .ok (.irem, 1) := by decide +kernel
theorem dX12_climbOf_168 : decode cX12_climbOf 168 = .ok (.iconst 1, 1) := by decide +kernel
theorem dX12_climbOf_169 : decode cX12_climbOf 169 = .ok (.iadd, 1) := by decide +kernel
theorem dX12_climbOf_170 : decode cX12_climbOf 170 = .ok (.ireturn, 1) := by decide +kernel
theorem dX12_climb_0 : decode cX12_climb 0 = .ok (.aload_n 0, 1) := by decide +kernel
theorem dX12_climb_1 : decode cX12_climb 1 = .ok (.invokevirtual 141, 3) := by decide +kernel
theorem dX12_climb_4 : decode cX12_climb 4 = .ok (.aload_n 0, 1) := by decide +kernel
theorem dX12_climb_5 : decode cX12_climb 5 = .ok (.iload_n 1, 1) := by decide +kernel
theorem dX12_climb_6 : decode cX12_climb 6 = .ok (.invokevirtual 212, 3) := by decide +kernel
theorem dX12_climb_9 : decode cX12_climb 9 = .ok (.ifCond .eq 26, 3) := by decide +kernel
theorem dX12_climb_12 : decode cX12_climb 12 = .ok (.iload_n 2, 1) := by decide +kernel
theorem dX12_climb_13 : decode cX12_climb 13 = .ok (.i2l, 1) := by decide +kernel
theorem dX12_climb_14 : decode cX12_climb 14 = .ok (.ldc2_w 224, 3) := by decide +kernel
theorem dX12_climb_17 : decode cX12_climb 17 = .ok (.ldc2_w 78, 3) := by decide +kernel
theorem dX12_climb_20 : decode cX12_climb 20 = .ok (.invokestatic 65, 3) := by decide +kernel
theorem dX12_climb_23 : decode cX12_climb 23 = .ok (.ifCond .eq 12, 3) := by decide +kernel
theorem dX12_climb_26 : decode cX12_climb 26 = .ok (.aload_n 0, 1) := by decide +kernel
theorem dX12_climb_27 : decode cX12_climb 27 = .ok (.iload_n 1, 1) := by decide +kernel
theorem dX12_climb_28 : decode cX12_climb 28 = .ok (.iload_n 2, 1) := by decide +kernel
theorem dX12_climb_29 : decode cX12_climb 29 = .ok (.invokevirtual 226, 3) := by decide +kernel
theorem dX12_climb_32 : decode cX12_climb 32 = .ok (.goto 5, 3) := by decide +kernel
theorem dX12_climb_35 : decode cX12_climb 35 = .ok (.bipush (-2), 2) := by decide +kernel
theorem dX12_climb_37 : decode cX12_climb 37 = .ok (.ireturn, 1) := by decide +kernel
theorem dX12_practiceOf_0 : decode cX12_practiceOf 0 = .ok (.aload_n 0, 1) := by decide +kernel
theorem dX12_practiceOf_1 : decode cX12_practiceOf 1 = .ok (.getfield 167, 3) := by decide +kernel
theorem dX12_practiceOf_4 : decode cX12_practiceOf 4 = .ok (.istore_n 3, 1) := by decide +kernel
theorem dX12_practiceOf_5 : decode cX12_practiceOf 5 = .ok (.iconst (-1), 1) := by decide +kernel
theorem dX12_practiceOf_6 : decode cX12_practiceOf 6 = .ok (.istore 4, 2) := by decide +kernel
theorem dX12_practiceOf_8 : decode cX12_practiceOf 8 = .ok (.iconst 0, 1) := by decide +kernel
theorem dX12_practiceOf_9 : decode cX12_practiceOf 9 = .ok (.istore 5, 2) := by decide +kernel
theorem dX12_practiceOf_11 : decode cX12_practiceOf 11 = .ok (.iload 5, 2) := by decide +kernel
theorem dX12_practiceOf_13 : decode cX12_practiceOf 13 = .ok (.bipush 64, 2) := by decide +kernel
theorem dX12_practiceOf_15 : decode cX12_practiceOf 15 = .ok (.if_icmp .ge 55, 3) := by decide +kernel
theorem dX12_practiceOf_18 : decode cX12_practiceOf 18 = .ok (.aload_n 0, 1) := by decide +kernel
theorem dX12_practiceOf_19 : decode cX12_practiceOf 19 = .ok (.iload 5, 2) := by decide +kernel
theorem dX12_practiceOf_21 : decode cX12_practiceOf 21 = .ok (.putfield 167, 3) := by decide +kernel
theorem dX12_practiceOf_24 : decode cX12_practiceOf 24 = .ok (.aload_n 0, 1) := by decide +kernel
theorem dX12_practiceOf_25 : decode cX12_practiceOf 25 = .ok (.iload_n 1, 1) := by decide +kernel
theorem dX12_practiceOf_26 : decode cX12_practiceOf 26 = .ok (.invokevirtual 206, 3) := by decide +kernel
theorem dX12_practiceOf_29 : decode cX12_practiceOf 29 = .ok (.aload_n 0, 1) := by decide +kernel
theorem dX12_practiceOf_30 : decode cX12_practiceOf 30 = .ok (.getfield 196, 3) := by decide +kernel
theorem dX12_practiceOf_33 : decode cX12_practiceOf 33 = .ok (.ifCond .ne 27, 3) := by decide +kernel
theorem dX12_practiceOf_36 : decode cX12_practiceOf 36 = .ok (.iload 4, 2) := by decide +kernel
theorem dX12_practiceOf_38 : decode cX12_practiceOf 38 = .ok (.iconst (-1), 1) := by decide +kernel
theorem dX12_practiceOf_39 : decode cX12_practiceOf 39 = .ok (.if_icmp .eq 16, 3) := by decide +kernel
theorem dX12_practiceOf_42 : decode cX12_practiceOf 42 = .ok (.iload 5, 2) := by decide +kernel
theorem dX12_practiceOf_44 : decode cX12_practiceOf 44 = .ok (.invokestatic 229, 3) := by decide +kernel
theorem dX12_practiceOf_47 : decode cX12_practiceOf 47 = .ok (.iload 4, 2) := by decide +kernel
theorem dX12_practiceOf_49 : decode cX12_practiceOf 49 = .ok (.invokestatic 229, 3) := by decide +kernel
theorem dX12_practiceOf_52 : decode cX12_practiceOf 52 = .ok (.if_icmp .ge 8, 3) := by decide +kernel
theorem dX12_practiceOf_55 : decode cX12_practiceOf 55 = .ok (.iload 5, 2) := by decide +kernel
theorem dX12_practiceOf_57 : decode cX12_practiceOf 57 = .ok (.goto 5, 3) := by decide +kernel
theorem dX12_practiceOf_60 : decode cX12_practiceOf 60 = .ok (.iload 4, 2) := by decide +kernel
theorem dX12_practiceOf_62 : decode cX12_practiceOf 62 = .ok (.istore 4, 2) := by decide +kernel
theorem dX12_practiceOf_64 : decode cX12_practiceOf 64 = .ok (.iinc 5 1, 3) := by decide +kernel
theorem dX12_practiceOf_67 : decode cX12_practiceOf 67 = .ok (.goto (-56), 3) := by decide +kernel
theorem dX12_practiceOf_70 : decode cX12_practiceOf 70 = .ok (.aload_n 0, 1) := by decide +kernel
theorem dX12_practiceOf_71 : decode cX12_practiceOf 71 = .ok (.iload_n 3, 1) := by decide +kernel
theorem dX12_practiceOf_72 : decode cX12_practiceOf 72 = .ok (.putfield 167, 3) := by decide +kernel
theorem dX12_practiceOf_75 : decode cX12_practiceOf 75 = .ok (.iload 4, 2) := by decide +kernel
theorem dX12_practiceOf_77 : decode cX12_practiceOf 77 = .ok (.iconst (-1), 1) := by decide +kernel
theorem dX12_practiceOf_78 : decode cX12_practiceOf 78 = .ok (.if_icmp .eq 8, 3) := by decide +kernel
theorem dX12_practiceOf_81 : decode cX12_practiceOf 81 = .ok (.iload_n 2, 1) := by decide +kernel
theorem dX12_practiceOf_82 : decode cX12_practiceOf 82 = .ok (.iconst 1, 1) := by decide +kernel
theorem dX12_practiceOf_83 : decode cX12_practiceOf 83 = .ok (.if_icmp .ne 8, 3) := by decide +kernel
theorem dX12_practiceOf_86 : decode cX12_practiceOf 86 = .ok (.iload 4, 2) := by decide +kernel
theorem dX12_practiceOf_88 : decode cX12_practiceOf 88 = .ok (.goto 8, 3) := by decide +kernel
theorem dX12_practiceOf_91 : decode cX12_practiceOf 91 = .ok (.iload 4, 2) := by decide +kernel
theorem dX12_practiceOf_93 : decode cX12_practiceOf 93 = .ok (.invokestatic 229, 3) := by decide +kernel
theorem dX12_practiceOf_96 : decode cX12_practiceOf 96 = .ok (.ireturn, 1) := by decide +kernel
theorem dX12_practice_0 : decode cX12_practice 0 = .ok (.aload_n 0, 1) := by decide +kernel
theorem dX12_practice_1 : decode cX12_practice 1 = .ok (.invokevirtual 141, 3) := by decide +kernel
theorem dX12_practice_4 : decode cX12_practice 4 = .ok (.aload_n 0, 1) := by decide +kernel
theorem dX12_practice_5 : decode cX12_practice 5 = .ok (.iload_n 1, 1) := by decide +kernel
theorem dX12_practice_6 : decode cX12_practice 6 = .ok (.invokevirtual 212, 3) := by decide +kernel
theorem dX12_practice_9 : decode cX12_practice 9 = .ok (.ifCond .eq 19, 3) := by decide +kernel
theorem dX12_practice_12 : decode cX12_practice 12 = .ok (.iload_n 2, 1) := by decide +kernel
theorem dX12_practice_13 : decode cX12_practice 13 = .ok (.invokestatic 152, 3) := by decide +kernel
theorem dX12_practice_16 : decode cX12_practice 16 = .ok (.ifCond .eq 12, 3) := by decide +kernel
theorem dX12_practice_19 : decode cX12_practice 19 = .ok (.aload_n 0, 1) := by decide +kernel
theorem dX12_practice_20 : decode cX12_practice 20 = .ok (.iload_n 1, 1) := by decide +kernel
theorem dX12_practice_21 : decode cX12_practice 21 = .ok (.iload_n 2, 1) := by decide +kernel
theorem dX12_practice_22 : decode cX12_practice 22 = .ok (.invokevirtual 232, 3) := by decide +kernel
theorem dX12_practice_25 : decode cX12_practice 25 = .ok (.goto 5, 3) := by decide +kernel
theorem dX12_practice_28 : decode cX12_practice 28 = .ok (.bipush (-2), 2) := by decide +kernel
theorem dX12_practice_30 : decode cX12_practice 30 = .ok (.ireturn, 1) := by decide +kernel
theorem dX12_pairOf_0 : decode cX12_pairOf 0 = .ok (.iconst (-1), 1) := by decide +kernel
theorem dX12_pairOf_1 : decode cX12_pairOf 1 = .ok (.istore_n 3, 1) := by decide +kernel
theorem dX12_pairOf_2 : decode cX12_pairOf 2 = .ok (.iconst (-1), 1) := by decide +kernel
theorem dX12_pairOf_3 : decode cX12_pairOf 3 = .ok (.istore 4, 2) := by decide +kernel
theorem dX12_pairOf_5 : decode cX12_pairOf 5 = .ok (.iconst 0, 1) := by decide +kernel
theorem dX12_pairOf_6 : decode cX12_pairOf 6 = .ok (.istore 5, 2) := by decide +kernel
theorem dX12_pairOf_8 : decode cX12_pairOf 8 = .ok (.iload 5, 2) := by decide +kernel
theorem dX12_pairOf_10 : decode cX12_pairOf 10 = .ok (.bipush 64, 2) := by decide +kernel
theorem dX12_pairOf_12 : decode cX12_pairOf 12 = .ok (.if_icmp .ge 113, 3) := by decide +kernel
theorem dX12_pairOf_15 : decode cX12_pairOf 15 = .ok (.iload 5, 2) := by decide +kernel
theorem dX12_pairOf_17 : decode cX12_pairOf 17 = .ok (.bipush 8, 2) := by decide +kernel
theorem dX12_pairOf_19 : decode cX12_pairOf 19 = .ok (.idiv, 1) := by decide +kernel
theorem dX12_pairOf_20 : decode cX12_pairOf 20 = .ok (.istore 6, 2) := by decide +kernel
theorem dX12_pairOf_22 : decode cX12_pairOf 22 = .ok (.iload 5, 2) := by decide +kernel
theorem dX12_pairOf_24 : decode cX12_pairOf 24 = .ok (.bipush 8, 2) := by decide +kernel
theorem dX12_pairOf_26 : decode cX12_pairOf 26 = .ok (.irem, 1) := by decide +kernel
theorem dX12_pairOf_27 : decode cX12_pairOf 27 = .ok (.istore 7, 2) := by decide +kernel
theorem dX12_pairOf_29 : decode cX12_pairOf 29 = .ok (.iload 6, 2) := by decide +kernel
theorem dX12_pairOf_31 : decode cX12_pairOf 31 = .ok (.iload 7, 2) := by decide +kernel
theorem dX12_pairOf_33 : decode cX12_pairOf 33 = .ok (.if_icmp .eq 86, 3) := by decide +kernel
theorem dX12_pairOf_36 : decode cX12_pairOf 36 = .ok (.iload 6, 2) := by decide +kernel
theorem dX12_pairOf_38 : decode cX12_pairOf 38 = .ok (.aload_n 0, 1) := by decide +kernel
theorem dX12_pairOf_39 : decode cX12_pairOf 39 = .ok (.getfield 122, 3) := by decide +kernel
theorem dX12_pairOf_42 : decode cX12_pairOf 42 = .ok (.if_icmp .ge 77, 3) := by decide +kernel
theorem dX12_pairOf_45 : decode cX12_pairOf 45 = .ok (.iload 7, 2) := by decide +kernel
theorem dX12_pairOf_47 : decode cX12_pairOf 47 = .ok (.aload_n 0, 1) := by decide +kernel
theorem dX12_pairOf_48 : decode cX12_pairOf 48 = .ok (.getfield 122, 3) := by decide +kernel
theorem dX12_pairOf_51 : decode cX12_pairOf 51 = .ok (.if_icmp .ge 68, 3) := by decide +kernel
theorem dX12_pairOf_54 : decode cX12_pairOf 54 = .ok (.aload_n 0, 1) := by decide +kernel
theorem dX12_pairOf_55 : decode cX12_pairOf 55 = .ok (.aload_n 0, 1) := by decide +kernel
theorem dX12_pairOf_56 : decode cX12_pairOf 56 = .ok (.getfield 37, 3) := by decide +kernel
theorem dX12_pairOf_59 : decode cX12_pairOf 59 = .ok (.iconst 4, 1) := by decide +kernel
theorem dX12_pairOf_60 : decode cX12_pairOf 60 = .ok (.iload_n 1, 1) := by decide +kernel
theorem dX12_pairOf_61 : decode cX12_pairOf 61 = .ok (.imul, 1) := by decide +kernel
theorem dX12_pairOf_62 : decode cX12_pairOf 62 = .ok (.iaload, 1) := by decide +kernel
theorem dX12_pairOf_63 : decode cX12_pairOf 63 = .ok (.iload 6, 2) := by decide +kernel
theorem dX12_pairOf_65 : decode cX12_pairOf 65 = .ok (.iload 7, 2) := by decide +kernel
theorem dX12_pairOf_67 : decode cX12_pairOf 67 = .ok (.aload_n 0, 1) := by decide +kernel
theorem dX12_pairOf_68 : decode cX12_pairOf 68 = .ok (.getfield 37, 3) := by decide +kernel
theorem dX12_pairOf_71 : decode cX12_pairOf 71 = .ok (.iconst 4, 1) := by decide +kernel
theorem dX12_pairOf_72 : decode cX12_pairOf 72 = .ok (.iload_n 1, 1) := by decide +kernel
theorem dX12_pairOf_73 : decode cX12_pairOf 73 = .ok (.imul, 1) := by decide +kernel
theorem dX12_pairOf_74 : decode cX12_pairOf 74 = .ok (.iconst 3, 1) := by decide +kernel
theorem dX12_pairOf_75 : decode cX12_pairOf 75 = .ok (.iadd, 1) := by decide +kernel
theorem dX12_pairOf_76 : decode cX12_pairOf 76 = .ok (.iaload, 1) := by decide +kernel
theorem dX12_pairOf_77 : decode cX12_pairOf 77 = .ok (.bipush 24, 2) := by decide +kernel
theorem dX12_pairOf_79 : decode cX12_pairOf 79 = .ok (.iconst 0, 1) := by decide +kernel
theorem dX12_pairOf_80 : decode cX12_pairOf 80 = .ok (.invokevirtual 202, 3) := by decide +kernel
theorem dX12_pairOf_83 : decode cX12_pairOf 83 = .ok (.aload_n 0, 1) := by decide +kernel
theorem dX12_pairOf_84 : decode cX12_pairOf 84 = .ok (.getfield 193, 3) := by decide +kernel
theorem dX12_pairOf_87 : decode cX12_pairOf 87 = .ok (.iload 4, 2) := by decide +kernel
theorem dX12_pairOf_89 : decode cX12_pairOf 89 = .ok (.if_icmp .le 8, 3) := by decide +kernel
theorem dX12_pairOf_92 : decode cX12_pairOf 92 = .ok (.iload 5, 2) := by decide +kernel
theorem dX12_pairOf_94 : decode cX12_pairOf 94 = .ok (.goto 4, 3) := by decide +kernel
theorem dX12_pairOf_97 : decode cX12_pairOf 97 = .ok (.iload_n 3, 1) := by decide +kernel
theorem dX12_pairOf_98 : decode cX12_pairOf 98 = .ok (.istore_n 3, 1) := by decide +kernel
theorem dX12_pairOf_99 : decode cX12_pairOf 99 = .ok (.aload_n 0, 1) := by decide +kernel
theorem dX12_pairOf_100 : decode cX12_pairOf 100 = .ok (.getfield 193, 3) := by decide +kernel
theorem dX12_pairOf_103 : decode cX12_pairOf 103 = .ok (.iload 4, 2) := by decide +kernel
theorem dX12_pairOf_105 : decode cX12_pairOf 105 = .ok (.if_icmp .le 10, 3) := by decide +kernel
theorem dX12_pairOf_108 : decode cX12_pairOf 108 = .ok (.aload_n 0, 1) := by decide +kernel
theorem dX12_pairOf_109 : decode cX12_pairOf 109 = .ok (.getfield 193, 3) := by decide +kernel
theorem dX12_pairOf_112 : decode cX12_pairOf 112 = .ok (.goto 5, 3) := by decide +kernel
theorem dX12_pairOf_115 : decode cX12_pairOf 115 = .ok (.iload 4, 2) := by decide +kernel
theorem dX12_pairOf_117 : decode cX12_pairOf 117 = .ok (.istore 4, 2) := by decide +kernel
theorem dX12_pairOf_119 : decode cX12_pairOf 119 = .ok (.iinc 5 1, 3) := by decide +kernel
theorem dX12_pairOf_122 : decode cX12_pairOf 122 = .ok (.goto (-114), 3) := by decide +kernel
theorem dX12_pairOf_125 : decode cX12_pairOf 125 = .ok (.iload_n 2, 1) := by decide +kernel
theorem dX12_pairOf_126 : decode cX12_pairOf 126 = .ok (.ifCond .ne 7, 3) := by decide +kernel
theorem dX12_pairOf_129 : decode cX12_pairOf 129 = .ok (.iload_n 3, 1) := by decide +kernel
theorem dX12_pairOf_130 : decode cX12_pairOf 130 = .ok (.goto 5, 3) := by decide +kernel
theorem dX12_pairOf_133 : decode cX12_pairOf 133 = .ok (.iload 4, 2) := by decide +kernel
theorem dX12_pairOf_135 : decode cX12_pairOf 135 = .ok (.ireturn, 1) := by decide +kernel
theorem dX12_pair_0 : decode cX12_pair 0 = .ok (.aload_n 0, 1) := by decide +kernel
theorem dX12_pair_1 : decode cX12_pair 1 = .ok (.invokevirtual 141, 3) := by decide +kernel
theorem dX12_pair_4 : decode cX12_pair 4 = .ok (.aload_n 0, 1) := by decide +kernel
theorem dX12_pair_5 : decode cX12_pair 5 = .ok (.iload_n 1, 1) := by decide +kernel
theorem dX12_pair_6 : decode cX12_pair 6 = .ok (.invokevirtual 212, 3) := by decide +kernel
theorem dX12_pair_9 : decode cX12_pair 9 = .ok (.ifCond .eq 19, 3) := by decide +kernel
theorem dX12_pair_12 : decode cX12_pair 12 = .ok (.iload_n 2, 1) := by decide +kernel
theorem dX12_pair_13 : decode cX12_pair 13 = .ok (.invokestatic 152, 3) := by decide +kernel
theorem dX12_pair_16 : decode cX12_pair 16 = .ok (.ifCond .eq 12, 3) := by decide +kernel
theorem dX12_pair_19 : decode cX12_pair 19 = .ok (.aload_n 0, 1) := by decide +kernel
theorem dX12_pair_20 : decode cX12_pair 20 = .ok (.iload_n 1, 1) := by decide +kernel
theorem dX12_pair_21 : decode cX12_pair 21 = .ok (.iload_n 2, 1) := by decide +kernel
theorem dX12_pair_22 : decode cX12_pair 22 = .ok (.invokevirtual 235, 3) := by decide +kernel
theorem dX12_pair_25 : decode cX12_pair 25 = .ok (.goto 5, 3) := by decide +kernel
theorem dX12_pair_28 : decode cX12_pair 28 = .ok (.bipush (-2), 2) := by decide +kernel
theorem dX12_pair_30 : decode cX12_pair 30 = .ok (.ireturn, 1) := by decide +kernel
theorem dX12_seen_0 : decode cX12_seen 0 = .ok (.iload_n 1, 1) := by decide +kernel
theorem dX12_seen_1 : decode cX12_seen 1 = .ok (.i2l, 1) := by decide +kernel
theorem dX12_seen_2 : decode cX12_seen 2 = .ok (.lconst 0, 1) := by decide +kernel
theorem dX12_seen_3 : decode cX12_seen 3 = .ok (.ldc2_w 155, 3) := by decide +kernel
theorem dX12_seen_6 : decode cX12_seen 6 = .ok (.invokestatic 65, 3) := by decide +kernel
theorem dX12_seen_9 : decode cX12_seen 9 = .ok (.ifCond .eq 15, 3) := by decide +kernel
theorem dX12_seen_12 : decode cX12_seen 12 = .ok (.iload_n 2, 1) := by decide +kernel
theorem dX12_seen_13 : decode cX12_seen 13 = .ok (.i2l, 1) := by decide +kernel
theorem dX12_seen_14 : decode cX12_seen 14 = .ok (.lconst 0, 1) := by decide +kernel
theorem dX12_seen_15 : decode cX12_seen 15 = .ok (.ldc2_w 238, 3) := by decide +kernel
theorem dX12_seen_18 : decode cX12_seen 18 = .ok (.invokestatic 65, 3) := by decide +kernel
theorem dX12_seen_21 : decode cX12_seen 21 = .ok (.ifCond .ne 6, 3) := by decide +kernel
theorem dX12_seen_24 : decode cX12_seen 24 = .ok (.bipush (-2), 2) := by decide +kernel
theorem dX12_seen_26 : decode cX12_seen 26 = .ok (.ireturn, 1) := by decide +kernel
theorem dX12_seen_27 : decode cX12_seen 27 = .ok (.aload_n 0, 1) := by decide +kernel
theorem dX12_seen_28 : decode cX12_seen 28 = .ok (.getfield 240, 3) := by decide +kernel
theorem dX12_seen_31 : decode cX12_seen 31 = .ok (.bipush 8, 2) := by decide +kernel
theorem dX12_seen_33 : decode cX12_seen 33 = .ok (.if_icmp .ne 6, 3) := by decide +kernel
theorem dX12_seen_36 : decode cX12_seen 36 = .ok (.bipush (-4), 2) := by decide +kernel
theorem dX12_seen_38 : decode cX12_seen 38 = .ok (.ireturn, 1) := by decide +kernel
theorem dX12_seen_39 : decode cX12_seen 39 = .ok (.aload_n 0, 1) := by decide +kernel
theorem dX12_seen_40 : decode cX12_seen 40 = .ok (.getfield 52, 3) := by decide +kernel
theorem dX12_seen_43 : decode cX12_seen 43 = .ok (.iconst 2, 1) := by decide +kernel
theorem dX12_seen_44 : decode cX12_seen 44 = .ok (.aload_n 0, 1) := by decide +kernel
theorem dX12_seen_45 : decode cX12_seen 45 = .ok (.getfield 240, 3) := by decide +kernel
theorem dX12_seen_48 : decode cX12_seen 48 = .ok (.imul, 1) := by decide +kernel
theorem dX12_seen_49 : decode cX12_seen 49 = .ok (.iload_n 1, 1) := by decide +kernel
theorem dX12_seen_50 : decode cX12_seen 50 = .ok (.iastore, 1) := by decide +kernel
theorem dX12_seen_51 : decode cX12_seen 51 = .ok (.aload_n 0, 1) := by decide +kernel
theorem dX12_seen_52 : decode cX12_seen 52 = .ok (.getfield 52, 3) := by decide +kernel
theorem dX12_seen_55 : decode cX12_seen 55 = .ok (.iconst 2, 1) := by decide +kernel
theorem dX12_seen_56 : decode cX12_seen 56 = .ok (.aload_n 0, 1) := by decide +kernel
theorem dX12_seen_57 : decode cX12_seen 57 = .ok (.getfield 240, 3) := by decide +kernel
theorem dX12_seen_60 : decode cX12_seen 60 = .ok (.imul, 1) := by decide +kernel
theorem dX12_seen_61 : decode cX12_seen 61 = .ok (.iconst 1, 1) := by decide +kernel
theorem dX12_seen_62 : decode cX12_seen 62 = .ok (.iadd, 1) := by decide +kernel
theorem dX12_seen_63 : decode cX12_seen 63 = .ok (.iload_n 2, 1) := by decide +kernel
theorem dX12_seen_64 : decode cX12_seen 64 = .ok (.iastore, 1) := by decide +kernel
theorem dX12_seen_65 : decode cX12_seen 65 = .ok (.aload_n 0, 1) := by decide +kernel
theorem dX12_seen_66 : decode cX12_seen 66 = .ok (.dup, 1) := by decide +kernel
theorem dX12_seen_67 : decode cX12_seen 67 = .ok (.getfield 240, 3) := by decide +kernel
theorem dX12_seen_70 : decode cX12_seen 70 = .ok (.iconst 1, 1) := by decide +kernel
theorem dX12_seen_71 : decode cX12_seen 71 = .ok (.iadd, 1) := by decide +kernel
theorem dX12_seen_72 : decode cX12_seen 72 = .ok (.putfield 240, 3) := by decide +kernel
theorem dX12_seen_75 : decode cX12_seen 75 = .ok (.aload_n 0, 1) := by decide +kernel
theorem dX12_seen_76 : decode cX12_seen 76 = .ok (.getfield 240, 3) := by decide +kernel
theorem dX12_seen_79 : decode cX12_seen 79 = .ok (.ireturn, 1) := by decide +kernel
theorem dX12_forget_0 : decode cX12_forget 0 = .ok (.aload_n 0, 1) := by decide +kernel
theorem dX12_forget_1 : decode cX12_forget 1 = .ok (.getfield 240, 3) := by decide +kernel
theorem dX12_forget_4 : decode cX12_forget 4 = .ok (.istore_n 1, 1) := by decide +kernel
theorem dX12_forget_5 : decode cX12_forget 5 = .ok (.aload_n 0, 1) := by decide +kernel
theorem dX12_forget_6 : decode cX12_forget 6 = .ok (.iconst 0, 1) := by decide +kernel
theorem dX12_forget_7 : decode cX12_forget 7 = .ok (.putfield 240, 3) := by decide +kernel
theorem dX12_forget_10 : decode cX12_forget 10 = .ok (.iload_n 1, 1) := by decide +kernel
theorem dX12_forget_11 : decode cX12_forget 11 = .ok (.ireturn, 1) := by decide +kernel
theorem dX12_isSeen_0 : decode cX12_isSeen 0 = .ok (.iconst 1, 1) := by decide +kernel
theorem dX12_isSeen_1 : decode cX12_isSeen 1 = .ok (.istore_n 1, 1) := by decide +kernel
theorem dX12_isSeen_2 : decode cX12_isSeen 2 = .ok (.iconst 0, 1) := by decide +kernel
theorem dX12_isSeen_3 : decode cX12_isSeen 3 = .ok (.istore_n 2, 1) := by decide +kernel
theorem dX12_isSeen_4 : decode cX12_isSeen 4 = .ok (.iload_n 2, 1) := by decide +kernel
theorem dX12_isSeen_5 : decode cX12_isSeen 5 = .ok (.aload_n 0, 1) := by decide +kernel
theorem dX12_isSeen_6 : decode cX12_isSeen 6 = .ok (.getfield 240, 3) := by decide +kernel
theorem dX12_isSeen_9 : decode cX12_isSeen 9 = .ok (.if_icmp .ge 60, 3) := by decide +kernel
theorem dX12_isSeen_12 : decode cX12_isSeen 12 = .ok (.iload_n 1, 1) := by decide +kernel
theorem dX12_isSeen_13 : decode cX12_isSeen 13 = .ok (.ifCond .eq 56, 3) := by decide +kernel
theorem dX12_isSeen_16 : decode cX12_isSeen 16 = .ok (.aload_n 0, 1) := by decide +kernel
theorem dX12_isSeen_17 : decode cX12_isSeen 17 = .ok (.aload_n 0, 1) := by decide +kernel
theorem dX12_isSeen_18 : decode cX12_isSeen 18 = .ok (.getfield 52, 3) := by decide +kernel
theorem dX12_isSeen_21 : decode cX12_isSeen 21 = .ok (.iconst 2, 1) := by decide +kernel
theorem dX12_isSeen_22 : decode cX12_isSeen 22 = .ok (.iload_n 2, 1) := by decide +kernel
theorem dX12_isSeen_23 : decode cX12_isSeen 23 = .ok (.imul, 1) := by decide +kernel
theorem dX12_isSeen_24 : decode cX12_isSeen 24 = .ok (.iaload, 1) := by decide +kernel
theorem dX12_isSeen_25 : decode cX12_isSeen 25 = .ok (.invokevirtual 212, 3) := by decide +kernel
theorem dX12_isSeen_28 : decode cX12_isSeen 28 = .ok (.ifCond .eq 33, 3) := by decide +kernel
theorem dX12_isSeen_31 : decode cX12_isSeen 31 = .ok (.aload_n 0, 1) := by decide +kernel
theorem dX12_isSeen_32 : decode cX12_isSeen 32 = .ok (.aload_n 0, 1) := by decide +kernel
theorem dX12_isSeen_33 : decode cX12_isSeen 33 = .ok (.getfield 52, 3) := by decide +kernel
theorem dX12_isSeen_36 : decode cX12_isSeen 36 = .ok (.iconst 2, 1) := by decide +kernel
theorem dX12_isSeen_37 : decode cX12_isSeen 37 = .ok (.iload_n 2, 1) := by decide +kernel
theorem dX12_isSeen_38 : decode cX12_isSeen 38 = .ok (.imul, 1) := by decide +kernel
theorem dX12_isSeen_39 : decode cX12_isSeen 39 = .ok (.iaload, 1) := by decide +kernel
theorem dX12_isSeen_40 : decode cX12_isSeen 40 = .ok (.iconst 0, 1) := by decide +kernel
theorem dX12_isSeen_41 : decode cX12_isSeen 41 = .ok (.invokevirtual 215, 3) := by decide +kernel
theorem dX12_isSeen_44 : decode cX12_isSeen 44 = .ok (.aload_n 0, 1) := by decide +kernel
theorem dX12_isSeen_45 : decode cX12_isSeen 45 = .ok (.getfield 52, 3) := by decide +kernel
theorem dX12_isSeen_48 : decode cX12_isSeen 48 = .ok (.iconst 2, 1) := by decide +kernel
theorem dX12_isSeen_49 : decode cX12_isSeen 49 = .ok (.iload_n 2, 1) := by decide +kernel
theorem dX12_isSeen_50 : decode cX12_isSeen 50 = .ok (.imul, 1) := by decide +kernel
theorem dX12_isSeen_51 : decode cX12_isSeen 51 = .ok (.iconst 1, 1) := by decide +kernel
theorem dX12_isSeen_52 : decode cX12_isSeen 52 = .ok (.iadd, 1) := by decide +kernel
theorem dX12_isSeen_53 : decode cX12_isSeen 53 = .ok (.iaload, 1) := by decide +kernel
theorem dX12_isSeen_54 : decode cX12_isSeen 54 = .ok (.if_icmp .ne 7, 3) := by decide +kernel
theorem dX12_isSeen_57 : decode cX12_isSeen 57 = .ok (.iconst 1, 1) := by decide +kernel
theorem dX12_isSeen_58 : decode cX12_isSeen 58 = .ok (.goto 4, 3) := by decide +kernel
theorem dX12_isSeen_61 : decode cX12_isSeen 61 = .ok (.iconst 0, 1) := by decide +kernel
theorem dX12_isSeen_62 : decode cX12_isSeen 62 = .ok (.istore_n 1, 1) := by decide +kernel
theorem dX12_isSeen_63 : decode cX12_isSeen 63 = .ok (.iinc 2 1, 3) := by decide +kernel
theorem dX12_isSeen_66 : decode cX12_isSeen 66 = .ok (.goto (-62), 3) := by decide +kernel
theorem dX12_isSeen_69 : decode cX12_isSeen 69 = .ok (.iload_n 1, 1) := by decide +kernel
theorem dX12_isSeen_70 : decode cX12_isSeen 70 = .ok (.ireturn, 1) := by decide +kernel
theorem dX12_soresOf_0 : decode cX12_soresOf 0 = .ok (.aload_n 0, 1) := by decide +kernel
theorem dX12_soresOf_1 : decode cX12_soresOf 1 = .ok (.getfield 31, 3) := by decide +kernel
theorem dX12_soresOf_4 : decode cX12_soresOf 4 = .ok (.iconst 4, 1) := by decide +kernel
theorem dX12_soresOf_5 : decode cX12_soresOf 5 = .ok (.iload_n 1, 1) := by decide +kernel
theorem dX12_soresOf_6 : decode cX12_soresOf 6 = .ok (.imul, 1) := by decide +kernel
theorem dX12_soresOf_7 : decode cX12_soresOf 7 = .ok (.iconst 1, 1) := by decide +kernel
theorem dX12_soresOf_8 : decode cX12_soresOf 8 = .ok (.iadd, 1) := by decide +kernel
theorem dX12_soresOf_9 : decode cX12_soresOf 9 = .ok (.iaload, 1) := by decide +kernel
theorem dX12_soresOf_10 : decode cX12_soresOf 10 = .ok (.istore_n 2, 1) := by decide +kernel
theorem dX12_soresOf_11 : decode cX12_soresOf 11 = .ok (.iconst 0, 1) := by decide +kernel
theorem dX12_soresOf_12 : decode cX12_soresOf 12 = .ok (.istore_n 3, 1) := by decide +kernel
theorem dX12_soresOf_13 : decode cX12_soresOf 13 = .ok (.iconst 0, 1) := by decide +kernel
theorem dX12_soresOf_14 : decode cX12_soresOf 14 = .ok (.istore 4, 2) := by decide +kernel
theorem dX12_soresOf_16 : decode cX12_soresOf 16 = .ok (.iload 4, 2) := by decide +kernel
theorem dX12_soresOf_18 : decode cX12_soresOf 18 = .ok (.bipush 6, 2) := by decide +kernel
theorem dX12_soresOf_20 : decode cX12_soresOf 20 = .ok (.if_icmp .ge 39, 3) := by decide +kernel
theorem dX12_soresOf_23 : decode cX12_soresOf 23 = .ok (.aload_n 0, 1) := by decide +kernel
theorem dX12_soresOf_24 : decode cX12_soresOf 24 = .ok (.getfield 31, 3) := by decide +kernel
theorem dX12_soresOf_27 : decode cX12_soresOf 27 = .ok (.iconst 4, 1) := by decide +kernel
theorem dX12_soresOf_28 : decode cX12_soresOf 28 = .ok (.iload_n 1, 1) := by decide +kernel
theorem dX12_soresOf_29 : decode cX12_soresOf 29 = .ok (.imul, 1) := by decide +kernel
theorem dX12_soresOf_30 : decode cX12_soresOf 30 = .ok (.iconst 1, 1) := by decide +kernel
theorem dX12_soresOf_31 : decode cX12_soresOf 31 = .ok (.iadd, 1) := by decide +kernel
theorem dX12_soresOf_32 : decode cX12_soresOf 32 = .ok (.iload 4, 2) := by decide +kernel
theorem dX12_soresOf_34 : decode cX12_soresOf 34 = .ok (.iastore, 1) := by decide +kernel
theorem dX12_soresOf_35 : decode cX12_soresOf 35 = .ok (.iload_n 3, 1) := by decide +kernel
theorem dX12_soresOf_36 : decode cX12_soresOf 36 = .ok (.aload_n 0, 1) := by decide +kernel
theorem dX12_soresOf_37 : decode cX12_soresOf 37 = .ok (.invokevirtual 243, 3) := by decide +kernel
theorem dX12_soresOf_40 : decode cX12_soresOf 40 = .ok (.ifCond .eq 10, 3) := by decide +kernel
theorem dX12_soresOf_43 : decode cX12_soresOf 43 = .ok (.iconst 1, 1) := by decide +kernel
theorem dX12_soresOf_44 : decode cX12_soresOf 44 = .ok (.iload 4, 2) := by decide +kernel
theorem dX12_soresOf_46 : decode cX12_soresOf 46 = .ok (.ishl, 1) := by decide +kernel
theorem dX12_soresOf_47 : decode cX12_soresOf 47 = .ok (.goto 4, 3) := by decide +kernel
theorem dX12_soresOf_50 : decode cX12_soresOf 50 = .ok (.iconst 0, 1) := by decide +kernel
theorem dX12_soresOf_51 : decode cX12_soresOf 51 = .ok (.ior, 1) := by decide +kernel
theorem dX12_soresOf_52 : decode cX12_soresOf 52 = .ok (.istore_n 3, 1) := by decide +kernel
theorem dX12_soresOf_53 : decode cX12_soresOf 53 = .ok (.iinc 4 1, 3) := by decide +kernel
theorem dX12_soresOf_56 : decode cX12_soresOf 56 = .ok (.goto (-40), 3) := by decide +kernel
theorem dX12_soresOf_59 : decode cX12_soresOf 59 = .ok (.aload_n 0, 1) := by decide +kernel
theorem dX12_soresOf_60 : decode cX12_soresOf 60 = .ok (.getfield 31, 3) := by decide +kernel
theorem dX12_soresOf_63 : decode cX12_soresOf 63 = .ok (.iconst 4, 1) := by decide +kernel
theorem dX12_soresOf_64 : decode cX12_soresOf 64 = .ok (.iload_n 1, 1) := by decide +kernel
theorem dX12_soresOf_65 : decode cX12_soresOf 65 = .ok (.imul, 1) := by decide +kernel
theorem dX12_soresOf_66 : decode cX12_soresOf 66 = .ok (.iconst 1, 1) := by decide +kernel
theorem dX12_soresOf_67 : decode cX12_soresOf 67 = .ok (.iadd, 1) := by decide +kernel
theorem dX12_soresOf_68 : decode cX12_soresOf 68 = .ok (.iload_n 2, 1) := by decide +kernel
theorem dX12_soresOf_69 : decode cX12_soresOf 69 = .ok (.iastore, 1) := by decide +kernel
theorem dX12_soresOf_70 : decode cX12_soresOf 70 = .ok (.iload_n 3, 1) := by decide +kernel
theorem dX12_soresOf_71 : decode cX12_soresOf 71 = .ok (.ireturn, 1) := by decide +kernel
theorem dX12_sores_0 : decode cX12_sores 0 = .ok (.aload_n 0, 1) := by decide +kernel
theorem dX12_sores_1 : decode cX12_sores 1 = .ok (.invokevirtual 141, 3) := by decide +kernel
theorem dX12_sores_4 : decode cX12_sores 4 = .ok (.aload_n 0, 1) := by decide +kernel
theorem dX12_sores_5 : decode cX12_sores 5 = .ok (.iload_n 1, 1) := by decide +kernel
theorem dX12_sores_6 : decode cX12_sores 6 = .ok (.invokevirtual 146, 3) := by decide +kernel
theorem dX12_sores_9 : decode cX12_sores 9 = .ok (.ifCond .eq 11, 3) := by decide +kernel
theorem dX12_sores_12 : decode cX12_sores 12 = .ok (.aload_n 0, 1) := by decide +kernel
theorem dX12_sores_13 : decode cX12_sores 13 = .ok (.iload_n 1, 1) := by decide +kernel
theorem dX12_sores_14 : decode cX12_sores 14 = .ok (.invokevirtual 247, 3) := by decide +kernel
theorem dX12_sores_17 : decode cX12_sores 17 = .ok (.goto 5, 3) := by decide +kernel
theorem dX12_sores_20 : decode cX12_sores 20 = .ok (.bipush (-2), 2) := by decide +kernel
theorem dX12_sores_22 : decode cX12_sores 22 = .ok (.ireturn, 1) := by decide +kernel
theorem dX12_highOf_0 : decode cX12_highOf 0 = .ok (.aload_n 0, 1) := by decide +kernel
theorem dX12_highOf_1 : decode cX12_highOf 1 = .ok (.getfield 37, 3) := by decide +kernel
theorem dX12_highOf_4 : decode cX12_highOf 4 = .ok (.iconst 4, 1) := by decide +kernel
theorem dX12_highOf_5 : decode cX12_highOf 5 = .ok (.iload_n 1, 1) := by decide +kernel
theorem dX12_highOf_6 : decode cX12_highOf 6 = .ok (.imul, 1) := by decide +kernel
theorem dX12_highOf_7 : decode cX12_highOf 7 = .ok (.iconst 3, 1) := by decide +kernel
theorem dX12_highOf_8 : decode cX12_highOf 8 = .ok (.iadd, 1) := by decide +kernel
theorem dX12_highOf_9 : decode cX12_highOf 9 = .ok (.iaload, 1) := by decide +kernel
theorem dX12_highOf_10 : decode cX12_highOf 10 = .ok (.istore_n 2, 1) := by decide +kernel
theorem dX12_highOf_11 : decode cX12_highOf 11 = .ok (.iconst 0, 1) := by decide +kernel
theorem dX12_highOf_12 : decode cX12_highOf 12 = .ok (.istore_n 3, 1) := by decide +kernel
theorem dX12_highOf_13 : decode cX12_highOf 13 = .ok (.iconst 1, 1) := by decide +kernel
theorem dX12_highOf_14 : decode cX12_highOf 14 = .ok (.istore 4, 2) := by decide +kernel
theorem dX12_highOf_16 : decode cX12_highOf 16 = .ok (.iload 4, 2) := by decide +kernel
theorem dX12_highOf_18 : decode cX12_highOf 18 = .ok (.bipush 10, 2) := by decide +kernel
theorem dX12_highOf_20 : decode cX12_highOf 20 = .ok (.if_icmp .ge 39, 3) := by decide +kernel
theorem dX12_highOf_23 : decode cX12_highOf 23 = .ok (.aload_n 0, 1) := by decide +kernel
theorem dX12_highOf_24 : decode cX12_highOf 24 = .ok (.getfield 37, 3) := by decide +kernel
theorem dX12_highOf_27 : decode cX12_highOf 27 = .ok (.iconst 4, 1) := by decide +kernel
theorem dX12_highOf_28 : decode cX12_highOf 28 = .ok (.iload_n 1, 1) := by decide +kernel
theorem dX12_highOf_29 : decode cX12_highOf 29 = .ok (.imul, 1) := by decide +kernel
theorem dX12_highOf_30 : decode cX12_highOf 30 = .ok (.iconst 3, 1) := by decide +kernel
theorem dX12_highOf_31 : decode cX12_highOf 31 = .ok (.iadd, 1) := by decide +kernel
theorem dX12_highOf_32 : decode cX12_highOf 32 = .ok (.iload 4, 2) := by decide +kernel
theorem dX12_highOf_34 : decode cX12_highOf 34 = .ok (.iastore, 1) := by decide +kernel
theorem dX12_highOf_35 : decode cX12_highOf 35 = .ok (.iload_n 3, 1) := by decide +kernel
theorem dX12_highOf_36 : decode cX12_highOf 36 = .ok (.aload_n 0, 1) := by decide +kernel
theorem dX12_highOf_37 : decode cX12_highOf 37 = .ok (.invokevirtual 243, 3) := by decide +kernel
theorem dX12_highOf_40 : decode cX12_highOf 40 = .ok (.ifCond .eq 10, 3) := by decide +kernel
theorem dX12_highOf_43 : decode cX12_highOf 43 = .ok (.iconst 1, 1) := by decide +kernel
theorem dX12_highOf_44 : decode cX12_highOf 44 = .ok (.iload 4, 2) := by decide +kernel
theorem dX12_highOf_46 : decode cX12_highOf 46 = .ok (.ishl, 1) := by decide +kernel
theorem dX12_highOf_47 : decode cX12_highOf 47 = .ok (.goto 4, 3) := by decide +kernel
theorem dX12_highOf_50 : decode cX12_highOf 50 = .ok (.iconst 0, 1) := by decide +kernel
theorem dX12_highOf_51 : decode cX12_highOf 51 = .ok (.ior, 1) := by decide +kernel
theorem dX12_highOf_52 : decode cX12_highOf 52 = .ok (.istore_n 3, 1) := by decide +kernel
theorem dX12_highOf_53 : decode cX12_highOf 53 = .ok (.iinc 4 1, 3) := by decide +kernel
theorem dX12_highOf_56 : decode cX12_highOf 56 = .ok (.goto (-40), 3) := by decide +kernel
theorem dX12_highOf_59 : decode cX12_highOf 59 = .ok (.aload_n 0, 1) := by decide +kernel
theorem dX12_highOf_60 : decode cX12_highOf 60 = .ok (.getfield 37, 3) := by decide +kernel
theorem dX12_highOf_63 : decode cX12_highOf 63 = .ok (.iconst 4, 1) := by decide +kernel
theorem dX12_highOf_64 : decode cX12_highOf 64 = .ok (.iload_n 1, 1) := by decide +kernel
theorem dX12_highOf_65 : decode cX12_highOf 65 = .ok (.imul, 1) := by decide +kernel
theorem dX12_highOf_66 : decode cX12_highOf 66 = .ok (.iconst 3, 1) := by decide +kernel
theorem dX12_highOf_67 : decode cX12_highOf 67 = .ok (.iadd, 1) := by decide +kernel
theorem dX12_highOf_68 : decode cX12_highOf 68 = .ok (.iload_n 2, 1) := by decide +kernel
theorem dX12_highOf_69 : decode cX12_highOf 69 = .ok (.iastore, 1) := by decide +kernel
theorem dX12_highOf_70 : decode cX12_highOf 70 = .ok (.iload_n 3, 1) := by decide +kernel
theorem dX12_highOf_71 : decode cX12_highOf 71 = .ok (.ireturn, 1) := by decide +kernel
theorem dX12_high_0 : decode cX12_high 0 = .ok (.aload_n 0, 1) := by decide +kernel
theorem dX12_high_1 : decode cX12_high 1 = .ok (.invokevirtual 141, 3) := by decide +kernel
theorem dX12_high_4 : decode cX12_high 4 = .ok (.aload_n 0, 1) := by decide +kernel
theorem dX12_high_5 : decode cX12_high 5 = .ok (.iload_n 1, 1) := by decide +kernel
theorem dX12_high_6 : decode cX12_high 6 = .ok (.invokevirtual 212, 3) := by decide +kernel
theorem dX12_high_9 : decode cX12_high 9 = .ok (.ifCond .eq 11, 3) := by decide +kernel
theorem dX12_high_12 : decode cX12_high 12 = .ok (.aload_n 0, 1) := by decide +kernel
theorem dX12_high_13 : decode cX12_high 13 = .ok (.iload_n 1, 1) := by decide +kernel
theorem dX12_high_14 : decode cX12_high 14 = .ok (.invokevirtual 250, 3) := by decide +kernel
theorem dX12_high_17 : decode cX12_high 17 = .ok (.goto 5, 3) := by decide +kernel
theorem dX12_high_20 : decode cX12_high 20 = .ok (.bipush (-2), 2) := by decide +kernel
theorem dX12_high_22 : decode cX12_high 22 = .ok (.ireturn, 1) := by decide +kernel
theorem dX12_mostAlike_0 : decode cX12_mostAlike 0 = .ok (.aload_n 0, 1) := by decide +kernel
theorem dX12_mostAlike_1 : decode cX12_mostAlike 1 = .ok (.getfield 31, 3) := by decide +kernel
theorem dX12_mostAlike_4 : decode cX12_mostAlike 4 = .ok (.iconst 4, 1) := by decide +kernel
theorem dX12_mostAlike_5 : decode cX12_mostAlike 5 = .ok (.iload_n 1, 1) := by decide +kernel
theorem dX12_mostAlike_6 : decode cX12_mostAlike 6 = .ok (.imul, 1) := by decide +kernel
theorem dX12_mostAlike_7 : decode cX12_mostAlike 7 = .ok (.iconst 1, 1) := by decide +kernel
theorem dX12_mostAlike_8 : decode cX12_mostAlike 8 = .ok (.iadd, 1) := by decide +kernel
