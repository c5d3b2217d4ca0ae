theorem dX12_write_45 : decode cX12_write 45 = .ok (.iload_n 1, 1) := dX12_write_31_a.2.2.2.2.2.2.2.2.1
theorem dX12_write_46 : decode cX12_write 46 = .ok (.invokevirtual 206, 3) := dX12_write_31_a.2.2.2.2.2.2.2.2.2.1
theorem dX12_write_49 : decode cX12_write 49 = .ok (.aload_n 0, 1) := dX12_write_31_a.2.2.2.2.2.2.2.2.2.2.1
theorem dX12_write_50 : decode cX12_write 50 = .ok (.getfield 13, 3) := dX12_write_31_a.2.2.2.2.2.2.2.2.2.2.2.1
theorem dX12_write_53 : decode cX12_write 53 = .ok (.iload_n 3, 1) := dX12_write_31_a.2.2.2.2.2.2.2.2.2.2.2.2.1
theorem dX12_write_54 : decode cX12_write 54 = .ok (.iaload, 1) := dX12_write_31_a.2.2.2.2.2.2.2.2.2.2.2.2.2.1
theorem dX12_write_55 : decode cX12_write 55 = .ok (.aload_n 0, 1) := dX12_write_31_a.2.2.2.2.2.2.2.2.2.2.2.2.2.2.1
theorem dX12_write_56 : decode cX12_write 56 = .ok (.getfield 107, 3) := dX12_write_31_a.2.2.2.2.2.2.2.2.2.2.2.2.2.2.2
theorem dX12_write_59_a : (decode cX12_write 59 = .ok (.invokestatic 291, 3)) ∧ (decode cX12_write 62 = .ok (.istore 4, 2)) ∧ (decode cX12_write 64 = .ok (.iconst 0, 1)) ∧ (decode cX12_write 65 = .ok (.istore 5, 2)) ∧ (decode cX12_write 67 = .ok (.iload 5, 2)) ∧ (decode cX12_write 69 = .ok (.iload 4, 2)) ∧ (decode cX12_write 71 = .ok (.if_icmp .ge 54, 3)) ∧ (decode cX12_write 74 = .ok (.aload_n 0, 1)) ∧ (decode cX12_write 75 = .ok (.getfield 16, 3)) ∧ (decode cX12_write 78 = .ok (.bipush 60, 2)) ∧ (decode cX12_write 80 = .ok (.iload_n 3, 1)) ∧ (decode cX12_write 81 = .ok (.imul, 1)) ∧ (decode cX12_write 82 = .ok (.iload 5, 2)) ∧ (decode cX12_write 84 = .ok (.iadd, 1)) ∧ (decode cX12_write 85 = .ok (.aload_n 0, 1)) ∧ (decode cX12_write 86 = .ok (.getfield 7, 3)) := by decide +kernel
theorem dX12_write_59 : decode cX12_write 59 = .ok (.invokestatic 291, 3) := dX12_write_59_a.1
theorem dX12_write_62 : decode cX12_write 62 = .ok (.istore 4, 2) := dX12_write_59_a.2.1
theorem dX12_write_64 : decode cX12_write 64 = .ok (.iconst 0, 1) := dX12_write_59_a.2.2.1
theorem dX12_write_65 : decode cX12_write 65 = .ok (.istore 5, 2) := dX12_write_59_a.2.2.2.1
theorem dX12_write_67 : decode cX12_write 67 = .ok (.iload 5, 2) := dX12_write_59_a.2.2.2.2.1
theorem dX12_write_69 : decode cX12_write 69 = .ok (.iload 4, 2) := dX12_write_59_a.2.2.2.2.2.1
theorem dX12_write_71 : decode cX12_write 71 = .ok (.if_icmp .ge 54, 3) := dX12_write_59_a.2.2.2.2.2.2.1
theorem dX12_write_74 : decode cX12_write 74 = .ok (.aload_n 0, 1) := dX12_write_59_a.2.2.2.2.2.2.2.1
theorem dX12_write_75 : decode cX12_write 75 = .ok (.getfield 16, 3) := dX12_write_59_a.2.2.2.2.2.2.2.2.1
theorem dX12_write_78 : decode cX12_write 78 = .ok (.bipush 60, 2) := dX12_write_59_a.2.2.2.2.2.2.2.2.2.1
theorem dX12_write_80 : decode cX12_write 80 = .ok (.iload_n 3, 1) := dX12_write_59_a.2.2.2.2.2.2.2.2.2.2.1
theorem dX12_write_81 : decode cX12_write 81 = .ok (.imul, 1) := dX12_write_59_a.2.2.2.2.2.2.2.2.2.2.2.1
theorem dX12_write_82 : decode cX12_write 82 = .ok (.iload 5, 2) := dX12_write_59_a.2.2.2.2.2.2.2.2.2.2.2.2.1
theorem dX12_write_84 : decode cX12_write 84 = .ok (.iadd, 1) := dX12_write_59_a.2.2.2.2.2.2.2.2.2.2.2.2.2.1
theorem dX12_write_85 : decode cX12_write 85 = .ok (.aload_n 0, 1) := dX12_write_59_a.2.2.2.2.2.2.2.2.2.2.2.2.2.2.1
theorem dX12_write_86 : decode cX12_write 86 = .ok (.getfield 7, 3) := dX12_write_59_a.2.2.2.2.2.2.2.2.2.2.2.2.2.2.2
theorem dX12_write_89_a : (decode cX12_write 89 = .ok (.iload_n 3, 1)) ∧ (decode cX12_write 90 = .ok (.iaload, 1)) ∧ (decode cX12_write 91 = .ok (.iload 5, 2)) ∧ (decode cX12_write 93 = .ok (.aload_n 0, 1)) ∧ (decode cX12_write 94 = .ok (.getfield 190, 3)) ∧ (decode cX12_write 97 = .ok (.if_icmp .ge 17, 3)) ∧ (decode cX12_write 100 = .ok (.aload_n 0, 1)) ∧ (decode cX12_write 101 = .ok (.getfield 40, 3)) ∧ (decode cX12_write 104 = .ok (.iconst 4, 1)) ∧ (decode cX12_write 105 = .ok (.iload 5, 2)) ∧ (decode cX12_write 107 = .ok (.imul, 1)) ∧ (decode cX12_write 108 = .ok (.iload_n 2, 1)) ∧ (decode cX12_write 109 = .ok (.iadd, 1)) ∧ (decode cX12_write 110 = .ok (.iaload, 1)) ∧ (decode cX12_write 111 = .ok (.goto 4, 3)) ∧ (decode cX12_write 114 = .ok (.iconst (-1), 1)) := by decide +kernel
theorem dX12_write_89 : decode cX12_write 89 = .ok (.iload_n 3, 1) := dX12_write_89_a.1
theorem dX12_write_90 : decode cX12_write 90 = .ok (.iaload, 1) := dX12_write_89_a.2.1
theorem dX12_write_91 : decode cX12_write 91 = .ok (.iload 5, 2) := dX12_write_89_a.2.2.1
theorem dX12_write_93 : decode cX12_write 93 = .ok (.aload_n 0, 1) := dX12_write_89_a.2.2.2.1
theorem dX12_write_94 : decode cX12_write 94 = .ok (.getfield 190, 3) := dX12_write_89_a.2.2.2.2.1
theorem dX12_write_97 : decode cX12_write 97 = .ok (.if_icmp .ge 17, 3) := dX12_write_89_a.2.2.2.2.2.1
theorem dX12_write_100 : decode cX12_write 100 = .ok (.aload_n 0, 1) := dX12_write_89_a.2.2.2.2.2.2.1
theorem dX12_write_101 : decode cX12_write 101 = .ok (.getfield 40, 3) := dX12_write_89_a.2.2.2.2.2.2.2.1
theorem dX12_write_104 : decode cX12_write 104 = .ok (.iconst 4, 1) := dX12_write_89_a.2.2.2.2.2.2.2.2.1
theorem dX12_write_105 : decode cX12_write 105 = .ok (.iload 5, 2) := dX12_write_89_a.2.2.2.2.2.2.2.2.2.1
theorem dX12_write_107 : decode cX12_write 107 = .ok (.imul, 1) := dX12_write_89_a.2.2.2.2.2.2.2.2.2.2.1
theorem dX12_write_108 : decode cX12_write 108 = .ok (.iload_n 2, 1) := dX12_write_89_a.2.2.2.2.2.2.2.2.2.2.2.1
theorem dX12_write_109 : decode cX12_write 109 = .ok (.iadd, 1) := dX12_write_89_a.2.2.2.2.2.2.2.2.2.2.2.2.1
theorem dX12_write_110 : decode cX12_write 110 = .ok (.iaload, 1) := dX12_write_89_a.2.2.2.2.2.2.2.2.2.2.2.2.2.1
theorem dX12_write_111 : decode cX12_write 111 = .ok (.goto 4, 3) := dX12_write_89_a.2.2.2.2.2.2.2.2.2.2.2.2.2.2.1
theorem dX12_write_114 : decode cX12_write 114 = .ok (.iconst (-1), 1) := dX12_write_89_a.2.2.2.2.2.2.2.2.2.2.2.2.2.2.2
theorem dX12_write_115_a : (decode cX12_write 115 = .ok (.invokestatic 88, 3)) ∧ (decode cX12_write 118 = .ok (.iastore, 1)) ∧ (decode cX12_write 119 = .ok (.iinc 5 1, 3)) ∧ (decode cX12_write 122 = .ok (.goto (-55), 3)) ∧ (decode cX12_write 125 = .ok (.iload 4, 2)) ∧ (decode cX12_write 127 = .ok (.ireturn, 1)) := by decide +kernel
theorem dX12_write_115 : decode cX12_write 115 = .ok (.invokestatic 88, 3) := dX12_write_115_a.1
theorem dX12_write_118 : decode cX12_write 118 = .ok (.iastore, 1) := dX12_write_115_a.2.1
theorem dX12_write_119 : decode cX12_write 119 = .ok (.iinc 5 1, 3) := dX12_write_115_a.2.2.1
theorem dX12_write_122 : decode cX12_write 122 = .ok (.goto (-55), 3) := dX12_write_115_a.2.2.2.1
theorem dX12_write_125 : decode cX12_write 125 = .ok (.iload 4, 2) := dX12_write_115_a.2.2.2.2.1
theorem dX12_write_127 : decode cX12_write 127 = .ok (.ireturn, 1) := dX12_write_115_a.2.2.2.2.2
theorem dX12_count_0_a : (decode cX12_count 0 = .ok (.aload_n 0, 1)) ∧ (decode cX12_count 1 = .ok (.invokevirtual 141, 3)) ∧ (decode cX12_count 4 = .ok (.iload_n 1, 1)) ∧ (decode cX12_count 5 = .ok (.tableswitch 90 0 8 #[51, 56, 61, 66, 66, 66, 75, 80, 85], 51)) ∧ (decode cX12_count 56 = .ok (.aload_n 0, 1)) ∧ (decode cX12_count 57 = .ok (.getfield 107, 3)) ∧ (decode cX12_count 60 = .ok (.ireturn, 1)) ∧ (decode cX12_count 61 = .ok (.aload_n 0, 1)) ∧ (decode cX12_count 62 = .ok (.getfield 116, 3)) ∧ (decode cX12_count 65 = .ok (.ireturn, 1)) ∧ (decode cX12_count 66 = .ok (.aload_n 0, 1)) ∧ (decode cX12_count 67 = .ok (.getfield 122, 3)) ∧ (decode cX12_count 70 = .ok (.ireturn, 1)) ∧ (decode cX12_count 71 = .ok (.aload_n 0, 1)) ∧ (decode cX12_count 72 = .ok (.getfield 25, 3)) ∧ (decode cX12_count 75 = .ok (.iload_n 1, 1)) := by decide +kernel
theorem dX12_count_0 : decode cX12_count 0 = .ok (.aload_n 0, 1) := dX12_count_0_a.1
theorem dX12_count_1 : decode cX12_count 1 = .ok (.invokevirtual 141, 3) := dX12_count_0_a.2.1
theorem dX12_count_4 : decode cX12_count 4 = .ok (.iload_n 1, 1) := dX12_count_0_a.2.2.1
theorem dX12_count_5 : decode cX12_count 5 = .ok (.tableswitch 90 0 8 #[51, 56, 61, 66, 66, 66, 75, 80, 85], 51) := dX12_count_0_a.2.2.2.1
theorem dX12_count_56 : decode cX12_count 56 = .ok (.aload_n 0, 1) := dX12_count_0_a.2.2.2.2.1
theorem dX12_count_57 : decode cX12_count 57 = .ok (.getfield 107, 3) := dX12_count_0_a.2.2.2.2.2.1
theorem dX12_count_60 : decode cX12_count 60 = .ok (.ireturn, 1) := dX12_count_0_a.2.2.2.2.2.2.1
theorem dX12_count_61 : decode cX12_count 61 = .ok (.aload_n 0, 1) := dX12_count_0_a.2.2.2.2.2.2.2.1
theorem dX12_count_62 : decode cX12_count 62 = .ok (.getfield 116, 3) := dX12_count_0_a.2.2.2.2.2.2.2.2.1
theorem dX12_count_65 : decode cX12_count 65 = .ok (.ireturn, 1) := dX12_count_0_a.2.2.2.2.2.2.2.2.2.1
theorem dX12_count_66 : decode cX12_count 66 = .ok (.aload_n 0, 1) := dX12_count_0_a.2.2.2.2.2.2.2.2.2.2.1
theorem dX12_count_67 : decode cX12_count 67 = .ok (.getfield 122, 3) := dX12_count_0_a.2.2.2.2.2.2.2.2.2.2.2.1
theorem dX12_count_70 : decode cX12_count 70 = .ok (.ireturn, 1) := dX12_count_0_a.2.2.2.2.2.2.2.2.2.2.2.2.1
theorem dX12_count_71 : decode cX12_count 71 = .ok (.aload_n 0, 1) := dX12_count_0_a.2.2.2.2.2.2.2.2.2.2.2.2.2.1
theorem dX12_count_72 : decode cX12_count 72 = .ok (.getfield 25, 3) := dX12_count_0_a.2.2.2.2.2.2.2.2.2.2.2.2.2.2.1
theorem dX12_count_75 : decode cX12_count 75 = .ok (.iload_n 1, 1) := dX12_count_0_a.2.2.2.2.2.2.2.2.2.2.2.2.2.2.2
theorem dX12_count_76_a : (decode cX12_count 76 = .ok (.iconst 3, 1)) ∧ (decode cX12_count 77 = .ok (.isub, 1)) ∧ (decode cX12_count 78 = .ok (.iaload, 1)) ∧ (decode cX12_count 79 = .ok (.ireturn, 1)) ∧ (decode cX12_count 80 = .ok (.aload_n 0, 1)) ∧ (decode cX12_count 81 = .ok (.getfield 159, 3)) ∧ (decode cX12_count 84 = .ok (.ireturn, 1)) ∧ (decode cX12_count 85 = .ok (.aload_n 0, 1)) ∧ (decode cX12_count 86 = .ok (.getfield 240, 3)) ∧ (decode cX12_count 89 = .ok (.ireturn, 1)) ∧ (decode cX12_count 90 = .ok (.aload_n 0, 1)) ∧ (decode cX12_count 91 = .ok (.getfield 69, 3)) ∧ (decode cX12_count 94 = .ok (.ireturn, 1)) ∧ (decode cX12_count 95 = .ok (.bipush (-2), 2)) ∧ (decode cX12_count 97 = .ok (.ireturn, 1)) := by decide +kernel
theorem dX12_count_76 : decode cX12_count 76 = .ok (.iconst 3, 1) := dX12_count_76_a.1
theorem dX12_count_77 : decode cX12_count 77 = .ok (.isub, 1) := dX12_count_76_a.2.1
theorem dX12_count_78 : decode cX12_count 78 = .ok (.iaload, 1) := dX12_count_76_a.2.2.1
theorem dX12_count_79 : decode cX12_count 79 = .ok (.ireturn, 1) := dX12_count_76_a.2.2.2.1
theorem dX12_count_80 : decode cX12_count 80 = .ok (.aload_n 0, 1) := dX12_count_76_a.2.2.2.2.1
theorem dX12_count_81 : decode cX12_count 81 = .ok (.getfield 159, 3) := dX12_count_76_a.2.2.2.2.2.1
theorem dX12_count_84 : decode cX12_count 84 = .ok (.ireturn, 1) := dX12_count_76_a.2.2.2.2.2.2.1
theorem dX12_count_85 : decode cX12_count 85 = .ok (.aload_n 0, 1) := dX12_count_76_a.2.2.2.2.2.2.2.1
theorem dX12_count_86 : decode cX12_count 86 = .ok (.getfield 240, 3) := dX12_count_76_a.2.2.2.2.2.2.2.2.1
theorem dX12_count_89 : decode cX12_count 89 = .ok (.ireturn, 1) := dX12_count_76_a.2.2.2.2.2.2.2.2.2.1
theorem dX12_count_90 : decode cX12_count 90 = .ok (.aload_n 0, 1) := dX12_count_76_a.2.2.2.2.2.2.2.2.2.2.1
theorem dX12_count_91 : decode cX12_count 91 = .ok (.getfield 69, 3) := dX12_count_76_a.2.2.2.2.2.2.2.2.2.2.2.1
theorem dX12_count_94 : decode cX12_count 94 = .ok (.ireturn, 1) := dX12_count_76_a.2.2.2.2.2.2.2.2.2.2.2.2.1
theorem dX12_count_95 : decode cX12_count 95 = .ok (.bipush (-2), 2) := dX12_count_76_a.2.2.2.2.2.2.2.2.2.2.2.2.2.1
theorem dX12_count_97 : decode cX12_count 97 = .ok (.ireturn, 1) := dX12_count_76_a.2.2.2.2.2.2.2.2.2.2.2.2.2.2
theorem dX12_tellsFlight_0_a : (decode cX12_tellsFlight 0 = .ok (.lload_n 1, 1)) ∧ (decode cX12_tellsFlight 1 = .ok (.lstore 4, 2)) ∧ (decode cX12_tellsFlight 3 = .ok (.iconst 0, 1)) ∧ (decode cX12_tellsFlight 4 = .ok (.istore 6, 2)) ∧ (decode cX12_tellsFlight 6 = .ok (.iload 6, 2)) ∧ (decode cX12_tellsFlight 8 = .ok (.iconst 3, 1)) ∧ (decode cX12_tellsFlight 9 = .ok (.if_icmp .ge 26, 3)) ∧ (decode cX12_tellsFlight 12 = .ok (.ldc2_w 294, 3)) ∧ (decode cX12_tellsFlight 15 = .ok (.lload 4, 2)) ∧ (decode cX12_tellsFlight 17 = .ok (.lmul, 1)) ∧ (decode cX12_tellsFlight 18 = .ok (.aload_n 0, 1)) ∧ (decode cX12_tellsFlight 19 = .ok (.iload_n 3, 1)) ∧ (decode cX12_tellsFlight 20 = .ok (.iload 6, 2)) ∧ (decode cX12_tellsFlight 22 = .ok (.invokevirtual 215, 3)) ∧ (decode cX12_tellsFlight 25 = .ok (.i2l, 1)) ∧ (decode cX12_tellsFlight 26 = .ok (.ladd, 1)) := by decide +kernel
theorem dX12_tellsFlight_0 : decode cX12_tellsFlight 0 = .ok (.lload_n 1, 1) := dX12_tellsFlight_0_a.1
theorem dX12_tellsFlight_1 : decode cX12_tellsFlight 1 = .ok (.lstore 4, 2) := dX12_tellsFlight_0_a.2.1
theorem dX12_tellsFlight_3 : decode cX12_tellsFlight 3 = .ok (.iconst 0, 1) := dX12_tellsFlight_0_a.2.2.1
theorem dX12_tellsFlight_4 : decode cX12_tellsFlight 4 = .ok (.istore 6, 2) := dX12_tellsFlight_0_a.2.2.2.1
theorem dX12_tellsFlight_6 : decode cX12_tellsFlight 6 = .ok (.iload 6, 2) := dX12_tellsFlight_0_a.2.2.2.2.1
theorem dX12_tellsFlight_8 : decode cX12_tellsFlight 8 = .ok (.iconst 3, 1) := dX12_tellsFlight_0_a.2.2.2.2.2.1
theorem dX12_tellsFlight_9 : decode cX12_tellsFlight 9 = .ok (.if_icmp .ge 26, 3) := dX12_tellsFlight_0_a.2.2.2.2.2.2.1
theorem dX12_tellsFlight_12 : decode cX12_tellsFlight 12 = .ok (.ldc2_w 294, 3) := dX12_tellsFlight_0_a.2.2.2.2.2.2.2.1
theorem dX12_tellsFlight_15 : decode cX12_tellsFlight 15 = .ok (.lload 4, 2) := dX12_tellsFlight_0_a.2.2.2.2.2.2.2.2.1
theorem dX12_tellsFlight_17 : decode cX12_tellsFlight 17 = .ok (.lmul, 1) := dX12_tellsFlight_0_a.2.2.2.2.2.2.2.2.2.1
theorem dX12_tellsFlight_18 : decode cX12_tellsFlight 18 = .ok (.aload_n 0, 1) := dX12_tellsFlight_0_a.2.2.2.2.2.2.2.2.2.2.1
theorem dX12_tellsFlight_19 : decode cX12_tellsFlight 19 = .ok (.iload_n 3, 1) := dX12_tellsFlight_0_a.2.2.2.2.2.2.2.2.2.2.2.1
theorem dX12_tellsFlight_20 : decode cX12_tellsFlight 20 = .ok (.iload 6, 2) := dX12_tellsFlight_0_a.2.2.2.2.2.2.2.2.2.2.2.2.1
theorem dX12_tellsFlight_22 : decode cX12_tellsFlight 22 = .ok (.invokevirtual 215, 3) := dX12_tellsFlight_0_a.2.2.2.2.2.2.2.2.2.2.2.2.2.1
theorem dX12_tellsFlight_25 : decode cX12_tellsFlight 25 = .ok (.i2l, 1) := dX12_tellsFlight_0_a.2.2.2.2.2.2.2.2.2.2.2.2.2.2.1
theorem dX12_tellsFlight_26 : decode cX12_tellsFlight 26 = .ok (.ladd, 1) := dX12_tellsFlight_0_a.2.2.2.2.2.2.2.2.2.2.2.2.2.2.2
theorem dX12_tellsFlight_27_a : (decode cX12_tellsFlight 27 = .ok (.lstore 4, 2)) ∧ (decode cX12_tellsFlight 29 = .ok (.iinc 6 1, 3)) ∧ (decode cX12_tellsFlight 32 = .ok (.goto (-26), 3)) ∧ (decode cX12_tellsFlight 35 = .ok (.iconst 0, 1)) ∧ (decode cX12_tellsFlight 36 = .ok (.istore 6, 2)) ∧ (decode cX12_tellsFlight 38 = .ok (.iload 6, 2)) ∧ (decode cX12_tellsFlight 40 = .ok (.iconst 4, 1)) ∧ (decode cX12_tellsFlight 41 = .ok (.if_icmp .ge 27, 3)) ∧ (decode cX12_tellsFlight 44 = .ok (.ldc2_w 294, 3)) ∧ (decode cX12_tellsFlight 47 = .ok (.lload 4, 2)) ∧ (decode cX12_tellsFlight 49 = .ok (.lmul, 1)) ∧ (decode cX12_tellsFlight 50 = .ok (.aload_n 0, 1)) ∧ (decode cX12_tellsFlight 51 = .ok (.iload_n 3, 1)) ∧ (decode cX12_tellsFlight 52 = .ok (.iconst 3, 1)) ∧ (decode cX12_tellsFlight 53 = .ok (.iload 6, 2)) ∧ (decode cX12_tellsFlight 55 = .ok (.invokevirtual 296, 3)) := by decide +kernel
theorem dX12_tellsFlight_27 : decode cX12_tellsFlight 27 = .ok (.lstore 4, 2) := dX12_tellsFlight_27_a.1
theorem dX12_tellsFlight_29 : decode cX12_tellsFlight 29 = .ok (.iinc 6 1, 3) := dX12_tellsFlight_27_a.2.1
theorem dX12_tellsFlight_32 : decode cX12_tellsFlight 32 = .ok (.goto (-26), 3) := dX12_tellsFlight_27_a.2.2.1
theorem dX12_tellsFlight_35 : decode cX12_tellsFlight 35 = .ok (.iconst 0, 1) := dX12_tellsFlight_27_a.2.2.2.1
theorem dX12_tellsFlight_36 : decode cX12_tellsFlight 36 = .ok (.istore 6, 2) := dX12_tellsFlight_27_a.2.2.2.2.1
theorem dX12_tellsFlight_38 : decode cX12_tellsFlight 38 = .ok (.iload 6, 2) := dX12_tellsFlight_27_a.2.2.2.2.2.1
theorem dX12_tellsFlight_40 : decode cX12_tellsFlight 40 = .ok (.iconst 4, 1) := dX12_tellsFlight_27_a.2.2.2.2.2.2.1
theorem dX12_tellsFlight_41 : decode cX12_tellsFlight 41 = .ok (.if_icmp .ge 27, 3) := dX12_tellsFlight_27_a.2.2.2.2.2.2.2.1
theorem dX12_tellsFlight_44 : decode cX12_tellsFlight 44 = .ok (.ldc2_w 294, 3) := dX12_tellsFlight_27_a.2.2.2.2.2.2.2.2.1
theorem dX12_tellsFlight_47 : decode cX12_tellsFlight 47 = .ok (.lload 4, 2) := dX12_tellsFlight_27_a.2.2.2.2.2.2.2.2.2.1
theorem dX12_tellsFlight_49 : decode cX12_tellsFlight 49 = .ok (.lmul, 1) := dX12_tellsFlight_27_a.2.2.2.2.2.2.2.2.2.2.1
theorem dX12_tellsFlight_50 : decode cX12_tellsFlight 50 = .ok (.aload_n 0, 1) := dX12_tellsFlight_27_a.2.2.2.2.2.2.2.2.2.2.2.1
theorem dX12_tellsFlight_51 : decode cX12_tellsFlight 51 = .ok (.iload_n 3, 1) := dX12_tellsFlight_27_a.2.2.2.2.2.2.2.2.2.2.2.2.1
theorem dX12_tellsFlight_52 : decode cX12_tellsFlight 52 = .ok (.iconst 3, 1) := dX12_tellsFlight_27_a.2.2.2.2.2.2.2.2.2.2.2.2.2.1
theorem dX12_tellsFlight_53 : decode cX12_tellsFlight 53 = .ok (.iload 6, 2) := dX12_tellsFlight_27_a.2.2.2.2.2.2.2.2.2.2.2.2.2.2.1
theorem dX12_tellsFlight_55 : decode cX12_tellsFlight 55 = .ok (.invokevirtual 296, 3) := dX12_tellsFlight_27_a.2.2.2.2.2.2.2.2.2.2.2.2.2.2.2
theorem dX12_tellsFlight_58_a : (decode cX12_tellsFlight 58 = .ok (.i2l, 1)) ∧ (decode cX12_tellsFlight 59 = .ok (.ladd, 1)) ∧ (decode cX12_tellsFlight 60 = .ok (.lstore 4, 2)) ∧ (decode cX12_tellsFlight 62 = .ok (.iinc 6 1, 3)) ∧ (decode cX12_tellsFlight 65 = .ok (.goto (-27), 3)) ∧ (decode cX12_tellsFlight 68 = .ok (.iconst (-1), 1)) ∧ (decode cX12_tellsFlight 69 = .ok (.istore 6, 2)) ∧ (decode cX12_tellsFlight 71 = .ok (.iload 6, 2)) ∧ (decode cX12_tellsFlight 73 = .ok (.iconst 3, 1)) ∧ (decode cX12_tellsFlight 74 = .ok (.if_icmp .ge 26, 3)) ∧ (decode cX12_tellsFlight 77 = .ok (.ldc2_w 294, 3)) ∧ (decode cX12_tellsFlight 80 = .ok (.lload 4, 2)) ∧ (decode cX12_tellsFlight 82 = .ok (.lmul, 1)) ∧ (decode cX12_tellsFlight 83 = .ok (.aload_n 0, 1)) ∧ (decode cX12_tellsFlight 84 = .ok (.iload_n 3, 1)) ∧ (decode cX12_tellsFlight 85 = .ok (.iload 6, 2)) := by decide +kernel
theorem dX12_tellsFlight_58 : decode cX12_tellsFlight 58 = .ok (.i2l, 1) := dX12_tellsFlight_58_a.1
theorem dX12_tellsFlight_59 : decode cX12_tellsFlight 59 = .ok (.ladd, 1) := dX12_tellsFlight_58_a.2.1
theorem dX12_tellsFlight_60 : decode cX12_tellsFlight 60 = .ok (.lstore 4, 2) := dX12_tellsFlight_58_a.2.2.1
theorem dX12_tellsFlight_62 : decode cX12_tellsFlight 62 = .ok (.iinc 6 1, 3) := dX12_tellsFlight_58_a.2.2.2.1
theorem dX12_tellsFlight_65 : decode cX12_tellsFlight 65 = .ok (.goto (-27), 3) := dX12_tellsFlight_58_a.2.2.2.2.1
theorem dX12_tellsFlight_68 : decode cX12_tellsFlight 68 = .ok (.iconst (-1), 1) := dX12_tellsFlight_58_a.2.2.2.2.2.1
theorem dX12_tellsFlight_69 : decode cX12_tellsFlight 69 = .ok (.istore 6, 2) := dX12_tellsFlight_58_a.2.2.2.2.2.2.1
theorem dX12_tellsFlight_71 : decode cX12_tellsFlight 71 = .ok (.iload 6, 2) := dX12_tellsFlight_58_a.2.2.2.2.2.2.2.1
theorem dX12_tellsFlight_73 : decode cX12_tellsFlight 73 = .ok (.iconst 3, 1) := dX12_tellsFlight_58_a.2.2.2.2.2.2.2.2.1
theorem dX12_tellsFlight_74 : decode cX12_tellsFlight 74 = .ok (.if_icmp .ge 26, 3) := dX12_tellsFlight_58_a.2.2.2.2.2.2.2.2.2.1
theorem dX12_tellsFlight_77 : decode cX12_tellsFlight 77 = .ok (.ldc2_w 294, 3) := dX12_tellsFlight_58_a.2.2.2.2.2.2.2.2.2.2.1
theorem dX12_tellsFlight_80 : decode cX12_tellsFlight 80 = .ok (.lload 4, 2) := dX12_tellsFlight_58_a.2.2.2.2.2.2.2.2.2.2.2.1
theorem dX12_tellsFlight_82 : decode cX12_tellsFlight 82 = .ok (.lmul, 1) := dX12_tellsFlight_58_a.2.2.2.2.2.2.2.2.2.2.2.2.1
theorem dX12_tellsFlight_83 : decode cX12_tellsFlight 83 = .ok (.aload_n 0, 1) := dX12_tellsFlight_58_a.2.2.2.2.2.2.2.2.2.2.2.2.2.1
theorem dX12_tellsFlight_84 : decode cX12_tellsFlight 84 = .ok (.iload_n 3, 1) := dX12_tellsFlight_58_a.2.2.2.2.2.2.2.2.2.2.2.2.2.2.1
theorem dX12_tellsFlight_85 : decode cX12_tellsFlight 85 = .ok (.iload 6, 2) := dX12_tellsFlight_58_a.2.2.2.2.2.2.2.2.2.2.2.2.2.2.2
theorem dX12_tellsFlight_87_a : (decode cX12_tellsFlight 87 = .ok (.invokevirtual 226, 3)) ∧ (decode cX12_tellsFlight 90 = .ok (.i2l, 1)) ∧ (decode cX12_tellsFlight 91 = .ok (.ladd, 1)) ∧ (decode cX12_tellsFlight 92 = .ok (.lstore 4, 2)) ∧ (decode cX12_tellsFlight 94 = .ok (.iinc 6 1, 3)) ∧ (decode cX12_tellsFlight 97 = .ok (.goto (-26), 3)) ∧ (decode cX12_tellsFlight 100 = .ok (.ldc2_w 294, 3)) ∧ (decode cX12_tellsFlight 103 = .ok (.lload 4, 2)) ∧ (decode cX12_tellsFlight 105 = .ok (.lmul, 1)) ∧ (decode cX12_tellsFlight 106 = .ok (.aload_n 0, 1)) ∧ (decode cX12_tellsFlight 107 = .ok (.iload_n 3, 1)) ∧ (decode cX12_tellsFlight 108 = .ok (.iconst 0, 1)) ∧ (decode cX12_tellsFlight 109 = .ok (.invokevirtual 232, 3)) ∧ (decode cX12_tellsFlight 112 = .ok (.i2l, 1)) ∧ (decode cX12_tellsFlight 113 = .ok (.ladd, 1)) ∧ (decode cX12_tellsFlight 114 = .ok (.lstore 4, 2)) := by decide +kernel
theorem dX12_tellsFlight_87 : decode cX12_tellsFlight 87 = .ok (.invokevirtual 226, 3) := dX12_tellsFlight_87_a.1
theorem dX12_tellsFlight_90 : decode cX12_tellsFlight 90 = .ok (.i2l, 1) := dX12_tellsFlight_87_a.2.1
theorem dX12_tellsFlight_91 : decode cX12_tellsFlight 91 = .ok (.ladd, 1) := dX12_tellsFlight_87_a.2.2.1
theorem dX12_tellsFlight_92 : decode cX12_tellsFlight 92 = .ok (.lstore 4, 2) := dX12_tellsFlight_87_a.2.2.2.1
theorem dX12_tellsFlight_94 : decode cX12_tellsFlight 94 = .ok (.iinc 6 1, 3) := dX12_tellsFlight_87_a.2.2.2.2.1
theorem dX12_tellsFlight_97 : decode cX12_tellsFlight 97 = .ok (.goto (-26), 3) := dX12_tellsFlight_87_a.2.2.2.2.2.1
theorem dX12_tellsFlight_100 : decode cX12_tellsFlight 100 = .ok (.ldc2_w 294, 3) := dX12_tellsFlight_87_a.2.2.2.2.2.2.1
theorem dX12_tellsFlight_103 : decode cX12_tellsFlight 103 = .ok (.lload 4, 2) := dX12_tellsFlight_87_a.2.2.2.2.2.2.2.1
theorem dX12_tellsFlight_105 : decode cX12_tellsFlight 105 = .ok (.lmul, 1) := dX12_tellsFlight_87_a.2.2.2.2.2.2.2.2.1
theorem dX12_tellsFlight_106 : decode cX12_tellsFlight 106 = .ok (.aload_n 0, 1) := dX12_tellsFlight_87_a.2.2.2.2.2.2.2.2.2.1
theorem dX12_tellsFlight_107 : decode cX12_tellsFlight 107 = .ok (.iload_n 3, 1) := dX12_tellsFlight_87_a.2.2.2.2.2.2.2.2.2.2.1
theorem dX12_tellsFlight_108 : decode cX12_tellsFlight 108 = .ok (.iconst 0, 1) := dX12_tellsFlight_87_a.2.2.2.2.2.2.2.2.2.2.2.1
theorem dX12_tellsFlight_109 : decode cX12_tellsFlight 109 = .ok (.invokevirtual 232, 3) := dX12_tellsFlight_87_a.2.2.2.2.2.2.2.2.2.2.2.2.1
theorem dX12_tellsFlight_112 : decode cX12_tellsFlight 112 = .ok (.i2l, 1) := dX12_tellsFlight_87_a.2.2.2.2.2.2.2.2.2.2.2.2.2.1
theorem dX12_tellsFlight_113 : decode cX12_tellsFlight 113 = .ok (.ladd, 1) := dX12_tellsFlight_87_a.2.2.2.2.2.2.2.2.2.2.2.2.2.2.1
theorem dX12_tellsFlight_114 : decode cX12_tellsFlight 114 = .ok (.lstore 4, 2) := dX12_tellsFlight_87_a.2.2.2.2.2.2.2.2.2.2.2.2.2.2.2
theorem dX12_tellsFlight_116_a : (decode cX12_tellsFlight 116 = .ok (.ldc2_w 294, 3)) ∧ (decode cX12_tellsFlight 119 = .ok (.lload 4, 2)) ∧ (decode cX12_tellsFlight 121 = .ok (.lmul, 1)) ∧ (decode cX12_tellsFlight 122 = .ok (.aload_n 0, 1)) ∧ (decode cX12_tellsFlight 123 = .ok (.iload_n 3, 1)) ∧ (decode cX12_tellsFlight 124 = .ok (.iconst 1, 1)) ∧ (decode cX12_tellsFlight 125 = .ok (.invokevirtual 232, 3)) ∧ (decode cX12_tellsFlight 128 = .ok (.i2l, 1)) ∧ (decode cX12_tellsFlight 129 = .ok (.ladd, 1)) ∧ (decode cX12_tellsFlight 130 = .ok (.lstore 4, 2)) ∧ (decode cX12_tellsFlight 132 = .ok (.ldc2_w 294, 3)) ∧ (decode cX12_tellsFlight 135 = .ok (.lload 4, 2)) ∧ (decode cX12_tellsFlight 137 = .ok (.lmul, 1)) ∧ (decode cX12_tellsFlight 138 = .ok (.aload_n 0, 1)) ∧ (decode cX12_tellsFlight 139 = .ok (.iload_n 3, 1)) ∧ (decode cX12_tellsFlight 140 = .ok (.iconst 0, 1)) := by decide +kernel
theorem dX12_tellsFlight_116 : decode cX12_tellsFlight 116 = .ok (.ldc2_w 294, 3) := dX12_tellsFlight_116_a.1
theorem dX12_tellsFlight_119 : decode cX12_tellsFlight 119 = .ok (.lload 4, 2) := dX12_tellsFlight_116_a.2.1
theorem dX12_tellsFlight_121 : decode cX12_tellsFlight 121 = .ok (.lmul, 1) := dX12_tellsFlight_116_a.2.2.1
theorem dX12_tellsFlight_122 : decode cX12_tellsFlight 122 = .ok (.aload_n 0, 1) := dX12_tellsFlight_116_a.2.2.2.1
theorem dX12_tellsFlight_123 : decode cX12_tellsFlight 123 = .ok (.iload_n 3, 1) := dX12_tellsFlight_116_a.2.2.2.2.1
theorem dX12_tellsFlight_124 : decode cX12_tellsFlight 124 = .ok (.iconst 1, 1) := dX12_tellsFlight_116_a.2.2.2.2.2.1
theorem dX12_tellsFlight_125 : decode cX12_tellsFlight 125 = .ok (.invokevirtual 232, 3) := dX12_tellsFlight_116_a.2.2.2.2.2.2.1
theorem dX12_tellsFlight_128 : decode cX12_tellsFlight 128 = .ok (.i2l, 1) := dX12_tellsFlight_116_a.2.2.2.2.2.2.2.1
theorem dX12_tellsFlight_129 : decode cX12_tellsFlight 129 = .ok (.ladd, 1) := dX12_tellsFlight_116_a.2.2.2.2.2.2.2.2.1
theorem dX12_tellsFlight_130 : decode cX12_tellsFlight 130 = .ok (.lstore 4, 2) := dX12_tellsFlight_116_a.2.2.2.2.2.2.2.2.2.1
theorem dX12_tellsFlight_132 : decode cX12_tellsFlight 132 = .ok (.ldc2_w 294, 3) := dX12_tellsFlight_116_a.2.2.2.2.2.2.2.2.2.2.1
theorem dX12_tellsFlight_135 : decode cX12_tellsFlight 135 = .ok (.lload 4, 2) := dX12_tellsFlight_116_a.2.2.2.2.2.2.2.2.2.2.2.1
theorem dX12_tellsFlight_137 : decode cX12_tellsFlight 137 = .ok (.lmul, 1) := dX12_tellsFlight_116_a.2.2.2.2.2.2.2.2.2.2.2.2.1
theorem dX12_tellsFlight_138 : decode cX12_tellsFlight 138 = .ok (.aload_n 0, 1) := dX12_tellsFlight_116_a.2.2.2.2.2.2.2.2.2.2.2.2.2.1
theorem dX12_tellsFlight_139 : decode cX12_tellsFlight 139 = .ok (.iload_n 3, 1) := dX12_tellsFlight_116_a.2.2.2.2.2.2.2.2.2.2.2.2.2.2.1
theorem dX12_tellsFlight_140 : decode cX12_tellsFlight 140 = .ok (.iconst 0, 1) := dX12_tellsFlight_116_a.2.2.2.2.2.2.2.2.2.2.2.2.2.2.2
theorem dX12_tellsFlight_141_a : (decode cX12_tellsFlight 141 = .ok (.invokevirtual 235, 3)) ∧ (decode cX12_tellsFlight 144 = .ok (.i2l, 1)) ∧ (decode cX12_tellsFlight 145 = .ok (.ladd, 1)) ∧ (decode cX12_tellsFlight 146 = .ok (.lstore 4, 2)) ∧ (decode cX12_tellsFlight 148 = .ok (.ldc2_w 294, 3)) ∧ (decode cX12_tellsFlight 151 = .ok (.lload 4, 2)) ∧ (decode cX12_tellsFlight 153 = .ok (.lmul, 1)) ∧ (decode cX12_tellsFlight 154 = .ok (.aload_n 0, 1)) ∧ (decode cX12_tellsFlight 155 = .ok (.iload_n 3, 1)) ∧ (decode cX12_tellsFlight 156 = .ok (.iconst 1, 1)) ∧ (decode cX12_tellsFlight 157 = .ok (.invokevirtual 235, 3)) ∧ (decode cX12_tellsFlight 160 = .ok (.i2l, 1)) ∧ (decode cX12_tellsFlight 161 = .ok (.ladd, 1)) ∧ (decode cX12_tellsFlight 162 = .ok (.lstore 4, 2)) ∧ (decode cX12_tellsFlight 164 = .ok (.ldc2_w 294, 3)) ∧ (decode cX12_tellsFlight 167 = .ok (.lload 4, 2)) := by decide +kernel
theorem dX12_tellsFlight_141 : decode cX12_tellsFlight 141 = .ok (.invokevirtual 235, 3) := dX12_tellsFlight_141_a.1
theorem dX12_tellsFlight_144 : decode cX12_tellsFlight 144 = .ok (.i2l, 1) := dX12_tellsFlight_141_a.2.1
theorem dX12_tellsFlight_145 : decode cX12_tellsFlight 145 = .ok (.ladd, 1) := dX12_tellsFlight_141_a.2.2.1
theorem dX12_tellsFlight_146 : decode cX12_tellsFlight 146 = .ok (.lstore 4, 2) := dX12_tellsFlight_141_a.2.2.2.1
theorem dX12_tellsFlight_148 : decode cX12_tellsFlight 148 = .ok (.ldc2_w 294, 3) := dX12_tellsFlight_141_a.2.2.2.2.1
theorem dX12_tellsFlight_151 : decode cX12_tellsFlight 151 = .ok (.lload 4, 2) := dX12_tellsFlight_141_a.2.2.2.2.2.1
theorem dX12_tellsFlight_153 : decode cX12_tellsFlight 153 = .ok (.lmul, 1) := dX12_tellsFlight_141_a.2.2.2.2.2.2.1
theorem dX12_tellsFlight_154 : decode cX12_tellsFlight 154 = .ok (.aload_n 0, 1) := dX12_tellsFlight_141_a.2.2.2.2.2.2.2.1
theorem dX12_tellsFlight_155 : decode cX12_tellsFlight 155 = .ok (.iload_n 3, 1) := dX12_tellsFlight_141_a.2.2.2.2.2.2.2.2.1
theorem dX12_tellsFlight_156 : decode cX12_tellsFlight 156 = .ok (.iconst 1, 1) := dX12_tellsFlight_141_a.2.2.2.2.2.2.2.2.2.1
theorem dX12_tellsFlight_157 : decode cX12_tellsFlight 157 = .ok (.invokevirtual 235, 3) := dX12_tellsFlight_141_a.2.2.2.2.2.2.2.2.2.2.1
theorem dX12_tellsFlight_160 : decode cX12_tellsFlight 160 = .ok (.i2l, 1) := dX12_tellsFlight_141_a.2.2.2.2.2.2.2.2.2.2.2.1
theorem dX12_tellsFlight_161 : decode cX12_tellsFlight 161 = .ok (.ladd, 1) := dX12_tellsFlight_141_a.2.2.2.2.2.2.2.2.2.2.2.2.1
theorem dX12_tellsFlight_162 : decode cX12_tellsFlight 162 = .ok (.lstore 4, 2) := dX12_tellsFlight_141_a.2.2.2.2.2.2.2.2.2.2.2.2.2.1
theorem dX12_tellsFlight_164 : decode cX12_tellsFlight 164 = .ok (.ldc2_w 294, 3) := dX12_tellsFlight_141_a.2.2.2.2.2.2.2.2.2.2.2.2.2.2.1
theorem dX12_tellsFlight_167 : decode cX12_tellsFlight 167 = .ok (.lload 4, 2) := dX12_tellsFlight_141_a.2.2.2.2.2.2.2.2.2.2.2.2.2.2.2
theorem dX12_tellsFlight_169_a : (decode cX12_tellsFlight 169 = .ok (.lmul, 1)) ∧ (decode cX12_tellsFlight 170 = .ok (.aload_n 0, 1)) ∧ (decode cX12_tellsFlight 171 = .ok (.iload_n 3, 1)) ∧ (decode cX12_tellsFlight 172 = .ok (.invokevirtual 250, 3)) ∧ (decode cX12_tellsFlight 175 = .ok (.i2l, 1)) ∧ (decode cX12_tellsFlight 176 = .ok (.ladd, 1)) ∧ (decode cX12_tellsFlight 177 = .ok (.lstore 4, 2)) ∧ (decode cX12_tellsFlight 179 = .ok (.ldc2_w 294, 3)) ∧ (decode cX12_tellsFlight 182 = .ok (.lload 4, 2)) ∧ (decode cX12_tellsFlight 184 = .ok (.lmul, 1)) ∧ (decode cX12_tellsFlight 185 = .ok (.aload_n 0, 1)) ∧ (decode cX12_tellsFlight 186 = .ok (.iconst 5, 1)) ∧ (decode cX12_tellsFlight 187 = .ok (.iload_n 3, 1)) ∧ (decode cX12_tellsFlight 188 = .ok (.iconst 0, 1)) ∧ (decode cX12_tellsFlight 189 = .ok (.invokevirtual 299, 3)) ∧ (decode cX12_tellsFlight 192 = .ok (.ladd, 1)) := by decide +kernel
theorem dX12_tellsFlight_169 : decode cX12_tellsFlight 169 = .ok (.lmul, 1) := dX12_tellsFlight_169_a.1
theorem dX12_tellsFlight_170 : decode cX12_tellsFlight 170 = .ok (.aload_n 0, 1) := dX12_tellsFlight_169_a.2.1
theorem dX12_tellsFlight_171 : decode cX12_tellsFlight 171 = .ok (.iload_n 3, 1) := dX12_tellsFlight_169_a.2.2.1
theorem dX12_tellsFlight_172 : decode cX12_tellsFlight 172 = .ok (.invokevirtual 250, 3) := dX12_tellsFlight_169_a.2.2.2.1
theorem dX12_tellsFlight_175 : decode cX12_tellsFlight 175 = .ok (.i2l, 1) := dX12_tellsFlight_169_a.2.2.2.2.1
theorem dX12_tellsFlight_176 : decode cX12_tellsFlight 176 = .ok (.ladd, 1) := dX12_tellsFlight_169_a.2.2.2.2.2.1
theorem dX12_tellsFlight_177 : decode cX12_tellsFlight 177 = .ok (.lstore 4, 2) := dX12_tellsFlight_169_a.2.2.2.2.2.2.1
theorem dX12_tellsFlight_179 : decode cX12_tellsFlight 179 = .ok (.ldc2_w 294, 3) := dX12_tellsFlight_169_a.2.2.2.2.2.2.2.1
theorem dX12_tellsFlight_182 : decode cX12_tellsFlight 182 = .ok (.lload 4, 2) := dX12_tellsFlight_169_a.2.2.2.2.2.2.2.2.1
theorem dX12_tellsFlight_184 : decode cX12_tellsFlight 184 = .ok (.lmul, 1) := dX12_tellsFlight_169_a.2.2.2.2.2.2.2.2.2.1
theorem dX12_tellsFlight_185 : decode cX12_tellsFlight 185 = .ok (.aload_n 0, 1) := dX12_tellsFlight_169_a.2.2.2.2.2.2.2.2.2.2.1
theorem dX12_tellsFlight_186 : decode cX12_tellsFlight 186 = .ok (.iconst 5, 1) := dX12_tellsFlight_169_a.2.2.2.2.2.2.2.2.2.2.2.1
theorem dX12_tellsFlight_187 : decode cX12_tellsFlight 187 = .ok (.iload_n 3, 1) := dX12_tellsFlight_169_a.2.2.2.2.2.2.2.2.2.2.2.2.1
theorem dX12_tellsFlight_188 : decode cX12_tellsFlight 188 = .ok (.iconst 0, 1) := dX12_tellsFlight_169_a.2.2.2.2.2.2.2.2.2.2.2.2.2.1
theorem dX12_tellsFlight_189 : decode cX12_tellsFlight 189 = .ok (.invokevirtual 299, 3) := dX12_tellsFlight_169_a.2.2.2.2.2.2.2.2.2.2.2.2.2.2.1
theorem dX12_tellsFlight_192 : decode cX12_tellsFlight 192 = .ok (.ladd, 1) := dX12_tellsFlight_169_a.2.2.2.2.2.2.2.2.2.2.2.2.2.2.2
theorem dX12_tellsFlight_193_a : (decode cX12_tellsFlight 193 = .ok (.lstore 4, 2)) ∧ (decode cX12_tellsFlight 195 = .ok (.ldc2_w 294, 3)) ∧ (decode cX12_tellsFlight 198 = .ok (.lload 4, 2)) ∧ (decode cX12_tellsFlight 200 = .ok (.lmul, 1)) ∧ (decode cX12_tellsFlight 201 = .ok (.aload_n 0, 1)) ∧ (decode cX12_tellsFlight 202 = .ok (.iconst 5, 1)) ∧ (decode cX12_tellsFlight 203 = .ok (.iload_n 3, 1)) ∧ (decode cX12_tellsFlight 204 = .ok (.iconst 1, 1)) ∧ (decode cX12_tellsFlight 205 = .ok (.invokevirtual 299, 3)) ∧ (decode cX12_tellsFlight 208 = .ok (.ladd, 1)) ∧ (decode cX12_tellsFlight 209 = .ok (.lreturn, 1)) := by decide +kernel
theorem dX12_tellsFlight_193 : decode cX12_tellsFlight 193 = .ok (.lstore 4, 2) := dX12_tellsFlight_193_a.1
theorem dX12_tellsFlight_195 : decode cX12_tellsFlight 195 = .ok (.ldc2_w 294, 3) := dX12_tellsFlight_193_a.2.1
theorem dX12_tellsFlight_198 : decode cX12_tellsFlight 198 = .ok (.lload 4, 2) := dX12_tellsFlight_193_a.2.2.1
theorem dX12_tellsFlight_200 : decode cX12_tellsFlight 200 = .ok (.lmul, 1) := dX12_tellsFlight_193_a.2.2.2.1
theorem dX12_tellsFlight_201 : decode cX12_tellsFlight 201 = .ok (.aload_n 0, 1) := dX12_tellsFlight_193_a.2.2.2.2.1
theorem dX12_tellsFlight_202 : decode cX12_tellsFlight 202 = .ok (.iconst 5, 1) := dX12_tellsFlight_193_a.2.2.2.2.2.1
theorem dX12_tellsFlight_203 : decode cX12_tellsFlight 203 = .ok (.iload_n 3, 1) := dX12_tellsFlight_193_a.2.2.2.2.2.2.1
theorem dX12_tellsFlight_204 : decode cX12_tellsFlight 204 = .ok (.iconst 1, 1) := dX12_tellsFlight_193_a.2.2.2.2.2.2.2.1
theorem dX12_tellsFlight_205 : decode cX12_tellsFlight 205 = .ok (.invokevirtual 299, 3) := dX12_tellsFlight_193_a.2.2.2.2.2.2.2.2.1
theorem dX12_tellsFlight_208 : decode cX12_tellsFlight 208 = .ok (.ladd, 1) := dX12_tellsFlight_193_a.2.2.2.2.2.2.2.2.2.1
theorem dX12_tellsFlight_209 : decode cX12_tellsFlight 209 = .ok (.lreturn, 1) := dX12_tellsFlight_193_a.2.2.2.2.2.2.2.2.2.2
theorem dX12_digest_0_a : (decode cX12_digest 0 = .ok (.ldc2_w 303, 3)) ∧ (decode cX12_digest 3 = .ok (.lstore_n 1, 1)) ∧ (decode cX12_digest 4 = .ok (.iconst 0, 1)) ∧ (decode cX12_digest 5 = .ok (.istore_n 3, 1)) ∧ (decode cX12_digest 6 = .ok (.iload_n 3, 1)) ∧ (decode cX12_digest 7 = .ok (.bipush 8, 2)) ∧ (decode cX12_digest 9 = .ok (.if_icmp .ge 22, 3)) ∧ (decode cX12_digest 12 = .ok (.ldc2_w 294, 3)) ∧ (decode cX12_digest 15 = .ok (.lload_n 1, 1)) ∧ (decode cX12_digest 16 = .ok (.lmul, 1)) ∧ (decode cX12_digest 17 = .ok (.aload_n 0, 1)) ∧ (decode cX12_digest 18 = .ok (.iload_n 3, 1)) ∧ (decode cX12_digest 19 = .ok (.invokevirtual 305, 3)) ∧ (decode cX12_digest 22 = .ok (.i2l, 1)) ∧ (decode cX12_digest 23 = .ok (.ladd, 1)) ∧ (decode cX12_digest 24 = .ok (.lstore_n 1, 1)) := by decide +kernel
theorem dX12_digest_0 : decode cX12_digest 0 = .ok (.ldc2_w 303, 3) := dX12_digest_0_a.1
theorem dX12_digest_3 : decode cX12_digest 3 = .ok (.lstore_n 1, 1) := dX12_digest_0_a.2.1
theorem dX12_digest_4 : decode cX12_digest 4 = .ok (.iconst 0, 1) := dX12_digest_0_a.2.2.1
theorem dX12_digest_5 : decode cX12_digest 5 = .ok (.istore_n 3, 1) := dX12_digest_0_a.2.2.2.1
theorem dX12_digest_6 : decode cX12_digest 6 = .ok (.iload_n 3, 1) := dX12_digest_0_a.2.2.2.2.1
theorem dX12_digest_7 : decode cX12_digest 7 = .ok (.bipush 8, 2) := dX12_digest_0_a.2.2.2.2.2.1
theorem dX12_digest_9 : decode cX12_digest 9 = .ok (.if_icmp .ge 22, 3) := dX12_digest_0_a.2.2.2.2.2.2.1
theorem dX12_digest_12 : decode cX12_digest 12 = .ok (.ldc2_w 294, 3) := dX12_digest_0_a.2.2.2.2.2.2.2.1
theorem dX12_digest_15 : decode cX12_digest 15 = .ok (.lload_n 1, 1) := dX12_digest_0_a.2.2.2.2.2.2.2.2.1
theorem dX12_digest_16 : decode cX12_digest 16 = .ok (.lmul, 1) := dX12_digest_0_a.2.2.2.2.2.2.2.2.2.1
theorem dX12_digest_17 : decode cX12_digest 17 = .ok (.aload_n 0, 1) := dX12_digest_0_a.2.2.2.2.2.2.2.2.2.2.1
theorem dX12_digest_18 : decode cX12_digest 18 = .ok (.iload_n 3, 1) := dX12_digest_0_a.2.2.2.2.2.2.2.2.2.2.2.1
theorem dX12_digest_19 : decode cX12_digest 19 = .ok (.invokevirtual 305, 3) := dX12_digest_0_a.2.2.2.2.2.2.2.2.2.2.2.2.1
theorem dX12_digest_22 : decode cX12_digest 22 = .ok (.i2l, 1) := dX12_digest_0_a.2.2.2.2.2.2.2.2.2.2.2.2.2.1
theorem dX12_digest_23 : decode cX12_digest 23 = .ok (.ladd, 1) := dX12_digest_0_a.2.2.2.2.2.2.2.2.2.2.2.2.2.2.1
theorem dX12_digest_24 : decode cX12_digest 24 = .ok (.lstore_n 1, 1) := dX12_digest_0_a.2.2.2.2.2.2.2.2.2.2.2.2.2.2.2
theorem dX12_digest_25_a : (decode cX12_digest 25 = .ok (.iinc 3 1, 3)) ∧ (decode cX12_digest 28 = .ok (.goto (-22), 3)) ∧ (decode cX12_digest 31 = .ok (.iconst 0, 1)) ∧ (decode cX12_digest 32 = .ok (.istore_n 3, 1)) ∧ (decode cX12_digest 33 = .ok (.iload_n 3, 1)) ∧ (decode cX12_digest 34 = .ok (.iconst 3, 1)) ∧ (decode cX12_digest 35 = .ok (.if_icmp .ge 22, 3)) ∧ (decode cX12_digest 38 = .ok (.ldc2_w 294, 3)) ∧ (decode cX12_digest 41 = .ok (.lload_n 1, 1)) ∧ (decode cX12_digest 42 = .ok (.lmul, 1)) ∧ (decode cX12_digest 43 = .ok (.aload_n 0, 1)) ∧ (decode cX12_digest 44 = .ok (.iload_n 3, 1)) ∧ (decode cX12_digest 45 = .ok (.invokevirtual 138, 3)) ∧ (decode cX12_digest 48 = .ok (.i2l, 1)) ∧ (decode cX12_digest 49 = .ok (.ladd, 1)) ∧ (decode cX12_digest 50 = .ok (.lstore_n 1, 1)) := by decide +kernel
theorem dX12_digest_25 : decode cX12_digest 25 = .ok (.iinc 3 1, 3) := dX12_digest_25_a.1
theorem dX12_digest_28 : decode cX12_digest 28 = .ok (.goto (-22), 3) := dX12_digest_25_a.2.1
theorem dX12_digest_31 : decode cX12_digest 31 = .ok (.iconst 0, 1) := dX12_digest_25_a.2.2.1
theorem dX12_digest_32 : decode cX12_digest 32 = .ok (.istore_n 3, 1) := dX12_digest_25_a.2.2.2.1
theorem dX12_digest_33 : decode cX12_digest 33 = .ok (.iload_n 3, 1) := dX12_digest_25_a.2.2.2.2.1
theorem dX12_digest_34 : decode cX12_digest 34 = .ok (.iconst 3, 1) := dX12_digest_25_a.2.2.2.2.2.1
theorem dX12_digest_35 : decode cX12_digest 35 = .ok (.if_icmp .ge 22, 3) := dX12_digest_25_a.2.2.2.2.2.2.1
theorem dX12_digest_38 : decode cX12_digest 38 = .ok (.ldc2_w 294, 3) := dX12_digest_25_a.2.2.2.2.2.2.2.1
theorem dX12_digest_41 : decode cX12_digest 41 = .ok (.lload_n 1, 1) := dX12_digest_25_a.2.2.2.2.2.2.2.2.1
theorem dX12_digest_42 : decode cX12_digest 42 = .ok (.lmul, 1) := dX12_digest_25_a.2.2.2.2.2.2.2.2.2.1
theorem dX12_digest_43 : decode cX12_digest 43 = .ok (.aload_n 0, 1) := dX12_digest_25_a.2.2.2.2.2.2.2.2.2.2.1
theorem dX12_digest_44 : decode cX12_digest 44 = .ok (.iload_n 3, 1) := dX12_digest_25_a.2.2.2.2.2.2.2.2.2.2.2.1
theorem dX12_digest_45 : decode cX12_digest 45 = .ok (.invokevirtual 138, 3) := dX12_digest_25_a.2.2.2.2.2.2.2.2.2.2.2.2.1
theorem dX12_digest_48 : decode cX12_digest 48 = .ok (.i2l, 1) := dX12_digest_25_a.2.2.2.2.2.2.2.2.2.2.2.2.2.1
theorem dX12_digest_49 : decode cX12_digest 49 = .ok (.ladd, 1) := dX12_digest_25_a.2.2.2.2.2.2.2.2.2.2.2.2.2.2.1
theorem dX12_digest_50 : decode cX12_digest 50 = .ok (.lstore_n 1, 1) := dX12_digest_25_a.2.2.2.2.2.2.2.2.2.2.2.2.2.2.2
theorem dX12_digest_51_a : (decode cX12_digest 51 = .ok (.iinc 3 1, 3)) ∧ (decode cX12_digest 54 = .ok (.goto (-21), 3)) ∧ (decode cX12_digest 57 = .ok (.iconst 0, 1)) ∧ (decode cX12_digest 58 = .ok (.istore_n 3, 1)) ∧ (decode cX12_digest 59 = .ok (.iload_n 3, 1)) ∧ (decode cX12_digest 60 = .ok (.aload_n 0, 1)) ∧ (decode cX12_digest 61 = .ok (.getfield 107, 3)) ∧ (decode cX12_digest 64 = .ok (.if_icmp .ge 23, 3)) ∧ (decode cX12_digest 67 = .ok (.ldc2_w 294, 3)) ∧ (decode cX12_digest 70 = .ok (.lload_n 1, 1)) ∧ (decode cX12_digest 71 = .ok (.lmul, 1)) ∧ (decode cX12_digest 72 = .ok (.aload_n 0, 1)) ∧ (decode cX12_digest 73 = .ok (.getfield 28, 3)) ∧ (decode cX12_digest 76 = .ok (.iload_n 3, 1)) ∧ (decode cX12_digest 77 = .ok (.iaload, 1)) ∧ (decode cX12_digest 78 = .ok (.i2l, 1)) := by decide +kernel
theorem dX12_digest_51 : decode cX12_digest 51 = .ok (.iinc 3 1, 3) := dX12_digest_51_a.1
theorem dX12_digest_54 : decode cX12_digest 54 = .ok (.goto (-21), 3) := dX12_digest_51_a.2.1
theorem dX12_digest_57 : decode cX12_digest 57 = .ok (.iconst 0, 1) := dX12_digest_51_a.2.2.1
theorem dX12_digest_58 : decode cX12_digest 58 = .ok (.istore_n 3, 1) := dX12_digest_51_a.2.2.2.1
theorem dX12_digest_59 : decode cX12_digest 59 = .ok (.iload_n 3, 1) := dX12_digest_51_a.2.2.2.2.1
theorem dX12_digest_60 : decode cX12_digest 60 = .ok (.aload_n 0, 1) := dX12_digest_51_a.2.2.2.2.2.1
theorem dX12_digest_61 : decode cX12_digest 61 = .ok (.getfield 107, 3) := dX12_digest_51_a.2.2.2.2.2.2.1
theorem dX12_digest_64 : decode cX12_digest 64 = .ok (.if_icmp .ge 23, 3) := dX12_digest_51_a.2.2.2.2.2.2.2.1
theorem dX12_digest_67 : decode cX12_digest 67 = .ok (.ldc2_w 294, 3) := dX12_digest_51_a.2.2.2.2.2.2.2.2.1
theorem dX12_digest_70 : decode cX12_digest 70 = .ok (.lload_n 1, 1) := dX12_digest_51_a.2.2.2.2.2.2.2.2.2.1
theorem dX12_digest_71 : decode cX12_digest 71 = .ok (.lmul, 1) := dX12_digest_51_a.2.2.2.2.2.2.2.2.2.2.1
theorem dX12_digest_72 : decode cX12_digest 72 = .ok (.aload_n 0, 1) := dX12_digest_51_a.2.2.2.2.2.2.2.2.2.2.2.1
theorem dX12_digest_73 : decode cX12_digest 73 = .ok (.getfield 28, 3) := dX12_digest_51_a.2.2.2.2.2.2.2.2.2.2.2.2.1
theorem dX12_digest_76 : decode cX12_digest 76 = .ok (.iload_n 3, 1) := dX12_digest_51_a.2.2.2.2.2.2.2.2.2.2.2.2.2.1
theorem dX12_digest_77 : decode cX12_digest 77 = .ok (.iaload, 1) := dX12_digest_51_a.2.2.2.2.2.2.2.2.2.2.2.2.2.2.1
theorem dX12_digest_78 : decode cX12_digest 78 = .ok (.i2l, 1) := dX12_digest_51_a.2.2.2.2.2.2.2.2.2.2.2.2.2.2.2
theorem dX12_digest_79_a : (decode cX12_digest 79 = .ok (.ladd, 1)) ∧ (decode cX12_digest 80 = .ok (.lstore_n 1, 1)) ∧ (decode cX12_digest 81 = .ok (.iinc 3 1, 3)) ∧ (decode cX12_digest 84 = .ok (.goto (-25), 3)) ∧ (decode cX12_digest 87 = .ok (.iconst 0, 1)) ∧ (decode cX12_digest 88 = .ok (.istore_n 3, 1)) ∧ (decode cX12_digest 89 = .ok (.iload_n 3, 1)) ∧ (decode cX12_digest 90 = .ok (.aload_n 0, 1)) ∧ (decode cX12_digest 91 = .ok (.getfield 116, 3)) ∧ (decode cX12_digest 94 = .ok (.if_icmp .ge 69, 3)) ∧ (decode cX12_digest 97 = .ok (.iconst 0, 1)) ∧ (decode cX12_digest 98 = .ok (.istore 4, 2)) ∧ (decode cX12_digest 100 = .ok (.iload 4, 2)) ∧ (decode cX12_digest 102 = .ok (.iconst 4, 1)) ∧ (decode cX12_digest 103 = .ok (.if_icmp .ge 28, 3)) ∧ (decode cX12_digest 106 = .ok (.ldc2_w 294, 3)) := by decide +kernel
theorem dX12_digest_79 : decode cX12_digest 79 = .ok (.ladd, 1) := dX12_digest_79_a.1
theorem dX12_digest_80 : decode cX12_digest 80 = .ok (.lstore_n 1, 1) := dX12_digest_79_a.2.1
theorem dX12_digest_81 : decode cX12_digest 81 = .ok (.iinc 3 1, 3) := dX12_digest_79_a.2.2.1
theorem dX12_digest_84 : decode cX12_digest 84 = .ok (.goto (-25), 3) := dX12_digest_79_a.2.2.2.1
theorem dX12_digest_87 : decode cX12_digest 87 = .ok (.iconst 0, 1) := dX12_digest_79_a.2.2.2.2.1
theorem dX12_digest_88 : decode cX12_digest 88 = .ok (.istore_n 3, 1) := dX12_digest_79_a.2.2.2.2.2.1
theorem dX12_digest_89 : decode cX12_digest 89 = .ok (.iload_n 3, 1) := dX12_digest_79_a.2.2.2.2.2.2.1
theorem dX12_digest_90 : decode cX12_digest 90 = .ok (.aload_n 0, 1) := dX12_digest_79_a.2.2.2.2.2.2.2.1
theorem dX12_digest_91 : decode cX12_digest 91 = .ok (.getfield 116, 3) := dX12_digest_79_a.2.2.2.2.2.2.2.2.1
theorem dX12_digest_94 : decode cX12_digest 94 = .ok (.if_icmp .ge 69, 3) := dX12_digest_79_a.2.2.2.2.2.2.2.2.2.1
theorem dX12_digest_97 : decode cX12_digest 97 = .ok (.iconst 0, 1) := dX12_digest_79_a.2.2.2.2.2.2.2.2.2.2.1
theorem dX12_digest_98 : decode cX12_digest 98 = .ok (.istore 4, 2) := dX12_digest_79_a.2.2.2.2.2.2.2.2.2.2.2.1
theorem dX12_digest_100 : decode cX12_digest 100 = .ok (.iload 4, 2) := dX12_digest_79_a.2.2.2.2.2.2.2.2.2.2.2.2.1
theorem dX12_digest_102 : decode cX12_digest 102 = .ok (.iconst 4, 1) := dX12_digest_79_a.2.2.2.2.2.2.2.2.2.2.2.2.2.1
theorem dX12_digest_103 : decode cX12_digest 103 = .ok (.if_icmp .ge 28, 3) := dX12_digest_79_a.2.2.2.2.2.2.2.2.2.2.2.2.2.2.1
theorem dX12_digest_106 : decode cX12_digest 106 = .ok (.ldc2_w 294, 3) := dX12_digest_79_a.2.2.2.2.2.2.2.2.2.2.2.2.2.2.2
theorem dX12_digest_109_a : (decode cX12_digest 109 = .ok (.lload_n 1, 1)) ∧ (decode cX12_digest 110 = .ok (.lmul, 1)) ∧ (decode cX12_digest 111 = .ok (.aload_n 0, 1)) ∧ (decode cX12_digest 112 = .ok (.getfield 31, 3)) ∧ (decode cX12_digest 115 = .ok (.iconst 4, 1)) ∧ (decode cX12_digest 116 = .ok (.iload_n 3, 1)) ∧ (decode cX12_digest 117 = .ok (.imul, 1)) ∧ (decode cX12_digest 118 = .ok (.iload 4, 2)) ∧ (decode cX12_digest 120 = .ok (.iadd, 1)) ∧ (decode cX12_digest 121 = .ok (.iaload, 1)) ∧ (decode cX12_digest 122 = .ok (.i2l, 1)) ∧ (decode cX12_digest 123 = .ok (.ladd, 1)) ∧ (decode cX12_digest 124 = .ok (.lstore_n 1, 1)) ∧ (decode cX12_digest 125 = .ok (.iinc 4 1, 3)) ∧ (decode cX12_digest 128 = .ok (.goto (-28), 3)) ∧ (decode cX12_digest 131 = .ok (.ldc2_w 294, 3)) := by decide +kernel
theorem dX12_digest_109 : decode cX12_digest 109 = .ok (.lload_n 1, 1) := dX12_digest_109_a.1
theorem dX12_digest_110 : decode cX12_digest 110 = .ok (.lmul, 1) := dX12_digest_109_a.2.1
theorem dX12_digest_111 : decode cX12_digest 111 = .ok (.aload_n 0, 1) := dX12_digest_109_a.2.2.1
theorem dX12_digest_112 : decode cX12_digest 112 = .ok (.getfield 31, 3) := dX12_digest_109_a.2.2.2.1
theorem dX12_digest_115 : decode cX12_digest 115 = .ok (.iconst 4, 1) := dX12_digest_109_a.2.2.2.2.1
theorem dX12_digest_116 : decode cX12_digest 116 = .ok (.iload_n 3, 1) := dX12_digest_109_a.2.2.2.2.2.1
theorem dX12_digest_117 : decode cX12_digest 117 = .ok (.imul, 1) := dX12_digest_109_a.2.2.2.2.2.2.1
theorem dX12_digest_118 : decode cX12_digest 118 = .ok (.iload 4, 2) := dX12_digest_109_a.2.2.2.2.2.2.2.1
theorem dX12_digest_120 : decode cX12_digest 120 = .ok (.iadd, 1) := dX12_digest_109_a.2.2.2.2.2.2.2.2.1
theorem dX12_digest_121 : decode cX12_digest 121 = .ok (.iaload, 1) := dX12_digest_109_a.2.2.2.2.2.2.2.2.2.1
theorem dX12_digest_122 : decode cX12_digest 122 = .ok (.i2l, 1) := dX12_digest_109_a.2.2.2.2.2.2.2.2.2.2.1
theorem dX12_digest_123 : decode cX12_digest 123 = .ok (.ladd, 1) := dX12_digest_109_a.2.2.2.2.2.2.2.2.2.2.2.1
theorem dX12_digest_124 : decode cX12_digest 124 = .ok (.lstore_n 1, 1) := dX12_digest_109_a.2.2.2.2.2.2.2.2.2.2.2.2.1
theorem dX12_digest_125 : decode cX12_digest 125 = .ok (.iinc 4 1, 3) := dX12_digest_109_a.2.2.2.2.2.2.2.2.2.2.2.2.2.1
theorem dX12_digest_128 : decode cX12_digest 128 = .ok (.goto (-28), 3) := dX12_digest_109_a.2.2.2.2.2.2.2.2.2.2.2.2.2.2.1
theorem dX12_digest_131 : decode cX12_digest 131 = .ok (.ldc2_w 294, 3) := dX12_digest_109_a.2.2.2.2.2.2.2.2.2.2.2.2.2.2.2
theorem dX12_digest_134_a : (decode cX12_digest 134 = .ok (.lload_n 1, 1)) ∧ (decode cX12_digest 135 = .ok (.lmul, 1)) ∧ (decode cX12_digest 136 = .ok (.aload_n 0, 1)) ∧ (decode cX12_digest 137 = .ok (.iload_n 3, 1)) ∧ (decode cX12_digest 138 = .ok (.invokevirtual 247, 3)) ∧ (decode cX12_digest 141 = .ok (.i2l, 1)) ∧ (decode cX12_digest 142 = .ok (.ladd, 1)) ∧ (decode cX12_digest 143 = .ok (.lstore_n 1, 1)) ∧ (decode cX12_digest 144 = .ok (.ldc2_w 294, 3)) ∧ (decode cX12_digest 147 = .ok (.lload_n 1, 1)) ∧ (decode cX12_digest 148 = .ok (.lmul, 1)) ∧ (decode cX12_digest 149 = .ok (.aload_n 0, 1)) ∧ (decode cX12_digest 150 = .ok (.iload_n 3, 1)) ∧ (decode cX12_digest 151 = .ok (.invokevirtual 256, 3)) ∧ (decode cX12_digest 154 = .ok (.i2l, 1)) ∧ (decode cX12_digest 155 = .ok (.ladd, 1)) := by decide +kernel
theorem dX12_digest_134 : decode cX12_digest 134 = .ok (.lload_n 1, 1) := dX12_digest_134_a.1
theorem dX12_digest_135 : decode cX12_digest 135 = .ok (.lmul, 1) := dX12_digest_134_a.2.1
theorem dX12_digest_136 : decode cX12_digest 136 = .ok (.aload_n 0, 1) := dX12_digest_134_a.2.2.1
theorem dX12_digest_137 : decode cX12_digest 137 = .ok (.iload_n 3, 1) := dX12_digest_134_a.2.2.2.1
theorem dX12_digest_138 : decode cX12_digest 138 = .ok (.invokevirtual 247, 3) := dX12_digest_134_a.2.2.2.2.1
theorem dX12_digest_141 : decode cX12_digest 141 = .ok (.i2l, 1) := dX12_digest_134_a.2.2.2.2.2.1
theorem dX12_digest_142 : decode cX12_digest 142 = .ok (.ladd, 1) := dX12_digest_134_a.2.2.2.2.2.2.1
theorem dX12_digest_143 : decode cX12_digest 143 = .ok (.lstore_n 1, 1) := dX12_digest_134_a.2.2.2.2.2.2.2.1
theorem dX12_digest_144 : decode cX12_digest 144 = .ok (.ldc2_w 294, 3) := dX12_digest_134_a.2.2.2.2.2.2.2.2.1
theorem dX12_digest_147 : decode cX12_digest 147 = .ok (.lload_n 1, 1) := dX12_digest_134_a.2.2.2.2.2.2.2.2.2.1
theorem dX12_digest_148 : decode cX12_digest 148 = .ok (.lmul, 1) := dX12_digest_134_a.2.2.2.2.2.2.2.2.2.2.1
theorem dX12_digest_149 : decode cX12_digest 149 = .ok (.aload_n 0, 1) := dX12_digest_134_a.2.2.2.2.2.2.2.2.2.2.2.1
theorem dX12_digest_150 : decode cX12_digest 150 = .ok (.iload_n 3, 1) := dX12_digest_134_a.2.2.2.2.2.2.2.2.2.2.2.2.1
theorem dX12_digest_151 : decode cX12_digest 151 = .ok (.invokevirtual 256, 3) := dX12_digest_134_a.2.2.2.2.2.2.2.2.2.2.2.2.2.1
theorem dX12_digest_154 : decode cX12_digest 154 = .ok (.i2l, 1) := dX12_digest_134_a.2.2.2.2.2.2.2.2.2.2.2.2.2.2.1
theorem dX12_digest_155 : decode cX12_digest 155 = .ok (.ladd, 1) := dX12_digest_134_a.2.2.2.2.2.2.2.2.2.2.2.2.2.2.2
theorem dX12_digest_156_a : (decode cX12_digest 156 = .ok (.lstore_n 1, 1)) ∧ (decode cX12_digest 157 = .ok (.iinc 3 1, 3)) ∧ (decode cX12_digest 160 = .ok (.goto (-71), 3)) ∧ (decode cX12_digest 163 = .ok (.iconst 0, 1)) ∧ (decode cX12_digest 164 = .ok (.istore_n 3, 1)) ∧ (decode cX12_digest 165 = .ok (.iload_n 3, 1)) ∧ (decode cX12_digest 166 = .ok (.aload_n 0, 1)) ∧ (decode cX12_digest 167 = .ok (.getfield 122, 3)) ∧ (decode cX12_digest 170 = .ok (.if_icmp .ge 43, 3)) ∧ (decode cX12_digest 173 = .ok (.ldc2_w 294, 3)) ∧ (decode cX12_digest 176 = .ok (.lload_n 1, 1)) ∧ (decode cX12_digest 177 = .ok (.lmul, 1)) ∧ (decode cX12_digest 178 = .ok (.aload_n 0, 1)) ∧ (decode cX12_digest 179 = .ok (.getfield 34, 3)) ∧ (decode cX12_digest 182 = .ok (.iconst 2, 1)) ∧ (decode cX12_digest 183 = .ok (.iload_n 3, 1)) := by decide +kernel
theorem dX12_digest_156 : decode cX12_digest 156 = .ok (.lstore_n 1, 1) := dX12_digest_156_a.1
theorem dX12_digest_157 : decode cX12_digest 157 = .ok (.iinc 3 1, 3) := dX12_digest_156_a.2.1
theorem dX12_digest_160 : decode cX12_digest 160 = .ok (.goto (-71), 3) := dX12_digest_156_a.2.2.1
theorem dX12_digest_163 : decode cX12_digest 163 = .ok (.iconst 0, 1) := dX12_digest_156_a.2.2.2.1
theorem dX12_digest_164 : decode cX12_digest 164 = .ok (.istore_n 3, 1) := dX12_digest_156_a.2.2.2.2.1
theorem dX12_digest_165 : decode cX12_digest 165 = .ok (.iload_n 3, 1) := dX12_digest_156_a.2.2.2.2.2.1
theorem dX12_digest_166 : decode cX12_digest 166 = .ok (.aload_n 0, 1) := dX12_digest_156_a.2.2.2.2.2.2.1
theorem dX12_digest_167 : decode cX12_digest 167 = .ok (.getfield 122, 3) := dX12_digest_156_a.2.2.2.2.2.2.2.1
theorem dX12_digest_170 : decode cX12_digest 170 = .ok (.if_icmp .ge 43, 3) := dX12_digest_156_a.2.2.2.2.2.2.2.2.1
theorem dX12_digest_173 : decode cX12_digest 173 = .ok (.ldc2_w 294, 3) := dX12_digest_156_a.2.2.2.2.2.2.2.2.2.1
theorem dX12_digest_176 : decode cX12_digest 176 = .ok (.lload_n 1, 1) := dX12_digest_156_a.2.2.2.2.2.2.2.2.2.2.1
theorem dX12_digest_177 : decode cX12_digest 177 = .ok (.lmul, 1) := dX12_digest_156_a.2.2.2.2.2.2.2.2.2.2.2.1
theorem dX12_digest_178 : decode cX12_digest 178 = .ok (.aload_n 0, 1) := dX12_digest_156_a.2.2.2.2.2.2.2.2.2.2.2.2.1
theorem dX12_digest_179 : decode cX12_digest 179 = .ok (.getfield 34, 3) := dX12_digest_156_a.2.2.2.2.2.2.2.2.2.2.2.2.2.1
theorem dX12_digest_182 : decode cX12_digest 182 = .ok (.iconst 2, 1) := dX12_digest_156_a.2.2.2.2.2.2.2.2.2.2.2.2.2.2.1
theorem dX12_digest_183 : decode cX12_digest 183 = .ok (.iload_n 3, 1) := dX12_digest_156_a.2.2.2.2.2.2.2.2.2.2.2.2.2.2.2
theorem dX12_digest_184_a : (decode cX12_digest 184 = .ok (.imul, 1)) ∧ (decode cX12_digest 185 = .ok (.iaload, 1)) ∧ (decode cX12_digest 186 = .ok (.i2l, 1)) ∧ (decode cX12_digest 187 = .ok (.ladd, 1)) ∧ (decode cX12_digest 188 = .ok (.lstore_n 1, 1)) ∧ (decode cX12_digest 189 = .ok (.ldc2_w 294, 3)) ∧ (decode cX12_digest 192 = .ok (.lload_n 1, 1)) ∧ (decode cX12_digest 193 = .ok (.lmul, 1)) ∧ (decode cX12_digest 194 = .ok (.aload_n 0, 1)) ∧ (decode cX12_digest 195 = .ok (.getfield 34, 3)) ∧ (decode cX12_digest 198 = .ok (.iconst 2, 1)) ∧ (decode cX12_digest 199 = .ok (.iload_n 3, 1)) ∧ (decode cX12_digest 200 = .ok (.imul, 1)) ∧ (decode cX12_digest 201 = .ok (.iconst 1, 1)) ∧ (decode cX12_digest 202 = .ok (.iadd, 1)) ∧ (decode cX12_digest 203 = .ok (.iaload, 1)) := by decide +kernel
theorem dX12_digest_184 : decode cX12_digest 184 = .ok (.imul, 1) := dX12_digest_184_a.1
theorem dX12_digest_185 : decode cX12_digest 185 = .ok (.iaload, 1) := dX12_digest_184_a.2.1
theorem dX12_digest_186 : decode cX12_digest 186 = .ok (.i2l, 1) := dX12_digest_184_a.2.2.1
theorem dX12_digest_187 : decode cX12_digest 187 = .ok (.ladd, 1) := dX12_digest_184_a.2.2.2.1
theorem dX12_digest_188 : decode cX12_digest 188 = .ok (.lstore_n 1, 1) := dX12_digest_184_a.2.2.2.2.1
theorem dX12_digest_189 : decode cX12_digest 189 = .ok (.ldc2_w 294, 3) := dX12_digest_184_a.2.2.2.2.2.1
theorem dX12_digest_192 : decode cX12_digest 192 = .ok (.lload_n 1, 1) := dX12_digest_184_a.2.2.2.2.2.2.1
theorem dX12_digest_193 : decode cX12_digest 193 = .ok (.lmul, 1) := dX12_digest_184_a.2.2.2.2.2.2.2.1
theorem dX12_digest_194 : decode cX12_digest 194 = .ok (.aload_n 0, 1) := dX12_digest_184_a.2.2.2.2.2.2.2.2.1
theorem dX12_digest_195 : decode cX12_digest 195 = .ok (.getfield 34, 3) := dX12_digest_184_a.2.2.2.2.2.2.2.2.2.1
theorem dX12_digest_198 : decode cX12_digest 198 = .ok (.iconst 2, 1) := dX12_digest_184_a.2.2.2.2.2.2.2.2.2.2.1
theorem dX12_digest_199 : decode cX12_digest 199 = .ok (.iload_n 3, 1) := dX12_digest_184_a.2.2.2.2.2.2.2.2.2.2.2.1
theorem dX12_digest_200 : decode cX12_digest 200 = .ok (.imul, 1) := dX12_digest_184_a.2.2.2.2.2.2.2.2.2.2.2.2.1
theorem dX12_digest_201 : decode cX12_digest 201 = .ok (.iconst 1, 1) := dX12_digest_184_a.2.2.2.2.2.2.2.2.2.2.2.2.2.1
theorem dX12_digest_202 : decode cX12_digest 202 = .ok (.iadd, 1) := dX12_digest_184_a.2.2.2.2.2.2.2.2.2.2.2.2.2.2.1
theorem dX12_digest_203 : decode cX12_digest 203 = .ok (.iaload, 1) := dX12_digest_184_a.2.2.2.2.2.2.2.2.2.2.2.2.2.2.2
theorem dX12_digest_204_a : (decode cX12_digest 204 = .ok (.i2l, 1)) ∧ (decode cX12_digest 205 = .ok (.ladd, 1)) ∧ (decode cX12_digest 206 = .ok (.lstore_n 1, 1)) ∧ (decode cX12_digest 207 = .ok (.iinc 3 1, 3)) ∧ (decode cX12_digest 210 = .ok (.goto (-45), 3)) ∧ (decode cX12_digest 213 = .ok (.iconst 0, 1)) ∧ (decode cX12_digest 214 = .ok (.istore_n 3, 1)) ∧ (decode cX12_digest 215 = .ok (.iload_n 3, 1)) ∧ (decode cX12_digest 216 = .ok (.aload_n 0, 1)) ∧ (decode cX12_digest 217 = .ok (.getfield 159, 3)) ∧ (decode cX12_digest 220 = .ok (.if_icmp .ge 16, 3)) ∧ (decode cX12_digest 223 = .ok (.aload_n 0, 1)) ∧ (decode cX12_digest 224 = .ok (.lload_n 1, 1)) ∧ (decode cX12_digest 225 = .ok (.iload_n 3, 1)) ∧ (decode cX12_digest 226 = .ok (.invokevirtual 308, 3)) ∧ (decode cX12_digest 229 = .ok (.lstore_n 1, 1)) := by decide +kernel
theorem dX12_digest_204 : decode cX12_digest 204 = .ok (.i2l, 1) := dX12_digest_204_a.1
theorem dX12_digest_205 : decode cX12_digest 205 = .ok (.ladd, 1) := dX12_digest_204_a.2.1
theorem dX12_digest_206 : decode cX12_digest 206 = .ok (.lstore_n 1, 1) := dX12_digest_204_a.2.2.1
theorem dX12_digest_207 : decode cX12_digest 207 = .ok (.iinc 3 1, 3) := dX12_digest_204_a.2.2.2.1
theorem dX12_digest_210 : decode cX12_digest 210 = .ok (.goto (-45), 3) := dX12_digest_204_a.2.2.2.2.1
theorem dX12_digest_213 : decode cX12_digest 213 = .ok (.iconst 0, 1) := dX12_digest_204_a.2.2.2.2.2.1
theorem dX12_digest_214 : decode cX12_digest 214 = .ok (.istore_n 3, 1) := dX12_digest_204_a.2.2.2.2.2.2.1
theorem dX12_digest_215 : decode cX12_digest 215 = .ok (.iload_n 3, 1) := dX12_digest_204_a.2.2.2.2.2.2.2.1
theorem dX12_digest_216 : decode cX12_digest 216 = .ok (.aload_n 0, 1) := dX12_digest_204_a.2.2.2.2.2.2.2.2.1
theorem dX12_digest_217 : decode cX12_digest 217 = .ok (.getfield 159, 3) := dX12_digest_204_a.2.2.2.2.2.2.2.2.2.1
theorem dX12_digest_220 : decode cX12_digest 220 = .ok (.if_icmp .ge 16, 3) := dX12_digest_204_a.2.2.2.2.2.2.2.2.2.2.1
theorem dX12_digest_223 : decode cX12_digest 223 = .ok (.aload_n 0, 1) := dX12_digest_204_a.2.2.2.2.2.2.2.2.2.2.2.1
theorem dX12_digest_224 : decode cX12_digest 224 = .ok (.lload_n 1, 1) := dX12_digest_204_a.2.2.2.2.2.2.2.2.2.2.2.2.1
theorem dX12_digest_225 : decode cX12_digest 225 = .ok (.iload_n 3, 1) := dX12_digest_204_a.2.2.2.2.2.2.2.2.2.2.2.2.2.1
theorem dX12_digest_226 : decode cX12_digest 226 = .ok (.invokevirtual 308, 3) := dX12_digest_204_a.2.2.2.2.2.2.2.2.2.2.2.2.2.2.1
theorem dX12_digest_229 : decode cX12_digest 229 = .ok (.lstore_n 1, 1) := dX12_digest_204_a.2.2.2.2.2.2.2.2.2.2.2.2.2.2.2
theorem dX12_digest_230_a : (decode cX12_digest 230 = .ok (.iinc 3 1, 3)) ∧ (decode cX12_digest 233 = .ok (.goto (-18), 3)) ∧ (decode cX12_digest 236 = .ok (.ldc2_w 294, 3)) ∧ (decode cX12_digest 239 = .ok (.lload_n 1, 1)) ∧ (decode cX12_digest 240 = .ok (.lmul, 1)) ∧ (decode cX12_digest 241 = .ok (.aload_n 0, 1)) ∧ (decode cX12_digest 242 = .ok (.invokevirtual 221, 3)) ∧ (decode cX12_digest 245 = .ok (.i2l, 1)) ∧ (decode cX12_digest 246 = .ok (.ladd, 1)) ∧ (decode cX12_digest 247 = .ok (.lstore_n 1, 1)) ∧ (decode cX12_digest 248 = .ok (.ldc2_w 294, 3)) ∧ (decode cX12_digest 251 = .ok (.lload_n 1, 1)) ∧ (decode cX12_digest 252 = .ok (.lmul, 1)) ∧ (decode cX12_digest 253 = .ok (.aload_n 0, 1)) ∧ (decode cX12_digest 254 = .ok (.bipush 7, 2)) ∧ (decode cX12_digest 256 = .ok (.bipush 30, 2)) := by decide +kernel
theorem dX12_digest_230 : decode cX12_digest 230 = .ok (.iinc 3 1, 3) := dX12_digest_230_a.1
theorem dX12_digest_233 : decode cX12_digest 233 = .ok (.goto (-18), 3) := dX12_digest_230_a.2.1
theorem dX12_digest_236 : decode cX12_digest 236 = .ok (.ldc2_w 294, 3) := dX12_digest_230_a.2.2.1
theorem dX12_digest_239 : decode cX12_digest 239 = .ok (.lload_n 1, 1) := dX12_digest_230_a.2.2.2.1
theorem dX12_digest_240 : decode cX12_digest 240 = .ok (.lmul, 1) := dX12_digest_230_a.2.2.2.2.1
theorem dX12_digest_241 : decode cX12_digest 241 = .ok (.aload_n 0, 1) := dX12_digest_230_a.2.2.2.2.2.1
theorem dX12_digest_242 : decode cX12_digest 242 = .ok (.invokevirtual 221, 3) := dX12_digest_230_a.2.2.2.2.2.2.1
theorem dX12_digest_245 : decode cX12_digest 245 = .ok (.i2l, 1) := dX12_digest_230_a.2.2.2.2.2.2.2.1
theorem dX12_digest_246 : decode cX12_digest 246 = .ok (.ladd, 1) := dX12_digest_230_a.2.2.2.2.2.2.2.2.1
theorem dX12_digest_247 : decode cX12_digest 247 = .ok (.lstore_n 1, 1) := dX12_digest_230_a.2.2.2.2.2.2.2.2.2.1
theorem dX12_digest_248 : decode cX12_digest 248 = .ok (.ldc2_w 294, 3) := dX12_digest_230_a.2.2.2.2.2.2.2.2.2.2.1
theorem dX12_digest_251 : decode cX12_digest 251 = .ok (.lload_n 1, 1) := dX12_digest_230_a.2.2.2.2.2.2.2.2.2.2.2.1
theorem dX12_digest_252 : decode cX12_digest 252 = .ok (.lmul, 1) := dX12_digest_230_a.2.2.2.2.2.2.2.2.2.2.2.2.1
theorem dX12_digest_253 : decode cX12_digest 253 = .ok (.aload_n 0, 1) := dX12_digest_230_a.2.2.2.2.2.2.2.2.2.2.2.2.2.1
theorem dX12_digest_254 : decode cX12_digest 254 = .ok (.bipush 7, 2) := dX12_digest_230_a.2.2.2.2.2.2.2.2.2.2.2.2.2.2.1
theorem dX12_digest_256 : decode cX12_digest 256 = .ok (.bipush 30, 2) := dX12_digest_230_a.2.2.2.2.2.2.2.2.2.2.2.2.2.2.2
theorem dX12_digest_258_a : (decode cX12_digest 258 = .ok (.iconst 0, 1)) ∧ (decode cX12_digest 259 = .ok (.invokevirtual 288, 3)) ∧ (decode cX12_digest 262 = .ok (.i2l, 1)) ∧ (decode cX12_digest 263 = .ok (.ladd, 1)) ∧ (decode cX12_digest 264 = .ok (.lstore_n 1, 1)) ∧ (decode cX12_digest 265 = .ok (.ldc2_w 294, 3)) ∧ (decode cX12_digest 268 = .ok (.lload_n 1, 1)) ∧ (decode cX12_digest 269 = .ok (.lmul, 1)) ∧ (decode cX12_digest 270 = .ok (.aload_n 0, 1)) ∧ (decode cX12_digest 271 = .ok (.bipush 7, 2)) ∧ (decode cX12_digest 273 = .ok (.bipush 30, 2)) ∧ (decode cX12_digest 275 = .ok (.iconst 1, 1)) ∧ (decode cX12_digest 276 = .ok (.invokevirtual 288, 3)) ∧ (decode cX12_digest 279 = .ok (.i2l, 1)) ∧ (decode cX12_digest 280 = .ok (.ladd, 1)) ∧ (decode cX12_digest 281 = .ok (.lreturn, 1)) := by decide +kernel
theorem dX12_digest_258 : decode cX12_digest 258 = .ok (.iconst 0, 1) := dX12_digest_258_a.1
theorem dX12_digest_259 : decode cX12_digest 259 = .ok (.invokevirtual 288, 3) := dX12_digest_258_a.2.1
theorem dX12_digest_262 : decode cX12_digest 262 = .ok (.i2l, 1) := dX12_digest_258_a.2.2.1
theorem dX12_digest_263 : decode cX12_digest 263 = .ok (.ladd, 1) := dX12_digest_258_a.2.2.2.1
theorem dX12_digest_264 : decode cX12_digest 264 = .ok (.lstore_n 1, 1) := dX12_digest_258_a.2.2.2.2.1
theorem dX12_digest_265 : decode cX12_digest 265 = .ok (.ldc2_w 294, 3) := dX12_digest_258_a.2.2.2.2.2.1
theorem dX12_digest_268 : decode cX12_digest 268 = .ok (.lload_n 1, 1) := dX12_digest_258_a.2.2.2.2.2.2.1
theorem dX12_digest_269 : decode cX12_digest 269 = .ok (.lmul, 1) := dX12_digest_258_a.2.2.2.2.2.2.2.1
theorem dX12_digest_270 : decode cX12_digest 270 = .ok (.aload_n 0, 1) := dX12_digest_258_a.2.2.2.2.2.2.2.2.1
theorem dX12_digest_271 : decode cX12_digest 271 = .ok (.bipush 7, 2) := dX12_digest_258_a.2.2.2.2.2.2.2.2.2.1
theorem dX12_digest_273 : decode cX12_digest 273 = .ok (.bipush 30, 2) := dX12_digest_258_a.2.2.2.2.2.2.2.2.2.2.1
theorem dX12_digest_275 : decode cX12_digest 275 = .ok (.iconst 1, 1) := dX12_digest_258_a.2.2.2.2.2.2.2.2.2.2.2.1
theorem dX12_digest_276 : decode cX12_digest 276 = .ok (.invokevirtual 288, 3) := dX12_digest_258_a.2.2.2.2.2.2.2.2.2.2.2.2.1
theorem dX12_digest_279 : decode cX12_digest 279 = .ok (.i2l, 1) := dX12_digest_258_a.2.2.2.2.2.2.2.2.2.2.2.2.2.1
theorem dX12_digest_280 : decode cX12_digest 280 = .ok (.ladd, 1) := dX12_digest_258_a.2.2.2.2.2.2.2.2.2.2.2.2.2.2.1
theorem dX12_digest_281 : decode cX12_digest 281 = .ok (.lreturn, 1) := dX12_digest_258_a.2.2.2.2.2.2.2.2.2.2.2.2.2.2.2
theorem dJ6_bitCount_0f7a4_0_a : (decode cJ6_bitCount_0f7a4 0 = .ok (.iload_n 0, 1)) ∧ (decode cJ6_bitCount_0f7a4 1 = .ok (.iload_n 0, 1)) ∧ (decode cJ6_bitCount_0f7a4 2 = .ok (.iconst 1, 1)) ∧ (decode cJ6_bitCount_0f7a4 3 = .ok (.iushr, 1)) ∧ (decode cJ6_bitCount_0f7a4 4 = .ok (.ldc_w 265, 3)) ∧ (decode cJ6_bitCount_0f7a4 7 = .ok (.iand, 1)) ∧ (decode cJ6_bitCount_0f7a4 8 = .ok (.isub, 1)) ∧ (decode cJ6_bitCount_0f7a4 9 = .ok (.istore_n 0, 1)) ∧ (decode cJ6_bitCount_0f7a4 10 = .ok (.iload_n 0, 1)) ∧ (decode cJ6_bitCount_0f7a4 11 = .ok (.ldc_w 266, 3)) ∧ (decode cJ6_bitCount_0f7a4 14 = .ok (.iand, 1)) ∧ (decode cJ6_bitCount_0f7a4 15 = .ok (.iload_n 0, 1)) ∧ (decode cJ6_bitCount_0f7a4 16 = .ok (.iconst 2, 1)) ∧ (decode cJ6_bitCount_0f7a4 17 = .ok (.iushr, 1)) ∧ (decode cJ6_bitCount_0f7a4 18 = .ok (.ldc_w 266, 3)) ∧ (decode cJ6_bitCount_0f7a4 21 = .ok (.iand, 1)) := by decide +kernel
theorem dJ6_bitCount_0f7a4_0 : decode cJ6_bitCount_0f7a4 0 = .ok (.iload_n 0, 1) := dJ6_bitCount_0f7a4_0_a.1
theorem dJ6_bitCount_0f7a4_1 : decode cJ6_bitCount_0f7a4 1 = .ok (.iload_n 0, 1) := dJ6_bitCount_0f7a4_0_a.2.1
theorem dJ6_bitCount_0f7a4_2 : decode cJ6_bitCount_0f7a4 2 = .ok (.iconst 1, 1) := dJ6_bitCount_0f7a4_0_a.2.2.1
theorem dJ6_bitCount_0f7a4_3 : decode cJ6_bitCount_0f7a4 3 = .ok (.iushr, 1) := dJ6_bitCount_0f7a4_0_a.2.2.2.1
theorem dJ6_bitCount_0f7a4_4 : decode cJ6_bitCount_0f7a4 4 = .ok (.ldc_w 265, 3) := dJ6_bitCount_0f7a4_0_a.2.2.2.2.1
theorem dJ6_bitCount_0f7a4_7 : decode cJ6_bitCount_0f7a4 7 = .ok (.iand, 1) := dJ6_bitCount_0f7a4_0_a.2.2.2.2.2.1
theorem dJ6_bitCount_0f7a4_8 : decode cJ6_bitCount_0f7a4 8 = .ok (.isub, 1) := dJ6_bitCount_0f7a4_0_a.2.2.2.2.2.2.1
theorem dJ6_bitCount_0f7a4_9 : decode cJ6_bitCount_0f7a4 9 = .ok (.istore_n 0, 1) := dJ6_bitCount_0f7a4_0_a.2.2.2.2.2.2.2.1
theorem dJ6_bitCount_0f7a4_10 : decode cJ6_bitCount_0f7a4 10 = .ok (.iload_n 0, 1) := dJ6_bitCount_0f7a4_0_a.2.2.2.2.2.2.2.2.1
theorem dJ6_bitCount_0f7a4_11 : decode cJ6_bitCount_0f7a4 11 = .ok (.ldc_w 266, 3) := dJ6_bitCount_0f7a4_0_a.2.2.2.2.2.2.2.2.2.1
theorem dJ6_bitCount_0f7a4_14 : decode cJ6_bitCount_0f7a4 14 = .ok (.iand, 1) := dJ6_bitCount_0f7a4_0_a.2.2.2.2.2.2.2.2.2.2.1
theorem dJ6_bitCount_0f7a4_15 : decode cJ6_bitCount_0f7a4 15 = .ok (.iload_n 0, 1) := dJ6_bitCount_0f7a4_0_a.2.2.2.2.2.2.2.2.2.2.2.1
theorem dJ6_bitCount_0f7a4_16 : decode cJ6_bitCount_0f7a4 16 = .ok (.iconst 2, 1) := dJ6_bitCount_0f7a4_0_a.2.2.2.2.2.2.2.2.2.2.2.2.1
theorem dJ6_bitCount_0f7a4_17 : decode cJ6_bitCount_0f7a4 17 = .ok (.iushr, 1) := dJ6_bitCount_0f7a4_0_a.2.2.2.2.2.2.2.2.2.2.2.2.2.1
theorem dJ6_bitCount_0f7a4_18 : decode cJ6_bitCount_0f7a4 18 = .ok (.ldc_w 266, 3) := dJ6_bitCount_0f7a4_0_a.2.2.2.2.2.2.2.2.2.2.2.2.2.2.1
theorem dJ6_bitCount_0f7a4_21 : decode cJ6_bitCount_0f7a4 21 = .ok (.iand, 1) := dJ6_bitCount_0f7a4_0_a.2.2.2.2.2.2.2.2.2.2.2.2.2.2.2
theorem dJ6_bitCount_0f7a4_22_a : (decode cJ6_bitCount_0f7a4 22 = .ok (.iadd, 1)) ∧ (decode cJ6_bitCount_0f7a4 23 = .ok (.istore_n 0, 1)) ∧ (decode cJ6_bitCount_0f7a4 24 = .ok (.iload_n 0, 1)) ∧ (decode cJ6_bitCount_0f7a4 25 = .ok (.iload_n 0, 1)) ∧ (decode cJ6_bitCount_0f7a4 26 = .ok (.iconst 4, 1)) ∧ (decode cJ6_bitCount_0f7a4 27 = .ok (.iushr, 1)) ∧ (decode cJ6_bitCount_0f7a4 28 = .ok (.iadd, 1)) ∧ (decode cJ6_bitCount_0f7a4 29 = .ok (.ldc_w 267, 3)) ∧ (decode cJ6_bitCount_0f7a4 32 = .ok (.iand, 1)) ∧ (decode cJ6_bitCount_0f7a4 33 = .ok (.istore_n 0, 1)) ∧ (decode cJ6_bitCount_0f7a4 34 = .ok (.iload_n 0, 1)) ∧ (decode cJ6_bitCount_0f7a4 35 = .ok (.iload_n 0, 1)) ∧ (decode cJ6_bitCount_0f7a4 36 = .ok (.bipush 8, 2)) ∧ (decode cJ6_bitCount_0f7a4 38 = .ok (.iushr, 1)) ∧ (decode cJ6_bitCount_0f7a4 39 = .ok (.iadd, 1)) ∧ (decode cJ6_bitCount_0f7a4 40 = .ok (.istore_n 0, 1)) := by decide +kernel
theorem dJ6_bitCount_0f7a4_22 : decode cJ6_bitCount_0f7a4 22 = .ok (.iadd, 1) := dJ6_bitCount_0f7a4_22_a.1
theorem dJ6_bitCount_0f7a4_23 : decode cJ6_bitCount_0f7a4 23 = .ok (.istore_n 0, 1) := dJ6_bitCount_0f7a4_22_a.2.1
theorem dJ6_bitCount_0f7a4_24 : decode cJ6_bitCount_0f7a4 24 = .ok (.iload_n 0, 1) := dJ6_bitCount_0f7a4_22_a.2.2.1
theorem dJ6_bitCount_0f7a4_25 : decode cJ6_bitCount_0f7a4 25 = .ok (.iload_n 0, 1) := dJ6_bitCount_0f7a4_22_a.2.2.2.1
theorem dJ6_bitCount_0f7a4_26 : decode cJ6_bitCount_0f7a4 26 = .ok (.iconst 4, 1) := dJ6_bitCount_0f7a4_22_a.2.2.2.2.1
theorem dJ6_bitCount_0f7a4_27 : decode cJ6_bitCount_0f7a4 27 = .ok (.iushr, 1) := dJ6_bitCount_0f7a4_22_a.2.2.2.2.2.1
theorem dJ6_bitCount_0f7a4_28 : decode cJ6_bitCount_0f7a4 28 = .ok (.iadd, 1) := dJ6_bitCount_0f7a4_22_a.2.2.2.2.2.2.1
theorem dJ6_bitCount_0f7a4_29 : decode cJ6_bitCount_0f7a4 29 = .ok (.ldc_w 267, 3) := dJ6_bitCount_0f7a4_22_a.2.2.2.2.2.2.2.1
theorem dJ6_bitCount_0f7a4_32 : decode cJ6_bitCount_0f7a4 32 = .ok (.iand, 1) := dJ6_bitCount_0f7a4_22_a.2.2.2.2.2.2.2.2.1
theorem dJ6_bitCount_0f7a4_33 : decode cJ6_bitCount_0f7a4 33 = .ok (.istore_n 0, 1) := dJ6_bitCount_0f7a4_22_a.2.2.2.2.2.2.2.2.2.1
theorem dJ6_bitCount_0f7a4_34 : decode cJ6_bitCount_0f7a4 34 = .ok (.iload_n 0, 1) := dJ6_bitCount_0f7a4_22_a.2.2.2.2.2.2.2.2.2.2.1
theorem dJ6_bitCount_0f7a4_35 : decode cJ6_bitCount_0f7a4 35 = .ok (.iload_n 0, 1) := dJ6_bitCount_0f7a4_22_a.2.2.2.2.2.2.2.2.2.2.2.1
theorem dJ6_bitCount_0f7a4_36 : decode cJ6_bitCount_0f7a4 36 = .ok (.bipush 8, 2) := dJ6_bitCount_0f7a4_22_a.2.2.2.2.2.2.2.2.2.2.2.2.1
theorem dJ6_bitCount_0f7a4_38 : decode cJ6_bitCount_0f7a4 38 = .ok (.iushr, 1) := dJ6_bitCount_0f7a4_22_a.2.2.2.2.2.2.2.2.2.2.2.2.2.1
theorem dJ6_bitCount_0f7a4_39 : decode cJ6_bitCount_0f7a4 39 = .ok (.iadd, 1) := dJ6_bitCount_0f7a4_22_a.2.2.2.2.2.2.2.2.2.2.2.2.2.2.1
theorem dJ6_bitCount_0f7a4_40 : decode cJ6_bitCount_0f7a4 40 = .ok (.istore_n 0, 1) := dJ6_bitCount_0f7a4_22_a.2.2.2.2.2.2.2.2.2.2.2.2.2.2.2
theorem dJ6_bitCount_0f7a4_41_a : (decode cJ6_bitCount_0f7a4 41 = .ok (.iload_n 0, 1)) ∧ (decode cJ6_bitCount_0f7a4 42 = .ok (.iload_n 0, 1)) ∧ (decode cJ6_bitCount_0f7a4 43 = .ok (.bipush 16, 2)) ∧ (decode cJ6_bitCount_0f7a4 45 = .ok (.iushr, 1)) ∧ (decode cJ6_bitCount_0f7a4 46 = .ok (.iadd, 1)) ∧ (decode cJ6_bitCount_0f7a4 47 = .ok (.istore_n 0, 1)) ∧ (decode cJ6_bitCount_0f7a4 48 = .ok (.iload_n 0, 1)) ∧ (decode cJ6_bitCount_0f7a4 49 = .ok (.bipush 63, 2)) ∧ (decode cJ6_bitCount_0f7a4 51 = .ok (.iand, 1)) ∧ (decode cJ6_bitCount_0f7a4 52 = .ok (.ireturn, 1)) := by decide +kernel
theorem dJ6_bitCount_0f7a4_41 : decode cJ6_bitCount_0f7a4 41 = .ok (.iload_n 0, 1) := dJ6_bitCount_0f7a4_41_a.1
theorem dJ6_bitCount_0f7a4_42 : decode cJ6_bitCount_0f7a4 42 = .ok (.iload_n 0, 1) := dJ6_bitCount_0f7a4_41_a.2.1
theorem dJ6_bitCount_0f7a4_43 : decode cJ6_bitCount_0f7a4 43 = .ok (.bipush 16, 2) := dJ6_bitCount_0f7a4_41_a.2.2.1
theorem dJ6_bitCount_0f7a4_45 : decode cJ6_bitCount_0f7a4 45 = .ok (.iushr, 1) := dJ6_bitCount_0f7a4_41_a.2.2.2.1
theorem dJ6_bitCount_0f7a4_46 : decode cJ6_bitCount_0f7a4 46 = .ok (.iadd, 1) := dJ6_bitCount_0f7a4_41_a.2.2.2.2.1
theorem dJ6_bitCount_0f7a4_47 : decode cJ6_bitCount_0f7a4 47 = .ok (.istore_n 0, 1) := dJ6_bitCount_0f7a4_41_a.2.2.2.2.2.1
theorem dJ6_bitCount_0f7a4_48 : decode cJ6_bitCount_0f7a4 48 = .ok (.iload_n 0, 1) := dJ6_bitCount_0f7a4_41_a.2.2.2.2.2.2.1
theorem dJ6_bitCount_0f7a4_49 : decode cJ6_bitCount_0f7a4 49 = .ok (.bipush 63, 2) := dJ6_bitCount_0f7a4_41_a.2.2.2.2.2.2.2.1
theorem dJ6_bitCount_0f7a4_51 : decode cJ6_bitCount_0f7a4 51 = .ok (.iand, 1) := dJ6_bitCount_0f7a4_41_a.2.2.2.2.2.2.2.2.1
theorem dJ6_bitCount_0f7a4_52 : decode cJ6_bitCount_0f7a4 52 = .ok (.ireturn, 1) := dJ6_bitCount_0f7a4_41_a.2.2.2.2.2.2.2.2.2
theorem dJ9_max_7cf53_0_a : (decode cJ9_max_7cf53 0 = .ok (.iload_n 0, 1)) ∧ (decode cJ9_max_7cf53 1 = .ok (.iload_n 1, 1)) ∧ (decode cJ9_max_7cf53 2 = .ok (.if_icmp .lt 7, 3)) ∧ (decode cJ9_max_7cf53 5 = .ok (.iload_n 0, 1)) ∧ (decode cJ9_max_7cf53 6 = .ok (.goto 4, 3)) ∧ (decode cJ9_max_7cf53 9 = .ok (.iload_n 1, 1)) ∧ (decode cJ9_max_7cf53 10 = .ok (.ireturn, 1)) := by decide +kernel
theorem dJ9_max_7cf53_0 : decode cJ9_max_7cf53 0 = .ok (.iload_n 0, 1) := dJ9_max_7cf53_0_a.1
theorem dJ9_max_7cf53_1 : decode cJ9_max_7cf53 1 = .ok (.iload_n 1, 1) := dJ9_max_7cf53_0_a.2.1
theorem dJ9_max_7cf53_2 : decode cJ9_max_7cf53 2 = .ok (.if_icmp .lt 7, 3) := dJ9_max_7cf53_0_a.2.2.1
theorem dJ9_max_7cf53_5 : decode cJ9_max_7cf53 5 = .ok (.iload_n 0, 1) := dJ9_max_7cf53_0_a.2.2.2.1
theorem dJ9_max_7cf53_6 : decode cJ9_max_7cf53 6 = .ok (.goto 4, 3) := dJ9_max_7cf53_0_a.2.2.2.2.1
theorem dJ9_max_7cf53_9 : decode cJ9_max_7cf53 9 = .ok (.iload_n 1, 1) := dJ9_max_7cf53_0_a.2.2.2.2.2.1
theorem dJ9_max_7cf53_10 : decode cJ9_max_7cf53 10 = .ok (.ireturn, 1) := dJ9_max_7cf53_0_a.2.2.2.2.2.2
theorem dJ9_min_7cf53_0_a : (decode cJ9_min_7cf53 0 = .ok (.iload_n 0, 1)) ∧ (decode cJ9_min_7cf53 1 = .ok (.iload_n 1, 1)) ∧ (decode cJ9_min_7cf53 2 = .ok (.if_icmp .gt 7, 3)) ∧ (decode cJ9_min_7cf53 5 = .ok (.iload_n 0, 1)) ∧ (decode cJ9_min_7cf53 6 = .ok (.goto 4, 3)) ∧ (decode cJ9_min_7cf53 9 = .ok (.iload_n 1, 1)) ∧ (decode cJ9_min_7cf53 10 = .ok (.ireturn, 1)) := by decide +kernel
theorem dJ9_min_7cf53_0 : decode cJ9_min_7cf53 0 = .ok (.iload_n 0, 1) := dJ9_min_7cf53_0_a.1
theorem dJ9_min_7cf53_1 : decode cJ9_min_7cf53 1 = .ok (.iload_n 1, 1) := dJ9_min_7cf53_0_a.2.1
theorem dJ9_min_7cf53_2 : decode cJ9_min_7cf53 2 = .ok (.if_icmp .gt 7, 3) := dJ9_min_7cf53_0_a.2.2.1
theorem dJ9_min_7cf53_5 : decode cJ9_min_7cf53 5 = .ok (.iload_n 0, 1) := dJ9_min_7cf53_0_a.2.2.2.1
theorem dJ9_min_7cf53_6 : decode cJ9_min_7cf53 6 = .ok (.goto 4, 3) := dJ9_min_7cf53_0_a.2.2.2.2.1
theorem dJ9_min_7cf53_9 : decode cJ9_min_7cf53 9 = .ok (.iload_n 1, 1) := dJ9_min_7cf53_0_a.2.2.2.2.2.1
theorem dJ9_min_7cf53_10 : decode cJ9_min_7cf53 10 = .ok (.ireturn, 1) := dJ9_min_7cf53_0_a.2.2.2.2.2.2
