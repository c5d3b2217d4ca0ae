theorem dX10_flyGeese_107 : decode cX10_flyGeese 107 = .ok (.getfield 24, 3) := dX10_flyGeese_99_a.2.2.2.2.2.2.1
theorem dX10_flyGeese_110 : decode cX10_flyGeese 110 = .ok (.getfield 97, 3) := dX10_flyGeese_99_a.2.2.2.2.2.2.2.1
theorem dX10_flyGeese_113 : decode cX10_flyGeese 113 = .ok (.aload_n 0, 1) := dX10_flyGeese_99_a.2.2.2.2.2.2.2.2.1
theorem dX10_flyGeese_114 : decode cX10_flyGeese 114 = .ok (.getfield 69, 3) := dX10_flyGeese_99_a.2.2.2.2.2.2.2.2.2.1
theorem dX10_flyGeese_117 : decode cX10_flyGeese 117 = .ok (.iconst 2, 1) := dX10_flyGeese_99_a.2.2.2.2.2.2.2.2.2.2.1
theorem dX10_flyGeese_118 : decode cX10_flyGeese 118 = .ok (.idiv, 1) := dX10_flyGeese_99_a.2.2.2.2.2.2.2.2.2.2.2.1
theorem dX10_flyGeese_119 : decode cX10_flyGeese 119 = .ok (.if_icmp .ge 5, 3) := dX10_flyGeese_99_a.2.2.2.2.2.2.2.2.2.2.2.2.1
theorem dX10_flyGeese_122 : decode cX10_flyGeese 122 = .ok (.iload_n 3, 1) := dX10_flyGeese_99_a.2.2.2.2.2.2.2.2.2.2.2.2.2.1
theorem dX10_flyGeese_123 : decode cX10_flyGeese 123 = .ok (.ireturn, 1) := dX10_flyGeese_99_a.2.2.2.2.2.2.2.2.2.2.2.2.2.2.1
theorem dX10_flyGeese_124 : decode cX10_flyGeese 124 = .ok (.iload 4, 2) := dX10_flyGeese_99_a.2.2.2.2.2.2.2.2.2.2.2.2.2.2.2
theorem dX10_flyGeese_126_a : (decode cX10_flyGeese 126 = .ok (.bipush 7, 2)) ∧ (decode cX10_flyGeese 128 = .ok (.if_icmp .ne 26, 3)) ∧ (decode cX10_flyGeese 131 = .ok (.iload_n 3, 1)) ∧ (decode cX10_flyGeese 132 = .ok (.iload_n 1, 1)) ∧ (decode cX10_flyGeese 133 = .ok (.if_icmp .lt 7, 3)) ∧ (decode cX10_flyGeese 136 = .ok (.iload_n 2, 1)) ∧ (decode cX10_flyGeese 137 = .ok (.ifCond .eq 17, 3)) ∧ (decode cX10_flyGeese 140 = .ok (.aload_n 0, 1)) ∧ (decode cX10_flyGeese 141 = .ok (.getfield 21, 3)) ∧ (decode cX10_flyGeese 144 = .ok (.invokevirtual 100, 3)) ∧ (decode cX10_flyGeese 147 = .ok (.aload_n 0, 1)) ∧ (decode cX10_flyGeese 148 = .ok (.getfield 24, 3)) ∧ (decode cX10_flyGeese 151 = .ok (.invokevirtual 100, 3)) ∧ (decode cX10_flyGeese 154 = .ok (.iinc 3 1, 3)) ∧ (decode cX10_flyGeese 157 = .ok (.goto (-125), 3)) ∧ (decode cX10_flyGeese 160 = .ok (.iload_n 1, 1)) := by decide +kernel
theorem dX10_flyGeese_126 : decode cX10_flyGeese 126 = .ok (.bipush 7, 2) := dX10_flyGeese_126_a.1
theorem dX10_flyGeese_128 : decode cX10_flyGeese 128 = .ok (.if_icmp .ne 26, 3) := dX10_flyGeese_126_a.2.1
theorem dX10_flyGeese_131 : decode cX10_flyGeese 131 = .ok (.iload_n 3, 1) := dX10_flyGeese_126_a.2.2.1
theorem dX10_flyGeese_132 : decode cX10_flyGeese 132 = .ok (.iload_n 1, 1) := dX10_flyGeese_126_a.2.2.2.1
theorem dX10_flyGeese_133 : decode cX10_flyGeese 133 = .ok (.if_icmp .lt 7, 3) := dX10_flyGeese_126_a.2.2.2.2.1
theorem dX10_flyGeese_136 : decode cX10_flyGeese 136 = .ok (.iload_n 2, 1) := dX10_flyGeese_126_a.2.2.2.2.2.1
theorem dX10_flyGeese_137 : decode cX10_flyGeese 137 = .ok (.ifCond .eq 17, 3) := dX10_flyGeese_126_a.2.2.2.2.2.2.1
theorem dX10_flyGeese_140 : decode cX10_flyGeese 140 = .ok (.aload_n 0, 1) := dX10_flyGeese_126_a.2.2.2.2.2.2.2.1
theorem dX10_flyGeese_141 : decode cX10_flyGeese 141 = .ok (.getfield 21, 3) := dX10_flyGeese_126_a.2.2.2.2.2.2.2.2.1
theorem dX10_flyGeese_144 : decode cX10_flyGeese 144 = .ok (.invokevirtual 100, 3) := dX10_flyGeese_126_a.2.2.2.2.2.2.2.2.2.1
theorem dX10_flyGeese_147 : decode cX10_flyGeese 147 = .ok (.aload_n 0, 1) := dX10_flyGeese_126_a.2.2.2.2.2.2.2.2.2.2.1
theorem dX10_flyGeese_148 : decode cX10_flyGeese 148 = .ok (.getfield 24, 3) := dX10_flyGeese_126_a.2.2.2.2.2.2.2.2.2.2.2.1
theorem dX10_flyGeese_151 : decode cX10_flyGeese 151 = .ok (.invokevirtual 100, 3) := dX10_flyGeese_126_a.2.2.2.2.2.2.2.2.2.2.2.2.1
theorem dX10_flyGeese_154 : decode cX10_flyGeese 154 = .ok (.iinc 3 1, 3) := dX10_flyGeese_126_a.2.2.2.2.2.2.2.2.2.2.2.2.2.1
theorem dX10_flyGeese_157 : decode cX10_flyGeese 157 = .ok (.goto (-125), 3) := dX10_flyGeese_126_a.2.2.2.2.2.2.2.2.2.2.2.2.2.2.1
theorem dX10_flyGeese_160 : decode cX10_flyGeese 160 = .ok (.iload_n 1, 1) := dX10_flyGeese_126_a.2.2.2.2.2.2.2.2.2.2.2.2.2.2.2
theorem dX10_flyGeese_161_a : (decode cX10_flyGeese 161 = .ok (.iconst 1, 1)) ∧ (decode cX10_flyGeese 162 = .ok (.iadd, 1)) ∧ (decode cX10_flyGeese 163 = .ok (.ireturn, 1)) := by decide +kernel
theorem dX10_flyGeese_161 : decode cX10_flyGeese 161 = .ok (.iconst 1, 1) := dX10_flyGeese_161_a.1
theorem dX10_flyGeese_162 : decode cX10_flyGeese 162 = .ok (.iadd, 1) := dX10_flyGeese_161_a.2.1
theorem dX10_flyGeese_163 : decode cX10_flyGeese 163 = .ok (.ireturn, 1) := dX10_flyGeese_161_a.2.2
theorem dX10_setOut_0_a : (decode cX10_setOut 0 = .ok (.aload_n 0, 1)) ∧ (decode cX10_setOut 1 = .ok (.iconst 0, 1)) ∧ (decode cX10_setOut 2 = .ok (.putfield 103, 3)) ∧ (decode cX10_setOut 5 = .ok (.aload_n 0, 1)) ∧ (decode cX10_setOut 6 = .ok (.iconst 0, 1)) ∧ (decode cX10_setOut 7 = .ok (.putfield 106, 3)) ∧ (decode cX10_setOut 10 = .ok (.aload_n 0, 1)) ∧ (decode cX10_setOut 11 = .ok (.aload_n 0, 1)) ∧ (decode cX10_setOut 12 = .ok (.getfield 48, 3)) ∧ (decode cX10_setOut 15 = .ok (.ifCond .eq 7, 3)) ∧ (decode cX10_setOut 18 = .ok (.iconst 0, 1)) ∧ (decode cX10_setOut 19 = .ok (.goto 4, 3)) ∧ (decode cX10_setOut 22 = .ok (.iconst 1, 1)) ∧ (decode cX10_setOut 23 = .ok (.putfield 109, 3)) ∧ (decode cX10_setOut 26 = .ok (.return_, 1)) := by decide +kernel
theorem dX10_setOut_0 : decode cX10_setOut 0 = .ok (.aload_n 0, 1) := dX10_setOut_0_a.1
theorem dX10_setOut_1 : decode cX10_setOut 1 = .ok (.iconst 0, 1) := dX10_setOut_0_a.2.1
theorem dX10_setOut_2 : decode cX10_setOut 2 = .ok (.putfield 103, 3) := dX10_setOut_0_a.2.2.1
theorem dX10_setOut_5 : decode cX10_setOut 5 = .ok (.aload_n 0, 1) := dX10_setOut_0_a.2.2.2.1
theorem dX10_setOut_6 : decode cX10_setOut 6 = .ok (.iconst 0, 1) := dX10_setOut_0_a.2.2.2.2.1
theorem dX10_setOut_7 : decode cX10_setOut 7 = .ok (.putfield 106, 3) := dX10_setOut_0_a.2.2.2.2.2.1
theorem dX10_setOut_10 : decode cX10_setOut 10 = .ok (.aload_n 0, 1) := dX10_setOut_0_a.2.2.2.2.2.2.1
theorem dX10_setOut_11 : decode cX10_setOut 11 = .ok (.aload_n 0, 1) := dX10_setOut_0_a.2.2.2.2.2.2.2.1
theorem dX10_setOut_12 : decode cX10_setOut 12 = .ok (.getfield 48, 3) := dX10_setOut_0_a.2.2.2.2.2.2.2.2.1
theorem dX10_setOut_15 : decode cX10_setOut 15 = .ok (.ifCond .eq 7, 3) := dX10_setOut_0_a.2.2.2.2.2.2.2.2.2.1
theorem dX10_setOut_18 : decode cX10_setOut 18 = .ok (.iconst 0, 1) := dX10_setOut_0_a.2.2.2.2.2.2.2.2.2.2.1
theorem dX10_setOut_19 : decode cX10_setOut 19 = .ok (.goto 4, 3) := dX10_setOut_0_a.2.2.2.2.2.2.2.2.2.2.2.1
theorem dX10_setOut_22 : decode cX10_setOut 22 = .ok (.iconst 1, 1) := dX10_setOut_0_a.2.2.2.2.2.2.2.2.2.2.2.2.1
theorem dX10_setOut_23 : decode cX10_setOut 23 = .ok (.putfield 109, 3) := dX10_setOut_0_a.2.2.2.2.2.2.2.2.2.2.2.2.2.1
theorem dX10_setOut_26 : decode cX10_setOut 26 = .ok (.return_, 1) := dX10_setOut_0_a.2.2.2.2.2.2.2.2.2.2.2.2.2.2
theorem dX10_comesTo_0_a : (decode cX10_comesTo 0 = .ok (.aload_n 0, 1)) ∧ (decode cX10_comesTo 1 = .ok (.invokevirtual 112, 3)) ∧ (decode cX10_comesTo 4 = .ok (.aload_n 0, 1)) ∧ (decode cX10_comesTo 5 = .ok (.iconst 0, 1)) ∧ (decode cX10_comesTo 6 = .ok (.aload_n 0, 1)) ∧ (decode cX10_comesTo 7 = .ok (.getfield 27, 3)) ∧ (decode cX10_comesTo 10 = .ok (.getfield 78, 3)) ∧ (decode cX10_comesTo 13 = .ok (.iload_n 1, 1)) ∧ (decode cX10_comesTo 14 = .ok (.invokevirtual 113, 3)) ∧ (decode cX10_comesTo 17 = .ok (.ireturn, 1)) := by decide +kernel
theorem dX10_comesTo_0 : decode cX10_comesTo 0 = .ok (.aload_n 0, 1) := dX10_comesTo_0_a.1
theorem dX10_comesTo_1 : decode cX10_comesTo 1 = .ok (.invokevirtual 112, 3) := dX10_comesTo_0_a.2.1
theorem dX10_comesTo_4 : decode cX10_comesTo 4 = .ok (.aload_n 0, 1) := dX10_comesTo_0_a.2.2.1
theorem dX10_comesTo_5 : decode cX10_comesTo 5 = .ok (.iconst 0, 1) := dX10_comesTo_0_a.2.2.2.1
theorem dX10_comesTo_6 : decode cX10_comesTo 6 = .ok (.aload_n 0, 1) := dX10_comesTo_0_a.2.2.2.2.1
theorem dX10_comesTo_7 : decode cX10_comesTo 7 = .ok (.getfield 27, 3) := dX10_comesTo_0_a.2.2.2.2.2.1
theorem dX10_comesTo_10 : decode cX10_comesTo 10 = .ok (.getfield 78, 3) := dX10_comesTo_0_a.2.2.2.2.2.2.1
theorem dX10_comesTo_13 : decode cX10_comesTo 13 = .ok (.iload_n 1, 1) := dX10_comesTo_0_a.2.2.2.2.2.2.2.1
theorem dX10_comesTo_14 : decode cX10_comesTo 14 = .ok (.invokevirtual 113, 3) := dX10_comesTo_0_a.2.2.2.2.2.2.2.2.1
theorem dX10_comesTo_17 : decode cX10_comesTo 17 = .ok (.ireturn, 1) := dX10_comesTo_0_a.2.2.2.2.2.2.2.2.2
theorem dX10_goOn_0_a : (decode cX10_goOn 0 = .ok (.iconst 0, 1)) ∧ (decode cX10_goOn 1 = .ok (.iload_n 3, 1)) ∧ (decode cX10_goOn 2 = .ok (.iconst 5, 1)) ∧ (decode cX10_goOn 3 = .ok (.isub, 1)) ∧ (decode cX10_goOn 4 = .ok (.invokestatic 117, 3)) ∧ (decode cX10_goOn 7 = .ok (.istore 4, 2)) ∧ (decode cX10_goOn 9 = .ok (.iload_n 1, 1)) ∧ (decode cX10_goOn 10 = .ok (.istore 5, 2)) ∧ (decode cX10_goOn 12 = .ok (.iload 5, 2)) ∧ (decode cX10_goOn 14 = .ok (.iload_n 2, 1)) ∧ (decode cX10_goOn 15 = .ok (.if_icmp .ge 124, 3)) ∧ (decode cX10_goOn 18 = .ok (.iload 5, 2)) ∧ (decode cX10_goOn 20 = .ok (.aload_n 0, 1)) ∧ (decode cX10_goOn 21 = .ok (.getfield 52, 3)) ∧ (decode cX10_goOn 24 = .ok (.if_icmp .lt 11, 3)) ∧ (decode cX10_goOn 27 = .ok (.aload_n 0, 1)) := by decide +kernel
theorem dX10_goOn_0 : decode cX10_goOn 0 = .ok (.iconst 0, 1) := dX10_goOn_0_a.1
theorem dX10_goOn_1 : decode cX10_goOn 1 = .ok (.iload_n 3, 1) := dX10_goOn_0_a.2.1
theorem dX10_goOn_2 : decode cX10_goOn 2 = .ok (.iconst 5, 1) := dX10_goOn_0_a.2.2.1
theorem dX10_goOn_3 : decode cX10_goOn 3 = .ok (.isub, 1) := dX10_goOn_0_a.2.2.2.1
theorem dX10_goOn_4 : decode cX10_goOn 4 = .ok (.invokestatic 117, 3) := dX10_goOn_0_a.2.2.2.2.1
theorem dX10_goOn_7 : decode cX10_goOn 7 = .ok (.istore 4, 2) := dX10_goOn_0_a.2.2.2.2.2.1
theorem dX10_goOn_9 : decode cX10_goOn 9 = .ok (.iload_n 1, 1) := dX10_goOn_0_a.2.2.2.2.2.2.1
theorem dX10_goOn_10 : decode cX10_goOn 10 = .ok (.istore 5, 2) := dX10_goOn_0_a.2.2.2.2.2.2.2.1
theorem dX10_goOn_12 : decode cX10_goOn 12 = .ok (.iload 5, 2) := dX10_goOn_0_a.2.2.2.2.2.2.2.2.1
theorem dX10_goOn_14 : decode cX10_goOn 14 = .ok (.iload_n 2, 1) := dX10_goOn_0_a.2.2.2.2.2.2.2.2.2.1
theorem dX10_goOn_15 : decode cX10_goOn 15 = .ok (.if_icmp .ge 124, 3) := dX10_goOn_0_a.2.2.2.2.2.2.2.2.2.2.1
theorem dX10_goOn_18 : decode cX10_goOn 18 = .ok (.iload 5, 2) := dX10_goOn_0_a.2.2.2.2.2.2.2.2.2.2.2.1
theorem dX10_goOn_20 : decode cX10_goOn 20 = .ok (.aload_n 0, 1) := dX10_goOn_0_a.2.2.2.2.2.2.2.2.2.2.2.2.1
theorem dX10_goOn_21 : decode cX10_goOn 21 = .ok (.getfield 52, 3) := dX10_goOn_0_a.2.2.2.2.2.2.2.2.2.2.2.2.2.1
theorem dX10_goOn_24 : decode cX10_goOn 24 = .ok (.if_icmp .lt 11, 3) := dX10_goOn_0_a.2.2.2.2.2.2.2.2.2.2.2.2.2.2.1
theorem dX10_goOn_27 : decode cX10_goOn 27 = .ok (.aload_n 0, 1) := dX10_goOn_0_a.2.2.2.2.2.2.2.2.2.2.2.2.2.2.2
theorem dX10_goOn_28_a : (decode cX10_goOn 28 = .ok (.iconst 1, 1)) ∧ (decode cX10_goOn 29 = .ok (.putfield 109, 3)) ∧ (decode cX10_goOn 32 = .ok (.iload 5, 2)) ∧ (decode cX10_goOn 34 = .ok (.ireturn, 1)) ∧ (decode cX10_goOn 35 = .ok (.aload_n 0, 1)) ∧ (decode cX10_goOn 36 = .ok (.dup, 1)) ∧ (decode cX10_goOn 37 = .ok (.getfield 106, 3)) ∧ (decode cX10_goOn 40 = .ok (.iload 4, 2)) ∧ (decode cX10_goOn 42 = .ok (.iadd, 1)) ∧ (decode cX10_goOn 43 = .ok (.putfield 106, 3)) ∧ (decode cX10_goOn 46 = .ok (.aload_n 0, 1)) ∧ (decode cX10_goOn 47 = .ok (.getfield 106, 3)) ∧ (decode cX10_goOn 50 = .ok (.bipush 20, 2)) ∧ (decode cX10_goOn 52 = .ok (.if_icmp .le 11, 3)) ∧ (decode cX10_goOn 55 = .ok (.aload_n 0, 1)) ∧ (decode cX10_goOn 56 = .ok (.iconst 2, 1)) := by decide +kernel
theorem dX10_goOn_28 : decode cX10_goOn 28 = .ok (.iconst 1, 1) := dX10_goOn_28_a.1
theorem dX10_goOn_29 : decode cX10_goOn 29 = .ok (.putfield 109, 3) := dX10_goOn_28_a.2.1
theorem dX10_goOn_32 : decode cX10_goOn 32 = .ok (.iload 5, 2) := dX10_goOn_28_a.2.2.1
theorem dX10_goOn_34 : decode cX10_goOn 34 = .ok (.ireturn, 1) := dX10_goOn_28_a.2.2.2.1
theorem dX10_goOn_35 : decode cX10_goOn 35 = .ok (.aload_n 0, 1) := dX10_goOn_28_a.2.2.2.2.1
theorem dX10_goOn_36 : decode cX10_goOn 36 = .ok (.dup, 1) := dX10_goOn_28_a.2.2.2.2.2.1
theorem dX10_goOn_37 : decode cX10_goOn 37 = .ok (.getfield 106, 3) := dX10_goOn_28_a.2.2.2.2.2.2.1
theorem dX10_goOn_40 : decode cX10_goOn 40 = .ok (.iload 4, 2) := dX10_goOn_28_a.2.2.2.2.2.2.2.1
theorem dX10_goOn_42 : decode cX10_goOn 42 = .ok (.iadd, 1) := dX10_goOn_28_a.2.2.2.2.2.2.2.2.1
theorem dX10_goOn_43 : decode cX10_goOn 43 = .ok (.putfield 106, 3) := dX10_goOn_28_a.2.2.2.2.2.2.2.2.2.1
theorem dX10_goOn_46 : decode cX10_goOn 46 = .ok (.aload_n 0, 1) := dX10_goOn_28_a.2.2.2.2.2.2.2.2.2.2.1
theorem dX10_goOn_47 : decode cX10_goOn 47 = .ok (.getfield 106, 3) := dX10_goOn_28_a.2.2.2.2.2.2.2.2.2.2.2.1
theorem dX10_goOn_50 : decode cX10_goOn 50 = .ok (.bipush 20, 2) := dX10_goOn_28_a.2.2.2.2.2.2.2.2.2.2.2.2.1
theorem dX10_goOn_52 : decode cX10_goOn 52 = .ok (.if_icmp .le 11, 3) := dX10_goOn_28_a.2.2.2.2.2.2.2.2.2.2.2.2.2.1
theorem dX10_goOn_55 : decode cX10_goOn 55 = .ok (.aload_n 0, 1) := dX10_goOn_28_a.2.2.2.2.2.2.2.2.2.2.2.2.2.2.1
theorem dX10_goOn_56 : decode cX10_goOn 56 = .ok (.iconst 2, 1) := dX10_goOn_28_a.2.2.2.2.2.2.2.2.2.2.2.2.2.2.2
theorem dX10_goOn_57_a : (decode cX10_goOn 57 = .ok (.putfield 109, 3)) ∧ (decode cX10_goOn 60 = .ok (.iload 5, 2)) ∧ (decode cX10_goOn 62 = .ok (.ireturn, 1)) ∧ (decode cX10_goOn 63 = .ok (.aload_n 0, 1)) ∧ (decode cX10_goOn 64 = .ok (.getfield 27, 3)) ∧ (decode cX10_goOn 67 = .ok (.iload 5, 2)) ∧ (decode cX10_goOn 69 = .ok (.invokevirtual 90, 3)) ∧ (decode cX10_goOn 72 = .ok (.istore 6, 2)) ∧ (decode cX10_goOn 74 = .ok (.iload 6, 2)) ∧ (decode cX10_goOn 76 = .ok (.bipush 6, 2)) ∧ (decode cX10_goOn 78 = .ok (.if_icmp .ge 38, 3)) ∧ (decode cX10_goOn 81 = .ok (.aload_n 0, 1)) ∧ (decode cX10_goOn 82 = .ok (.dup, 1)) ∧ (decode cX10_goOn 83 = .ok (.getfield 103, 3)) ∧ (decode cX10_goOn 86 = .ok (.aload_n 0, 1)) ∧ (decode cX10_goOn 87 = .ok (.iload 6, 2)) := by decide +kernel
theorem dX10_goOn_57 : decode cX10_goOn 57 = .ok (.putfield 109, 3) := dX10_goOn_57_a.1
theorem dX10_goOn_60 : decode cX10_goOn 60 = .ok (.iload 5, 2) := dX10_goOn_57_a.2.1
theorem dX10_goOn_62 : decode cX10_goOn 62 = .ok (.ireturn, 1) := dX10_goOn_57_a.2.2.1
theorem dX10_goOn_63 : decode cX10_goOn 63 = .ok (.aload_n 0, 1) := dX10_goOn_57_a.2.2.2.1
theorem dX10_goOn_64 : decode cX10_goOn 64 = .ok (.getfield 27, 3) := dX10_goOn_57_a.2.2.2.2.1
theorem dX10_goOn_67 : decode cX10_goOn 67 = .ok (.iload 5, 2) := dX10_goOn_57_a.2.2.2.2.2.1
theorem dX10_goOn_69 : decode cX10_goOn 69 = .ok (.invokevirtual 90, 3) := dX10_goOn_57_a.2.2.2.2.2.2.1
theorem dX10_goOn_72 : decode cX10_goOn 72 = .ok (.istore 6, 2) := dX10_goOn_57_a.2.2.2.2.2.2.2.1
theorem dX10_goOn_74 : decode cX10_goOn 74 = .ok (.iload 6, 2) := dX10_goOn_57_a.2.2.2.2.2.2.2.2.1
theorem dX10_goOn_76 : decode cX10_goOn 76 = .ok (.bipush 6, 2) := dX10_goOn_57_a.2.2.2.2.2.2.2.2.2.1
theorem dX10_goOn_78 : decode cX10_goOn 78 = .ok (.if_icmp .ge 38, 3) := dX10_goOn_57_a.2.2.2.2.2.2.2.2.2.2.1
theorem dX10_goOn_81 : decode cX10_goOn 81 = .ok (.aload_n 0, 1) := dX10_goOn_57_a.2.2.2.2.2.2.2.2.2.2.2.1
theorem dX10_goOn_82 : decode cX10_goOn 82 = .ok (.dup, 1) := dX10_goOn_57_a.2.2.2.2.2.2.2.2.2.2.2.2.1
theorem dX10_goOn_83 : decode cX10_goOn 83 = .ok (.getfield 103, 3) := dX10_goOn_57_a.2.2.2.2.2.2.2.2.2.2.2.2.2.1
theorem dX10_goOn_86 : decode cX10_goOn 86 = .ok (.aload_n 0, 1) := dX10_goOn_57_a.2.2.2.2.2.2.2.2.2.2.2.2.2.2.1
theorem dX10_goOn_87 : decode cX10_goOn 87 = .ok (.iload 6, 2) := dX10_goOn_57_a.2.2.2.2.2.2.2.2.2.2.2.2.2.2.2
theorem dX10_goOn_89_a : (decode cX10_goOn 89 = .ok (.iload_n 3, 1)) ∧ (decode cX10_goOn 90 = .ok (.invokevirtual 122, 3)) ∧ (decode cX10_goOn 93 = .ok (.iadd, 1)) ∧ (decode cX10_goOn 94 = .ok (.putfield 103, 3)) ∧ (decode cX10_goOn 97 = .ok (.aload_n 0, 1)) ∧ (decode cX10_goOn 98 = .ok (.getfield 103, 3)) ∧ (decode cX10_goOn 101 = .ok (.aload_n 0, 1)) ∧ (decode cX10_goOn 102 = .ok (.getfield 66, 3)) ∧ (decode cX10_goOn 105 = .ok (.if_icmp .le 28, 3)) ∧ (decode cX10_goOn 108 = .ok (.aload_n 0, 1)) ∧ (decode cX10_goOn 109 = .ok (.iconst 3, 1)) ∧ (decode cX10_goOn 110 = .ok (.putfield 109, 3)) ∧ (decode cX10_goOn 113 = .ok (.iload 5, 2)) ∧ (decode cX10_goOn 115 = .ok (.ireturn, 1)) ∧ (decode cX10_goOn 116 = .ok (.iload 6, 2)) ∧ (decode cX10_goOn 118 = .ok (.bipush 7, 2)) := by decide +kernel
theorem dX10_goOn_89 : decode cX10_goOn 89 = .ok (.iload_n 3, 1) := dX10_goOn_89_a.1
theorem dX10_goOn_90 : decode cX10_goOn 90 = .ok (.invokevirtual 122, 3) := dX10_goOn_89_a.2.1
theorem dX10_goOn_93 : decode cX10_goOn 93 = .ok (.iadd, 1) := dX10_goOn_89_a.2.2.1
theorem dX10_goOn_94 : decode cX10_goOn 94 = .ok (.putfield 103, 3) := dX10_goOn_89_a.2.2.2.1
theorem dX10_goOn_97 : decode cX10_goOn 97 = .ok (.aload_n 0, 1) := dX10_goOn_89_a.2.2.2.2.1
theorem dX10_goOn_98 : decode cX10_goOn 98 = .ok (.getfield 103, 3) := dX10_goOn_89_a.2.2.2.2.2.1
theorem dX10_goOn_101 : decode cX10_goOn 101 = .ok (.aload_n 0, 1) := dX10_goOn_89_a.2.2.2.2.2.2.1
theorem dX10_goOn_102 : decode cX10_goOn 102 = .ok (.getfield 66, 3) := dX10_goOn_89_a.2.2.2.2.2.2.2.1
theorem dX10_goOn_105 : decode cX10_goOn 105 = .ok (.if_icmp .le 28, 3) := dX10_goOn_89_a.2.2.2.2.2.2.2.2.1
theorem dX10_goOn_108 : decode cX10_goOn 108 = .ok (.aload_n 0, 1) := dX10_goOn_89_a.2.2.2.2.2.2.2.2.2.1
theorem dX10_goOn_109 : decode cX10_goOn 109 = .ok (.iconst 3, 1) := dX10_goOn_89_a.2.2.2.2.2.2.2.2.2.2.1
theorem dX10_goOn_110 : decode cX10_goOn 110 = .ok (.putfield 109, 3) := dX10_goOn_89_a.2.2.2.2.2.2.2.2.2.2.2.1
theorem dX10_goOn_113 : decode cX10_goOn 113 = .ok (.iload 5, 2) := dX10_goOn_89_a.2.2.2.2.2.2.2.2.2.2.2.2.1
theorem dX10_goOn_115 : decode cX10_goOn 115 = .ok (.ireturn, 1) := dX10_goOn_89_a.2.2.2.2.2.2.2.2.2.2.2.2.2.1
theorem dX10_goOn_116 : decode cX10_goOn 116 = .ok (.iload 6, 2) := dX10_goOn_89_a.2.2.2.2.2.2.2.2.2.2.2.2.2.2.1
theorem dX10_goOn_118 : decode cX10_goOn 118 = .ok (.bipush 7, 2) := dX10_goOn_89_a.2.2.2.2.2.2.2.2.2.2.2.2.2.2.2
theorem dX10_goOn_120_a : (decode cX10_goOn 120 = .ok (.if_icmp .ne 13, 3)) ∧ (decode cX10_goOn 123 = .ok (.aload_n 0, 1)) ∧ (decode cX10_goOn 124 = .ok (.iconst 0, 1)) ∧ (decode cX10_goOn 125 = .ok (.putfield 103, 3)) ∧ (decode cX10_goOn 128 = .ok (.aload_n 0, 1)) ∧ (decode cX10_goOn 129 = .ok (.iconst 0, 1)) ∧ (decode cX10_goOn 130 = .ok (.putfield 106, 3)) ∧ (decode cX10_goOn 133 = .ok (.iinc 5 1, 3)) ∧ (decode cX10_goOn 136 = .ok (.goto (-124), 3)) ∧ (decode cX10_goOn 139 = .ok (.iload_n 2, 1)) ∧ (decode cX10_goOn 140 = .ok (.ireturn, 1)) := by decide +kernel
theorem dX10_goOn_120 : decode cX10_goOn 120 = .ok (.if_icmp .ne 13, 3) := dX10_goOn_120_a.1
theorem dX10_goOn_123 : decode cX10_goOn 123 = .ok (.aload_n 0, 1) := dX10_goOn_120_a.2.1
theorem dX10_goOn_124 : decode cX10_goOn 124 = .ok (.iconst 0, 1) := dX10_goOn_120_a.2.2.1
theorem dX10_goOn_125 : decode cX10_goOn 125 = .ok (.putfield 103, 3) := dX10_goOn_120_a.2.2.2.1
theorem dX10_goOn_128 : decode cX10_goOn 128 = .ok (.aload_n 0, 1) := dX10_goOn_120_a.2.2.2.2.1
theorem dX10_goOn_129 : decode cX10_goOn 129 = .ok (.iconst 0, 1) := dX10_goOn_120_a.2.2.2.2.2.1
theorem dX10_goOn_130 : decode cX10_goOn 130 = .ok (.putfield 106, 3) := dX10_goOn_120_a.2.2.2.2.2.2.1
theorem dX10_goOn_133 : decode cX10_goOn 133 = .ok (.iinc 5 1, 3) := dX10_goOn_120_a.2.2.2.2.2.2.2.1
theorem dX10_goOn_136 : decode cX10_goOn 136 = .ok (.goto (-124), 3) := dX10_goOn_120_a.2.2.2.2.2.2.2.2.1
theorem dX10_goOn_139 : decode cX10_goOn 139 = .ok (.iload_n 2, 1) := dX10_goOn_120_a.2.2.2.2.2.2.2.2.2.1
theorem dX10_goOn_140 : decode cX10_goOn 140 = .ok (.ireturn, 1) := dX10_goOn_120_a.2.2.2.2.2.2.2.2.2.2
theorem dX10_insult_0_a : (decode cX10_insult 0 = .ok (.aload_n 0, 1)) ∧ (decode cX10_insult 1 = .ok (.getfield 125, 3)) ∧ (decode cX10_insult 4 = .ok (.iload_n 1, 1)) ∧ (decode cX10_insult 5 = .ok (.ishr, 1)) ∧ (decode cX10_insult 6 = .ok (.iconst 1, 1)) ∧ (decode cX10_insult 7 = .ok (.iand, 1)) ∧ (decode cX10_insult 8 = .ok (.iconst 1, 1)) ∧ (decode cX10_insult 9 = .ok (.if_icmp .eq 25, 3)) ∧ (decode cX10_insult 12 = .ok (.aload_n 0, 1)) ∧ (decode cX10_insult 13 = .ok (.getfield 60, 3)) ∧ (decode cX10_insult 16 = .ok (.iconst 1, 1)) ∧ (decode cX10_insult 17 = .ok (.if_icmp .eq 17, 3)) ∧ (decode cX10_insult 20 = .ok (.aload_n 0, 1)) ∧ (decode cX10_insult 21 = .ok (.getfield 60, 3)) ∧ (decode cX10_insult 24 = .ok (.iconst 3, 1)) ∧ (decode cX10_insult 25 = .ok (.if_icmp .ne 11, 3)) := by decide +kernel
theorem dX10_insult_0 : decode cX10_insult 0 = .ok (.aload_n 0, 1) := dX10_insult_0_a.1
theorem dX10_insult_1 : decode cX10_insult 1 = .ok (.getfield 125, 3) := dX10_insult_0_a.2.1
theorem dX10_insult_4 : decode cX10_insult 4 = .ok (.iload_n 1, 1) := dX10_insult_0_a.2.2.1
theorem dX10_insult_5 : decode cX10_insult 5 = .ok (.ishr, 1) := dX10_insult_0_a.2.2.2.1
theorem dX10_insult_6 : decode cX10_insult 6 = .ok (.iconst 1, 1) := dX10_insult_0_a.2.2.2.2.1
theorem dX10_insult_7 : decode cX10_insult 7 = .ok (.iand, 1) := dX10_insult_0_a.2.2.2.2.2.1
theorem dX10_insult_8 : decode cX10_insult 8 = .ok (.iconst 1, 1) := dX10_insult_0_a.2.2.2.2.2.2.1
theorem dX10_insult_9 : decode cX10_insult 9 = .ok (.if_icmp .eq 25, 3) := dX10_insult_0_a.2.2.2.2.2.2.2.1
theorem dX10_insult_12 : decode cX10_insult 12 = .ok (.aload_n 0, 1) := dX10_insult_0_a.2.2.2.2.2.2.2.2.1
theorem dX10_insult_13 : decode cX10_insult 13 = .ok (.getfield 60, 3) := dX10_insult_0_a.2.2.2.2.2.2.2.2.2.1
theorem dX10_insult_16 : decode cX10_insult 16 = .ok (.iconst 1, 1) := dX10_insult_0_a.2.2.2.2.2.2.2.2.2.2.1
theorem dX10_insult_17 : decode cX10_insult 17 = .ok (.if_icmp .eq 17, 3) := dX10_insult_0_a.2.2.2.2.2.2.2.2.2.2.2.1
theorem dX10_insult_20 : decode cX10_insult 20 = .ok (.aload_n 0, 1) := dX10_insult_0_a.2.2.2.2.2.2.2.2.2.2.2.2.1
theorem dX10_insult_21 : decode cX10_insult 21 = .ok (.getfield 60, 3) := dX10_insult_0_a.2.2.2.2.2.2.2.2.2.2.2.2.2.1
theorem dX10_insult_24 : decode cX10_insult 24 = .ok (.iconst 3, 1) := dX10_insult_0_a.2.2.2.2.2.2.2.2.2.2.2.2.2.2.1
theorem dX10_insult_25 : decode cX10_insult 25 = .ok (.if_icmp .ne 11, 3) := dX10_insult_0_a.2.2.2.2.2.2.2.2.2.2.2.2.2.2.2
theorem dX10_insult_28_a : (decode cX10_insult 28 = .ok (.iload_n 2, 1)) ∧ (decode cX10_insult 29 = .ok (.bipush 7, 2)) ∧ (decode cX10_insult 31 = .ok (.if_icmp .lt 5, 3)) ∧ (decode cX10_insult 34 = .ok (.iconst 0, 1)) ∧ (decode cX10_insult 35 = .ok (.ireturn, 1)) ∧ (decode cX10_insult 36 = .ok (.iload_n 1, 1)) ∧ (decode cX10_insult 37 = .ok (.aload_n 0, 1)) ∧ (decode cX10_insult 38 = .ok (.getfield 63, 3)) ∧ (decode cX10_insult 41 = .ok (.if_icmp .ne 12, 3)) ∧ (decode cX10_insult 44 = .ok (.iconst 2, 1)) ∧ (decode cX10_insult 45 = .ok (.bipush 10, 2)) ∧ (decode cX10_insult 47 = .ok (.iload_n 2, 1)) ∧ (decode cX10_insult 48 = .ok (.isub, 1)) ∧ (decode cX10_insult 49 = .ok (.imul, 1)) ∧ (decode cX10_insult 50 = .ok (.goto 7, 3)) ∧ (decode cX10_insult 53 = .ok (.bipush 10, 2)) := by decide +kernel
theorem dX10_insult_28 : decode cX10_insult 28 = .ok (.iload_n 2, 1) := dX10_insult_28_a.1
theorem dX10_insult_29 : decode cX10_insult 29 = .ok (.bipush 7, 2) := dX10_insult_28_a.2.1
theorem dX10_insult_31 : decode cX10_insult 31 = .ok (.if_icmp .lt 5, 3) := dX10_insult_28_a.2.2.1
theorem dX10_insult_34 : decode cX10_insult 34 = .ok (.iconst 0, 1) := dX10_insult_28_a.2.2.2.1
theorem dX10_insult_35 : decode cX10_insult 35 = .ok (.ireturn, 1) := dX10_insult_28_a.2.2.2.2.1
theorem dX10_insult_36 : decode cX10_insult 36 = .ok (.iload_n 1, 1) := dX10_insult_28_a.2.2.2.2.2.1
theorem dX10_insult_37 : decode cX10_insult 37 = .ok (.aload_n 0, 1) := dX10_insult_28_a.2.2.2.2.2.2.1
theorem dX10_insult_38 : decode cX10_insult 38 = .ok (.getfield 63, 3) := dX10_insult_28_a.2.2.2.2.2.2.2.1
theorem dX10_insult_41 : decode cX10_insult 41 = .ok (.if_icmp .ne 12, 3) := dX10_insult_28_a.2.2.2.2.2.2.2.2.1
theorem dX10_insult_44 : decode cX10_insult 44 = .ok (.iconst 2, 1) := dX10_insult_28_a.2.2.2.2.2.2.2.2.2.1
theorem dX10_insult_45 : decode cX10_insult 45 = .ok (.bipush 10, 2) := dX10_insult_28_a.2.2.2.2.2.2.2.2.2.2.1
theorem dX10_insult_47 : decode cX10_insult 47 = .ok (.iload_n 2, 1) := dX10_insult_28_a.2.2.2.2.2.2.2.2.2.2.2.1
theorem dX10_insult_48 : decode cX10_insult 48 = .ok (.isub, 1) := dX10_insult_28_a.2.2.2.2.2.2.2.2.2.2.2.2.1
theorem dX10_insult_49 : decode cX10_insult 49 = .ok (.imul, 1) := dX10_insult_28_a.2.2.2.2.2.2.2.2.2.2.2.2.2.1
theorem dX10_insult_50 : decode cX10_insult 50 = .ok (.goto 7, 3) := dX10_insult_28_a.2.2.2.2.2.2.2.2.2.2.2.2.2.2.1
theorem dX10_insult_53 : decode cX10_insult 53 = .ok (.bipush 10, 2) := dX10_insult_28_a.2.2.2.2.2.2.2.2.2.2.2.2.2.2.2
theorem dX10_insult_55_a : (decode cX10_insult 55 = .ok (.iload_n 2, 1)) ∧ (decode cX10_insult 56 = .ok (.isub, 1)) ∧ (decode cX10_insult 57 = .ok (.istore_n 3, 1)) ∧ (decode cX10_insult 58 = .ok (.aload_n 0, 1)) ∧ (decode cX10_insult 59 = .ok (.getfield 60, 3)) ∧ (decode cX10_insult 62 = .ok (.iconst 2, 1)) ∧ (decode cX10_insult 63 = .ok (.if_icmp .ne 9, 3)) ∧ (decode cX10_insult 66 = .ok (.iload_n 3, 1)) ∧ (decode cX10_insult 67 = .ok (.iconst 1, 1)) ∧ (decode cX10_insult 68 = .ok (.iadd, 1)) ∧ (decode cX10_insult 69 = .ok (.goto 4, 3)) ∧ (decode cX10_insult 72 = .ok (.iload_n 3, 1)) ∧ (decode cX10_insult 73 = .ok (.ireturn, 1)) := by decide +kernel
theorem dX10_insult_55 : decode cX10_insult 55 = .ok (.iload_n 2, 1) := dX10_insult_55_a.1
theorem dX10_insult_56 : decode cX10_insult 56 = .ok (.isub, 1) := dX10_insult_55_a.2.1
theorem dX10_insult_57 : decode cX10_insult 57 = .ok (.istore_n 3, 1) := dX10_insult_55_a.2.2.1
theorem dX10_insult_58 : decode cX10_insult 58 = .ok (.aload_n 0, 1) := dX10_insult_55_a.2.2.2.1
theorem dX10_insult_59 : decode cX10_insult 59 = .ok (.getfield 60, 3) := dX10_insult_55_a.2.2.2.2.1
theorem dX10_insult_62 : decode cX10_insult 62 = .ok (.iconst 2, 1) := dX10_insult_55_a.2.2.2.2.2.1
theorem dX10_insult_63 : decode cX10_insult 63 = .ok (.if_icmp .ne 9, 3) := dX10_insult_55_a.2.2.2.2.2.2.1
theorem dX10_insult_66 : decode cX10_insult 66 = .ok (.iload_n 3, 1) := dX10_insult_55_a.2.2.2.2.2.2.2.1
theorem dX10_insult_67 : decode cX10_insult 67 = .ok (.iconst 1, 1) := dX10_insult_55_a.2.2.2.2.2.2.2.2.1
theorem dX10_insult_68 : decode cX10_insult 68 = .ok (.iadd, 1) := dX10_insult_55_a.2.2.2.2.2.2.2.2.2.1
theorem dX10_insult_69 : decode cX10_insult 69 = .ok (.goto 4, 3) := dX10_insult_55_a.2.2.2.2.2.2.2.2.2.2.1
theorem dX10_insult_72 : decode cX10_insult 72 = .ok (.iload_n 3, 1) := dX10_insult_55_a.2.2.2.2.2.2.2.2.2.2.2.1
theorem dX10_insult_73 : decode cX10_insult 73 = .ok (.ireturn, 1) := dX10_insult_55_a.2.2.2.2.2.2.2.2.2.2.2.2
theorem dX11_init_0_a : (decode cX11_init 0 = .ok (.aload_n 0, 1)) ∧ (decode cX11_init 1 = .ok (.invokespecial 1, 3)) ∧ (decode cX11_init 4 = .ok (.aload_n 0, 1)) ∧ (decode cX11_init 5 = .ok (.new 7, 3)) ∧ (decode cX11_init 8 = .ok (.dup, 1)) ∧ (decode cX11_init 9 = .ok (.invokespecial 9, 3)) ∧ (decode cX11_init 12 = .ok (.putfield 10, 3)) ∧ (decode cX11_init 15 = .ok (.aload_n 0, 1)) ∧ (decode cX11_init 16 = .ok (.new 16, 3)) ∧ (decode cX11_init 19 = .ok (.dup, 1)) ∧ (decode cX11_init 20 = .ok (.invokespecial 18, 3)) ∧ (decode cX11_init 23 = .ok (.putfield 19, 3)) ∧ (decode cX11_init 26 = .ok (.aload_n 0, 1)) ∧ (decode cX11_init 27 = .ok (.new 23, 3)) ∧ (decode cX11_init 30 = .ok (.dup, 1)) ∧ (decode cX11_init 31 = .ok (.invokespecial 25, 3)) := by decide +kernel
theorem dX11_init_0 : decode cX11_init 0 = .ok (.aload_n 0, 1) := dX11_init_0_a.1
theorem dX11_init_1 : decode cX11_init 1 = .ok (.invokespecial 1, 3) := dX11_init_0_a.2.1
theorem dX11_init_4 : decode cX11_init 4 = .ok (.aload_n 0, 1) := dX11_init_0_a.2.2.1
theorem dX11_init_5 : decode cX11_init 5 = .ok (.new 7, 3) := dX11_init_0_a.2.2.2.1
theorem dX11_init_8 : decode cX11_init 8 = .ok (.dup, 1) := dX11_init_0_a.2.2.2.2.1
theorem dX11_init_9 : decode cX11_init 9 = .ok (.invokespecial 9, 3) := dX11_init_0_a.2.2.2.2.2.1
theorem dX11_init_12 : decode cX11_init 12 = .ok (.putfield 10, 3) := dX11_init_0_a.2.2.2.2.2.2.1
theorem dX11_init_15 : decode cX11_init 15 = .ok (.aload_n 0, 1) := dX11_init_0_a.2.2.2.2.2.2.2.1
theorem dX11_init_16 : decode cX11_init 16 = .ok (.new 16, 3) := dX11_init_0_a.2.2.2.2.2.2.2.2.1
theorem dX11_init_19 : decode cX11_init 19 = .ok (.dup, 1) := dX11_init_0_a.2.2.2.2.2.2.2.2.2.1
theorem dX11_init_20 : decode cX11_init 20 = .ok (.invokespecial 18, 3) := dX11_init_0_a.2.2.2.2.2.2.2.2.2.2.1
theorem dX11_init_23 : decode cX11_init 23 = .ok (.putfield 19, 3) := dX11_init_0_a.2.2.2.2.2.2.2.2.2.2.2.1
theorem dX11_init_26 : decode cX11_init 26 = .ok (.aload_n 0, 1) := dX11_init_0_a.2.2.2.2.2.2.2.2.2.2.2.2.1
theorem dX11_init_27 : decode cX11_init 27 = .ok (.new 23, 3) := dX11_init_0_a.2.2.2.2.2.2.2.2.2.2.2.2.2.1
theorem dX11_init_30 : decode cX11_init 30 = .ok (.dup, 1) := dX11_init_0_a.2.2.2.2.2.2.2.2.2.2.2.2.2.2.1
theorem dX11_init_31 : decode cX11_init 31 = .ok (.invokespecial 25, 3) := dX11_init_0_a.2.2.2.2.2.2.2.2.2.2.2.2.2.2.2
theorem dX11_init_34_a : (decode cX11_init 34 = .ok (.putfield 26, 3)) ∧ (decode cX11_init 37 = .ok (.aload_n 0, 1)) ∧ (decode cX11_init 38 = .ok (.new 30, 3)) ∧ (decode cX11_init 41 = .ok (.dup, 1)) ∧ (decode cX11_init 42 = .ok (.invokespecial 32, 3)) ∧ (decode cX11_init 45 = .ok (.putfield 33, 3)) ∧ (decode cX11_init 48 = .ok (.aload_n 0, 1)) ∧ (decode cX11_init 49 = .ok (.new 37, 3)) ∧ (decode cX11_init 52 = .ok (.dup, 1)) ∧ (decode cX11_init 53 = .ok (.aload_n 0, 1)) ∧ (decode cX11_init 54 = .ok (.getfield 10, 3)) ∧ (decode cX11_init 57 = .ok (.aload_n 0, 1)) ∧ (decode cX11_init 58 = .ok (.getfield 19, 3)) ∧ (decode cX11_init 61 = .ok (.aload_n 0, 1)) ∧ (decode cX11_init 62 = .ok (.getfield 26, 3)) ∧ (decode cX11_init 65 = .ok (.invokespecial 39, 3)) := by decide +kernel
theorem dX11_init_34 : decode cX11_init 34 = .ok (.putfield 26, 3) := dX11_init_34_a.1
theorem dX11_init_37 : decode cX11_init 37 = .ok (.aload_n 0, 1) := dX11_init_34_a.2.1
theorem dX11_init_38 : decode cX11_init 38 = .ok (.new 30, 3) := dX11_init_34_a.2.2.1
theorem dX11_init_41 : decode cX11_init 41 = .ok (.dup, 1) := dX11_init_34_a.2.2.2.1
theorem dX11_init_42 : decode cX11_init 42 = .ok (.invokespecial 32, 3) := dX11_init_34_a.2.2.2.2.1
theorem dX11_init_45 : decode cX11_init 45 = .ok (.putfield 33, 3) := dX11_init_34_a.2.2.2.2.2.1
theorem dX11_init_48 : decode cX11_init 48 = .ok (.aload_n 0, 1) := dX11_init_34_a.2.2.2.2.2.2.1
theorem dX11_init_49 : decode cX11_init 49 = .ok (.new 37, 3) := dX11_init_34_a.2.2.2.2.2.2.2.1
theorem dX11_init_52 : decode cX11_init 52 = .ok (.dup, 1) := dX11_init_34_a.2.2.2.2.2.2.2.2.1
theorem dX11_init_53 : decode cX11_init 53 = .ok (.aload_n 0, 1) := dX11_init_34_a.2.2.2.2.2.2.2.2.2.1
theorem dX11_init_54 : decode cX11_init 54 = .ok (.getfield 10, 3) := dX11_init_34_a.2.2.2.2.2.2.2.2.2.2.1
theorem dX11_init_57 : decode cX11_init 57 = .ok (.aload_n 0, 1) := dX11_init_34_a.2.2.2.2.2.2.2.2.2.2.2.1
theorem dX11_init_58 : decode cX11_init 58 = .ok (.getfield 19, 3) := dX11_init_34_a.2.2.2.2.2.2.2.2.2.2.2.2.1
theorem dX11_init_61 : decode cX11_init 61 = .ok (.aload_n 0, 1) := dX11_init_34_a.2.2.2.2.2.2.2.2.2.2.2.2.2.1
theorem dX11_init_62 : decode cX11_init 62 = .ok (.getfield 26, 3) := dX11_init_34_a.2.2.2.2.2.2.2.2.2.2.2.2.2.2.1
theorem dX11_init_65 : decode cX11_init 65 = .ok (.invokespecial 39, 3) := dX11_init_34_a.2.2.2.2.2.2.2.2.2.2.2.2.2.2.2
theorem dX11_init_68_a : (decode cX11_init 68 = .ok (.putfield 42, 3)) ∧ (decode cX11_init 71 = .ok (.aload_n 0, 1)) ∧ (decode cX11_init 72 = .ok (.new 46, 3)) ∧ (decode cX11_init 75 = .ok (.dup, 1)) ∧ (decode cX11_init 76 = .ok (.invokespecial 48, 3)) ∧ (decode cX11_init 79 = .ok (.putfield 49, 3)) ∧ (decode cX11_init 82 = .ok (.aload_n 0, 1)) ∧ (decode cX11_init 83 = .ok (.new 53, 3)) ∧ (decode cX11_init 86 = .ok (.dup, 1)) ∧ (decode cX11_init 87 = .ok (.invokespecial 55, 3)) ∧ (decode cX11_init 90 = .ok (.putfield 56, 3)) ∧ (decode cX11_init 93 = .ok (.aload_n 0, 1)) ∧ (decode cX11_init 94 = .ok (.new 60, 3)) ∧ (decode cX11_init 97 = .ok (.dup, 1)) ∧ (decode cX11_init 98 = .ok (.invokespecial 62, 3)) ∧ (decode cX11_init 101 = .ok (.putfield 63, 3)) := by decide +kernel
theorem dX11_init_68 : decode cX11_init 68 = .ok (.putfield 42, 3) := dX11_init_68_a.1
theorem dX11_init_71 : decode cX11_init 71 = .ok (.aload_n 0, 1) := dX11_init_68_a.2.1
theorem dX11_init_72 : decode cX11_init 72 = .ok (.new 46, 3) := dX11_init_68_a.2.2.1
theorem dX11_init_75 : decode cX11_init 75 = .ok (.dup, 1) := dX11_init_68_a.2.2.2.1
theorem dX11_init_76 : decode cX11_init 76 = .ok (.invokespecial 48, 3) := dX11_init_68_a.2.2.2.2.1
theorem dX11_init_79 : decode cX11_init 79 = .ok (.putfield 49, 3) := dX11_init_68_a.2.2.2.2.2.1
theorem dX11_init_82 : decode cX11_init 82 = .ok (.aload_n 0, 1) := dX11_init_68_a.2.2.2.2.2.2.1
theorem dX11_init_83 : decode cX11_init 83 = .ok (.new 53, 3) := dX11_init_68_a.2.2.2.2.2.2.2.1
theorem dX11_init_86 : decode cX11_init 86 = .ok (.dup, 1) := dX11_init_68_a.2.2.2.2.2.2.2.2.1
theorem dX11_init_87 : decode cX11_init 87 = .ok (.invokespecial 55, 3) := dX11_init_68_a.2.2.2.2.2.2.2.2.2.1
theorem dX11_init_90 : decode cX11_init 90 = .ok (.putfield 56, 3) := dX11_init_68_a.2.2.2.2.2.2.2.2.2.2.1
theorem dX11_init_93 : decode cX11_init 93 = .ok (.aload_n 0, 1) := dX11_init_68_a.2.2.2.2.2.2.2.2.2.2.2.1
theorem dX11_init_94 : decode cX11_init 94 = .ok (.new 60, 3) := dX11_init_68_a.2.2.2.2.2.2.2.2.2.2.2.2.1
theorem dX11_init_97 : decode cX11_init 97 = .ok (.dup, 1) := dX11_init_68_a.2.2.2.2.2.2.2.2.2.2.2.2.2.1
theorem dX11_init_98 : decode cX11_init 98 = .ok (.invokespecial 62, 3) := dX11_init_68_a.2.2.2.2.2.2.2.2.2.2.2.2.2.2.1
theorem dX11_init_101 : decode cX11_init 101 = .ok (.putfield 63, 3) := dX11_init_68_a.2.2.2.2.2.2.2.2.2.2.2.2.2.2.2
theorem dX11_init_104_a : (decode cX11_init 104 = .ok (.aload_n 0, 1)) ∧ (decode cX11_init 105 = .ok (.bipush 8, 2)) ∧ (decode cX11_init 107 = .ok (.newarray .int, 2)) ∧ (decode cX11_init 109 = .ok (.putfield 67, 3)) ∧ (decode cX11_init 112 = .ok (.aload_n 0, 1)) ∧ (decode cX11_init 113 = .ok (.bipush 8, 2)) ∧ (decode cX11_init 115 = .ok (.newarray .int, 2)) ∧ (decode cX11_init 117 = .ok (.putfield 71, 3)) ∧ (decode cX11_init 120 = .ok (.aload_n 0, 1)) ∧ (decode cX11_init 121 = .ok (.bipush 25, 2)) ∧ (decode cX11_init 123 = .ok (.newarray .int, 2)) ∧ (decode cX11_init 125 = .ok (.putfield 74, 3)) ∧ (decode cX11_init 128 = .ok (.aload_n 0, 1)) ∧ (decode cX11_init 129 = .ok (.iconst 4, 1)) ∧ (decode cX11_init 130 = .ok (.anewarray 77, 3)) ∧ (decode cX11_init 133 = .ok (.putfield 79, 3)) := by decide +kernel
theorem dX11_init_104 : decode cX11_init 104 = .ok (.aload_n 0, 1) := dX11_init_104_a.1
theorem dX11_init_105 : decode cX11_init 105 = .ok (.bipush 8, 2) := dX11_init_104_a.2.1
theorem dX11_init_107 : decode cX11_init 107 = .ok (.newarray .int, 2) := dX11_init_104_a.2.2.1
theorem dX11_init_109 : decode cX11_init 109 = .ok (.putfield 67, 3) := dX11_init_104_a.2.2.2.1
theorem dX11_init_112 : decode cX11_init 112 = .ok (.aload_n 0, 1) := dX11_init_104_a.2.2.2.2.1
theorem dX11_init_113 : decode cX11_init 113 = .ok (.bipush 8, 2) := dX11_init_104_a.2.2.2.2.2.1
theorem dX11_init_115 : decode cX11_init 115 = .ok (.newarray .int, 2) := dX11_init_104_a.2.2.2.2.2.2.1
theorem dX11_init_117 : decode cX11_init 117 = .ok (.putfield 71, 3) := dX11_init_104_a.2.2.2.2.2.2.2.1
theorem dX11_init_120 : decode cX11_init 120 = .ok (.aload_n 0, 1) := dX11_init_104_a.2.2.2.2.2.2.2.2.1
theorem dX11_init_121 : decode cX11_init 121 = .ok (.bipush 25, 2) := dX11_init_104_a.2.2.2.2.2.2.2.2.2.1
theorem dX11_init_123 : decode cX11_init 123 = .ok (.newarray .int, 2) := dX11_init_104_a.2.2.2.2.2.2.2.2.2.2.1
theorem dX11_init_125 : decode cX11_init 125 = .ok (.putfield 74, 3) := dX11_init_104_a.2.2.2.2.2.2.2.2.2.2.2.1
theorem dX11_init_128 : decode cX11_init 128 = .ok (.aload_n 0, 1) := dX11_init_104_a.2.2.2.2.2.2.2.2.2.2.2.2.1
theorem dX11_init_129 : decode cX11_init 129 = .ok (.iconst 4, 1) := dX11_init_104_a.2.2.2.2.2.2.2.2.2.2.2.2.2.1
theorem dX11_init_130 : decode cX11_init 130 = .ok (.anewarray 77, 3) := dX11_init_104_a.2.2.2.2.2.2.2.2.2.2.2.2.2.2.1
theorem dX11_init_133 : decode cX11_init 133 = .ok (.putfield 79, 3) := dX11_init_104_a.2.2.2.2.2.2.2.2.2.2.2.2.2.2.2
theorem dX11_init_136_a : (decode cX11_init 136 = .ok (.iconst 0, 1)) ∧ (decode cX11_init 137 = .ok (.istore_n 1, 1)) ∧ (decode cX11_init 138 = .ok (.iload_n 1, 1)) ∧ (decode cX11_init 139 = .ok (.iconst 4, 1)) ∧ (decode cX11_init 140 = .ok (.if_icmp .ge 22, 3)) ∧ (decode cX11_init 143 = .ok (.aload_n 0, 1)) ∧ (decode cX11_init 144 = .ok (.getfield 79, 3)) ∧ (decode cX11_init 147 = .ok (.iload_n 1, 1)) ∧ (decode cX11_init 148 = .ok (.new 77, 3)) ∧ (decode cX11_init 151 = .ok (.dup, 1)) ∧ (decode cX11_init 152 = .ok (.invokespecial 83, 3)) ∧ (decode cX11_init 155 = .ok (.aastore, 1)) ∧ (decode cX11_init 156 = .ok (.iinc 1 1, 3)) ∧ (decode cX11_init 159 = .ok (.goto (-21), 3)) ∧ (decode cX11_init 162 = .ok (.return_, 1)) := by decide +kernel
theorem dX11_init_136 : decode cX11_init 136 = .ok (.iconst 0, 1) := dX11_init_136_a.1
theorem dX11_init_137 : decode cX11_init 137 = .ok (.istore_n 1, 1) := dX11_init_136_a.2.1
theorem dX11_init_138 : decode cX11_init 138 = .ok (.iload_n 1, 1) := dX11_init_136_a.2.2.1
theorem dX11_init_139 : decode cX11_init 139 = .ok (.iconst 4, 1) := dX11_init_136_a.2.2.2.1
theorem dX11_init_140 : decode cX11_init 140 = .ok (.if_icmp .ge 22, 3) := dX11_init_136_a.2.2.2.2.1
theorem dX11_init_143 : decode cX11_init 143 = .ok (.aload_n 0, 1) := dX11_init_136_a.2.2.2.2.2.1
theorem dX11_init_144 : decode cX11_init 144 = .ok (.getfield 79, 3) := dX11_init_136_a.2.2.2.2.2.2.1
theorem dX11_init_147 : decode cX11_init 147 = .ok (.iload_n 1, 1) := dX11_init_136_a.2.2.2.2.2.2.2.1
theorem dX11_init_148 : decode cX11_init 148 = .ok (.new 77, 3) := dX11_init_136_a.2.2.2.2.2.2.2.2.1
theorem dX11_init_151 : decode cX11_init 151 = .ok (.dup, 1) := dX11_init_136_a.2.2.2.2.2.2.2.2.2.1
theorem dX11_init_152 : decode cX11_init 152 = .ok (.invokespecial 83, 3) := dX11_init_136_a.2.2.2.2.2.2.2.2.2.2.1
theorem dX11_init_155 : decode cX11_init 155 = .ok (.aastore, 1) := dX11_init_136_a.2.2.2.2.2.2.2.2.2.2.2.1
theorem dX11_init_156 : decode cX11_init 156 = .ok (.iinc 1 1, 3) := dX11_init_136_a.2.2.2.2.2.2.2.2.2.2.2.2.1
theorem dX11_init_159 : decode cX11_init 159 = .ok (.goto (-21), 3) := dX11_init_136_a.2.2.2.2.2.2.2.2.2.2.2.2.2.1
theorem dX11_init_162 : decode cX11_init 162 = .ok (.return_, 1) := dX11_init_136_a.2.2.2.2.2.2.2.2.2.2.2.2.2.2
theorem dX11_type_0_a : (decode cX11_type 0 = .ok (.aload_n 0, 1)) ∧ (decode cX11_type 1 = .ok (.iload_n 1, 1)) ∧ (decode cX11_type 2 = .ok (.invokevirtual 84, 3)) ∧ (decode cX11_type 5 = .ok (.astore_n 3, 1)) ∧ (decode cX11_type 6 = .ok (.aload_n 3, 1)) ∧ (decode cX11_type 7 = .ok (.ifnull 14, 3)) ∧ (decode cX11_type 10 = .ok (.iload_n 2, 1)) ∧ (decode cX11_type 11 = .ok (.ifCond .lt 10, 3)) ∧ (decode cX11_type 14 = .ok (.iload_n 2, 1)) ∧ (decode cX11_type 15 = .ok (.sipush 255, 3)) ∧ (decode cX11_type 18 = .ok (.if_icmp .le 6, 3)) ∧ (decode cX11_type 21 = .ok (.bipush (-2), 2)) ∧ (decode cX11_type 23 = .ok (.ireturn, 1)) ∧ (decode cX11_type 24 = .ok (.aload_n 3, 1)) ∧ (decode cX11_type 25 = .ok (.invokevirtual 88, 3)) ∧ (decode cX11_type 28 = .ok (.ifCond .eq 6, 3)) := by decide +kernel
theorem dX11_type_0 : decode cX11_type 0 = .ok (.aload_n 0, 1) := dX11_type_0_a.1
theorem dX11_type_1 : decode cX11_type 1 = .ok (.iload_n 1, 1) := dX11_type_0_a.2.1
theorem dX11_type_2 : decode cX11_type 2 = .ok (.invokevirtual 84, 3) := dX11_type_0_a.2.2.1
theorem dX11_type_5 : decode cX11_type 5 = .ok (.astore_n 3, 1) := dX11_type_0_a.2.2.2.1
theorem dX11_type_6 : decode cX11_type 6 = .ok (.aload_n 3, 1) := dX11_type_0_a.2.2.2.2.1
theorem dX11_type_7 : decode cX11_type 7 = .ok (.ifnull 14, 3) := dX11_type_0_a.2.2.2.2.2.1
theorem dX11_type_10 : decode cX11_type 10 = .ok (.iload_n 2, 1) := dX11_type_0_a.2.2.2.2.2.2.1
theorem dX11_type_11 : decode cX11_type 11 = .ok (.ifCond .lt 10, 3) := dX11_type_0_a.2.2.2.2.2.2.2.1
theorem dX11_type_14 : decode cX11_type 14 = .ok (.iload_n 2, 1) := dX11_type_0_a.2.2.2.2.2.2.2.2.1
theorem dX11_type_15 : decode cX11_type 15 = .ok (.sipush 255, 3) := dX11_type_0_a.2.2.2.2.2.2.2.2.2.1
theorem dX11_type_18 : decode cX11_type 18 = .ok (.if_icmp .le 6, 3) := dX11_type_0_a.2.2.2.2.2.2.2.2.2.2.1
theorem dX11_type_21 : decode cX11_type 21 = .ok (.bipush (-2), 2) := dX11_type_0_a.2.2.2.2.2.2.2.2.2.2.2.1
theorem dX11_type_23 : decode cX11_type 23 = .ok (.ireturn, 1) := dX11_type_0_a.2.2.2.2.2.2.2.2.2.2.2.2.1
theorem dX11_type_24 : decode cX11_type 24 = .ok (.aload_n 3, 1) := dX11_type_0_a.2.2.2.2.2.2.2.2.2.2.2.2.2.1
theorem dX11_type_25 : decode cX11_type 25 = .ok (.invokevirtual 88, 3) := dX11_type_0_a.2.2.2.2.2.2.2.2.2.2.2.2.2.2.1
theorem dX11_type_28 : decode cX11_type 28 = .ok (.ifCond .eq 6, 3) := dX11_type_0_a.2.2.2.2.2.2.2.2.2.2.2.2.2.2.2
theorem dX11_type_31_a : (decode cX11_type 31 = .ok (.bipush (-4), 2)) ∧ (decode cX11_type 33 = .ok (.ireturn, 1)) ∧ (decode cX11_type 34 = .ok (.aload_n 3, 1)) ∧ (decode cX11_type 35 = .ok (.iload_n 2, 1)) ∧ (decode cX11_type 36 = .ok (.invokevirtual 94, 3)) ∧ (decode cX11_type 39 = .ok (.aload_n 3, 1)) ∧ (decode cX11_type 40 = .ok (.getfield 98, 3)) ∧ (decode cX11_type 43 = .ok (.ireturn, 1)) := by decide +kernel
theorem dX11_type_31 : decode cX11_type 31 = .ok (.bipush (-4), 2) := dX11_type_31_a.1
theorem dX11_type_33 : decode cX11_type 33 = .ok (.ireturn, 1) := dX11_type_31_a.2.1
theorem dX11_type_34 : decode cX11_type 34 = .ok (.aload_n 3, 1) := dX11_type_31_a.2.2.1
theorem dX11_type_35 : decode cX11_type 35 = .ok (.iload_n 2, 1) := dX11_type_31_a.2.2.2.1
theorem dX11_type_36 : decode cX11_type 36 = .ok (.invokevirtual 94, 3) := dX11_type_31_a.2.2.2.2.1
theorem dX11_type_39 : decode cX11_type 39 = .ok (.aload_n 3, 1) := dX11_type_31_a.2.2.2.2.2.1
theorem dX11_type_40 : decode cX11_type 40 = .ok (.getfield 98, 3) := dX11_type_31_a.2.2.2.2.2.2.1
theorem dX11_type_43 : decode cX11_type 43 = .ok (.ireturn, 1) := dX11_type_31_a.2.2.2.2.2.2.2
theorem dX11_wipe_0_a : (decode cX11_wipe 0 = .ok (.aload_n 0, 1)) ∧ (decode cX11_wipe 1 = .ok (.iload_n 1, 1)) ∧ (decode cX11_wipe 2 = .ok (.invokevirtual 84, 3)) ∧ (decode cX11_wipe 5 = .ok (.astore_n 2, 1)) ∧ (decode cX11_wipe 6 = .ok (.aload_n 2, 1)) ∧ (decode cX11_wipe 7 = .ok (.ifnonnull 6, 3)) ∧ (decode cX11_wipe 10 = .ok (.bipush (-2), 2)) ∧ (decode cX11_wipe 12 = .ok (.ireturn, 1)) ∧ (decode cX11_wipe 13 = .ok (.aload_n 2, 1)) ∧ (decode cX11_wipe 14 = .ok (.getfield 98, 3)) ∧ (decode cX11_wipe 17 = .ok (.istore_n 3, 1)) ∧ (decode cX11_wipe 18 = .ok (.aload_n 2, 1)) ∧ (decode cX11_wipe 19 = .ok (.iconst 0, 1)) ∧ (decode cX11_wipe 20 = .ok (.invokevirtual 102, 3)) ∧ (decode cX11_wipe 23 = .ok (.iload_n 3, 1)) ∧ (decode cX11_wipe 24 = .ok (.ireturn, 1)) := by decide +kernel
theorem dX11_wipe_0 : decode cX11_wipe 0 = .ok (.aload_n 0, 1) := dX11_wipe_0_a.1
theorem dX11_wipe_1 : decode cX11_wipe 1 = .ok (.iload_n 1, 1) := dX11_wipe_0_a.2.1
theorem dX11_wipe_2 : decode cX11_wipe 2 = .ok (.invokevirtual 84, 3) := dX11_wipe_0_a.2.2.1
theorem dX11_wipe_5 : decode cX11_wipe 5 = .ok (.astore_n 2, 1) := dX11_wipe_0_a.2.2.2.1
theorem dX11_wipe_6 : decode cX11_wipe 6 = .ok (.aload_n 2, 1) := dX11_wipe_0_a.2.2.2.2.1
theorem dX11_wipe_7 : decode cX11_wipe 7 = .ok (.ifnonnull 6, 3) := dX11_wipe_0_a.2.2.2.2.2.1
theorem dX11_wipe_10 : decode cX11_wipe 10 = .ok (.bipush (-2), 2) := dX11_wipe_0_a.2.2.2.2.2.2.1
theorem dX11_wipe_12 : decode cX11_wipe 12 = .ok (.ireturn, 1) := dX11_wipe_0_a.2.2.2.2.2.2.2.1
theorem dX11_wipe_13 : decode cX11_wipe 13 = .ok (.aload_n 2, 1) := dX11_wipe_0_a.2.2.2.2.2.2.2.2.1
theorem dX11_wipe_14 : decode cX11_wipe 14 = .ok (.getfield 98, 3) := dX11_wipe_0_a.2.2.2.2.2.2.2.2.2.1
theorem dX11_wipe_17 : decode cX11_wipe 17 = .ok (.istore_n 3, 1) := dX11_wipe_0_a.2.2.2.2.2.2.2.2.2.2.1
theorem dX11_wipe_18 : decode cX11_wipe 18 = .ok (.aload_n 2, 1) := dX11_wipe_0_a.2.2.2.2.2.2.2.2.2.2.2.1
theorem dX11_wipe_19 : decode cX11_wipe 19 = .ok (.iconst 0, 1) := dX11_wipe_0_a.2.2.2.2.2.2.2.2.2.2.2.2.1
theorem dX11_wipe_20 : decode cX11_wipe 20 = .ok (.invokevirtual 102, 3) := dX11_wipe_0_a.2.2.2.2.2.2.2.2.2.2.2.2.2.1
theorem dX11_wipe_23 : decode cX11_wipe 23 = .ok (.iload_n 3, 1) := dX11_wipe_0_a.2.2.2.2.2.2.2.2.2.2.2.2.2.2.1
theorem dX11_wipe_24 : decode cX11_wipe 24 = .ok (.ireturn, 1) := dX11_wipe_0_a.2.2.2.2.2.2.2.2.2.2.2.2.2.2.2
theorem dX11_undo_0_a : (decode cX11_undo 0 = .ok (.aload_n 0, 1)) ∧ (decode cX11_undo 1 = .ok (.iload_n 1, 1)) ∧ (decode cX11_undo 2 = .ok (.invokevirtual 84, 3)) ∧ (decode cX11_undo 5 = .ok (.astore_n 2, 1)) ∧ (decode cX11_undo 6 = .ok (.aload_n 2, 1)) ∧ (decode cX11_undo 7 = .ok (.ifnonnull 6, 3)) ∧ (decode cX11_undo 10 = .ok (.bipush (-2), 2)) ∧ (decode cX11_undo 12 = .ok (.ireturn, 1)) ∧ (decode cX11_undo 13 = .ok (.aload_n 2, 1)) ∧ (decode cX11_undo 14 = .ok (.getfield 98, 3)) ∧ (decode cX11_undo 17 = .ok (.ifCond .ne 6, 3)) ∧ (decode cX11_undo 20 = .ok (.bipush (-3), 2)) ∧ (decode cX11_undo 22 = .ok (.ireturn, 1)) ∧ (decode cX11_undo 23 = .ok (.aload_n 2, 1)) ∧ (decode cX11_undo 24 = .ok (.aload_n 2, 1)) ∧ (decode cX11_undo 25 = .ok (.getfield 98, 3)) := by decide +kernel
theorem dX11_undo_0 : decode cX11_undo 0 = .ok (.aload_n 0, 1) := dX11_undo_0_a.1
theorem dX11_undo_1 : decode cX11_undo 1 = .ok (.iload_n 1, 1) := dX11_undo_0_a.2.1
theorem dX11_undo_2 : decode cX11_undo 2 = .ok (.invokevirtual 84, 3) := dX11_undo_0_a.2.2.1
theorem dX11_undo_5 : decode cX11_undo 5 = .ok (.astore_n 2, 1) := dX11_undo_0_a.2.2.2.1
theorem dX11_undo_6 : decode cX11_undo 6 = .ok (.aload_n 2, 1) := dX11_undo_0_a.2.2.2.2.1
theorem dX11_undo_7 : decode cX11_undo 7 = .ok (.ifnonnull 6, 3) := dX11_undo_0_a.2.2.2.2.2.1
theorem dX11_undo_10 : decode cX11_undo 10 = .ok (.bipush (-2), 2) := dX11_undo_0_a.2.2.2.2.2.2.1
theorem dX11_undo_12 : decode cX11_undo 12 = .ok (.ireturn, 1) := dX11_undo_0_a.2.2.2.2.2.2.2.1
theorem dX11_undo_13 : decode cX11_undo 13 = .ok (.aload_n 2, 1) := dX11_undo_0_a.2.2.2.2.2.2.2.2.1
theorem dX11_undo_14 : decode cX11_undo 14 = .ok (.getfield 98, 3) := dX11_undo_0_a.2.2.2.2.2.2.2.2.2.1
theorem dX11_undo_17 : decode cX11_undo 17 = .ok (.ifCond .ne 6, 3) := dX11_undo_0_a.2.2.2.2.2.2.2.2.2.2.1
theorem dX11_undo_20 : decode cX11_undo 20 = .ok (.bipush (-3), 2) := dX11_undo_0_a.2.2.2.2.2.2.2.2.2.2.2.1
theorem dX11_undo_22 : decode cX11_undo 22 = .ok (.ireturn, 1) := dX11_undo_0_a.2.2.2.2.2.2.2.2.2.2.2.2.1
theorem dX11_undo_23 : decode cX11_undo 23 = .ok (.aload_n 2, 1) := dX11_undo_0_a.2.2.2.2.2.2.2.2.2.2.2.2.2.1
theorem dX11_undo_24 : decode cX11_undo 24 = .ok (.aload_n 2, 1) := dX11_undo_0_a.2.2.2.2.2.2.2.2.2.2.2.2.2.2.1
theorem dX11_undo_25 : decode cX11_undo 25 = .ok (.getfield 98, 3) := dX11_undo_0_a.2.2.2.2.2.2.2.2.2.2.2.2.2.2.2
theorem dX11_undo_28_a : (decode cX11_undo 28 = .ok (.iconst 1, 1)) ∧ (decode cX11_undo 29 = .ok (.isub, 1)) ∧ (decode cX11_undo 30 = .ok (.invokevirtual 102, 3)) ∧ (decode cX11_undo 33 = .ok (.aload_n 2, 1)) ∧ (decode cX11_undo 34 = .ok (.getfield 98, 3)) ∧ (decode cX11_undo 37 = .ok (.ireturn, 1)) := by decide +kernel
theorem dX11_undo_28 : decode cX11_undo 28 = .ok (.iconst 1, 1) := dX11_undo_28_a.1
theorem dX11_undo_29 : decode cX11_undo 29 = .ok (.isub, 1) := dX11_undo_28_a.2.1
theorem dX11_undo_30 : decode cX11_undo 30 = .ok (.invokevirtual 102, 3) := dX11_undo_28_a.2.2.1
theorem dX11_undo_33 : decode cX11_undo 33 = .ok (.aload_n 2, 1) := dX11_undo_28_a.2.2.2.1
theorem dX11_undo_34 : decode cX11_undo 34 = .ok (.getfield 98, 3) := dX11_undo_28_a.2.2.2.2.1
theorem dX11_undo_37 : decode cX11_undo 37 = .ok (.ireturn, 1) := dX11_undo_28_a.2.2.2.2.2
theorem dX11_fault_0_a : (decode cX11_fault 0 = .ok (.aload_n 0, 1)) ∧ (decode cX11_fault 1 = .ok (.iload_n 1, 1)) ∧ (decode cX11_fault 2 = .ok (.invokevirtual 84, 3)) ∧ (decode cX11_fault 5 = .ok (.astore_n 2, 1)) ∧ (decode cX11_fault 6 = .ok (.aload_n 2, 1)) ∧ (decode cX11_fault 7 = .ok (.ifnonnull 8, 3)) ∧ (decode cX11_fault 10 = .ok (.bipush (-2), 2)) ∧ (decode cX11_fault 12 = .ok (.goto 7, 3)) ∧ (decode cX11_fault 15 = .ok (.aload_n 2, 1)) ∧ (decode cX11_fault 16 = .ok (.getfield 105, 3)) ∧ (decode cX11_fault 19 = .ok (.ireturn, 1)) := by decide +kernel
theorem dX11_fault_0 : decode cX11_fault 0 = .ok (.aload_n 0, 1) := dX11_fault_0_a.1
theorem dX11_fault_1 : decode cX11_fault 1 = .ok (.iload_n 1, 1) := dX11_fault_0_a.2.1
theorem dX11_fault_2 : decode cX11_fault 2 = .ok (.invokevirtual 84, 3) := dX11_fault_0_a.2.2.1
theorem dX11_fault_5 : decode cX11_fault 5 = .ok (.astore_n 2, 1) := dX11_fault_0_a.2.2.2.1
theorem dX11_fault_6 : decode cX11_fault 6 = .ok (.aload_n 2, 1) := dX11_fault_0_a.2.2.2.2.1
theorem dX11_fault_7 : decode cX11_fault 7 = .ok (.ifnonnull 8, 3) := dX11_fault_0_a.2.2.2.2.2.1
theorem dX11_fault_10 : decode cX11_fault 10 = .ok (.bipush (-2), 2) := dX11_fault_0_a.2.2.2.2.2.2.1
theorem dX11_fault_12 : decode cX11_fault 12 = .ok (.goto 7, 3) := dX11_fault_0_a.2.2.2.2.2.2.2.1
theorem dX11_fault_15 : decode cX11_fault 15 = .ok (.aload_n 2, 1) := dX11_fault_0_a.2.2.2.2.2.2.2.2.1
theorem dX11_fault_16 : decode cX11_fault 16 = .ok (.getfield 105, 3) := dX11_fault_0_a.2.2.2.2.2.2.2.2.2.1
theorem dX11_fault_19 : decode cX11_fault 19 = .ok (.ireturn, 1) := dX11_fault_0_a.2.2.2.2.2.2.2.2.2.2
theorem dX11_mile_0_a : (decode cX11_mile 0 = .ok (.iload_n 1, 1)) ∧ (decode cX11_mile 1 = .ok (.ifCond .lt 9, 3)) ∧ (decode cX11_mile 4 = .ok (.iload_n 1, 1)) ∧ (decode cX11_mile 5 = .ok (.bipush 24, 2)) ∧ (decode cX11_mile 7 = .ok (.if_icmp .lt 6, 3)) ∧ (decode cX11_mile 10 = .ok (.bipush (-2), 2)) ∧ (decode cX11_mile 12 = .ok (.ireturn, 1)) ∧ (decode cX11_mile 13 = .ok (.iload_n 1, 1)) ∧ (decode cX11_mile 14 = .ok (.aload_n 0, 1)) ∧ (decode cX11_mile 15 = .ok (.getfield 10, 3)) ∧ (decode cX11_mile 18 = .ok (.getfield 108, 3)) ∧ (decode cX11_mile 21 = .ok (.if_icmp .ge 14, 3)) ∧ (decode cX11_mile 24 = .ok (.aload_n 0, 1)) ∧ (decode cX11_mile 25 = .ok (.getfield 10, 3)) ∧ (decode cX11_mile 28 = .ok (.iload_n 1, 1)) ∧ (decode cX11_mile 29 = .ok (.invokevirtual 111, 3)) := by decide +kernel
theorem dX11_mile_0 : decode cX11_mile 0 = .ok (.iload_n 1, 1) := dX11_mile_0_a.1
theorem dX11_mile_1 : decode cX11_mile 1 = .ok (.ifCond .lt 9, 3) := dX11_mile_0_a.2.1
theorem dX11_mile_4 : decode cX11_mile 4 = .ok (.iload_n 1, 1) := dX11_mile_0_a.2.2.1
theorem dX11_mile_5 : decode cX11_mile 5 = .ok (.bipush 24, 2) := dX11_mile_0_a.2.2.2.1
theorem dX11_mile_7 : decode cX11_mile 7 = .ok (.if_icmp .lt 6, 3) := dX11_mile_0_a.2.2.2.2.1
theorem dX11_mile_10 : decode cX11_mile 10 = .ok (.bipush (-2), 2) := dX11_mile_0_a.2.2.2.2.2.1
theorem dX11_mile_12 : decode cX11_mile 12 = .ok (.ireturn, 1) := dX11_mile_0_a.2.2.2.2.2.2.1
theorem dX11_mile_13 : decode cX11_mile 13 = .ok (.iload_n 1, 1) := dX11_mile_0_a.2.2.2.2.2.2.2.1
theorem dX11_mile_14 : decode cX11_mile 14 = .ok (.aload_n 0, 1) := dX11_mile_0_a.2.2.2.2.2.2.2.2.1
theorem dX11_mile_15 : decode cX11_mile 15 = .ok (.getfield 10, 3) := dX11_mile_0_a.2.2.2.2.2.2.2.2.2.1
theorem dX11_mile_18 : decode cX11_mile 18 = .ok (.getfield 108, 3) := dX11_mile_0_a.2.2.2.2.2.2.2.2.2.2.1
theorem dX11_mile_21 : decode cX11_mile 21 = .ok (.if_icmp .ge 14, 3) := dX11_mile_0_a.2.2.2.2.2.2.2.2.2.2.2.1
theorem dX11_mile_24 : decode cX11_mile 24 = .ok (.aload_n 0, 1) := dX11_mile_0_a.2.2.2.2.2.2.2.2.2.2.2.2.1
theorem dX11_mile_25 : decode cX11_mile 25 = .ok (.getfield 10, 3) := dX11_mile_0_a.2.2.2.2.2.2.2.2.2.2.2.2.2.1
theorem dX11_mile_28 : decode cX11_mile 28 = .ok (.iload_n 1, 1) := dX11_mile_0_a.2.2.2.2.2.2.2.2.2.2.2.2.2.2.1
theorem dX11_mile_29 : decode cX11_mile 29 = .ok (.invokevirtual 111, 3) := dX11_mile_0_a.2.2.2.2.2.2.2.2.2.2.2.2.2.2.2
theorem dX11_mile_32_a : (decode cX11_mile 32 = .ok (.goto 4, 3)) ∧ (decode cX11_mile 35 = .ok (.iconst (-1), 1)) ∧ (decode cX11_mile 36 = .ok (.ireturn, 1)) := by decide +kernel
theorem dX11_mile_32 : decode cX11_mile 32 = .ok (.goto 4, 3) := dX11_mile_32_a.1
theorem dX11_mile_35 : decode cX11_mile 35 = .ok (.iconst (-1), 1) := dX11_mile_32_a.2.1
theorem dX11_mile_36 : decode cX11_mile 36 = .ok (.ireturn, 1) := dX11_mile_32_a.2.2
theorem dX11_passenger_0_a : (decode cX11_passenger 0 = .ok (.aload_n 0, 1)) ∧ (decode cX11_passenger 1 = .ok (.getfield 19, 3)) ∧ (decode cX11_passenger 4 = .ok (.iload_n 1, 1)) ∧ (decode cX11_passenger 5 = .ok (.invokevirtual 115, 3)) ∧ (decode cX11_passenger 8 = .ok (.ifCond .eq 12, 3)) ∧ (decode cX11_passenger 11 = .ok (.iload_n 2, 1)) ∧ (decode cX11_passenger 12 = .ok (.ifCond .lt 8, 3)) ∧ (decode cX11_passenger 15 = .ok (.iload_n 2, 1)) ∧ (decode cX11_passenger 16 = .ok (.iconst 3, 1)) ∧ (decode cX11_passenger 17 = .ok (.if_icmp .le 6, 3)) ∧ (decode cX11_passenger 20 = .ok (.bipush (-2), 2)) ∧ (decode cX11_passenger 22 = .ok (.ireturn, 1)) ∧ (decode cX11_passenger 23 = .ok (.aload_n 0, 1)) ∧ (decode cX11_passenger 24 = .ok (.getfield 19, 3)) ∧ (decode cX11_passenger 27 = .ok (.iload_n 1, 1)) ∧ (decode cX11_passenger 28 = .ok (.iload_n 2, 1)) := by decide +kernel
theorem dX11_passenger_0 : decode cX11_passenger 0 = .ok (.aload_n 0, 1) := dX11_passenger_0_a.1
theorem dX11_passenger_1 : decode cX11_passenger 1 = .ok (.getfield 19, 3) := dX11_passenger_0_a.2.1
theorem dX11_passenger_4 : decode cX11_passenger 4 = .ok (.iload_n 1, 1) := dX11_passenger_0_a.2.2.1
theorem dX11_passenger_5 : decode cX11_passenger 5 = .ok (.invokevirtual 115, 3) := dX11_passenger_0_a.2.2.2.1
theorem dX11_passenger_8 : decode cX11_passenger 8 = .ok (.ifCond .eq 12, 3) := dX11_passenger_0_a.2.2.2.2.1
theorem dX11_passenger_11 : decode cX11_passenger 11 = .ok (.iload_n 2, 1) := dX11_passenger_0_a.2.2.2.2.2.1
theorem dX11_passenger_12 : decode cX11_passenger 12 = .ok (.ifCond .lt 8, 3) := dX11_passenger_0_a.2.2.2.2.2.2.1
theorem dX11_passenger_15 : decode cX11_passenger 15 = .ok (.iload_n 2, 1) := dX11_passenger_0_a.2.2.2.2.2.2.2.1
theorem dX11_passenger_16 : decode cX11_passenger 16 = .ok (.iconst 3, 1) := dX11_passenger_0_a.2.2.2.2.2.2.2.2.1
theorem dX11_passenger_17 : decode cX11_passenger 17 = .ok (.if_icmp .le 6, 3) := dX11_passenger_0_a.2.2.2.2.2.2.2.2.2.1
theorem dX11_passenger_20 : decode cX11_passenger 20 = .ok (.bipush (-2), 2) := dX11_passenger_0_a.2.2.2.2.2.2.2.2.2.2.1
theorem dX11_passenger_22 : decode cX11_passenger 22 = .ok (.ireturn, 1) := dX11_passenger_0_a.2.2.2.2.2.2.2.2.2.2.2.1
theorem dX11_passenger_23 : decode cX11_passenger 23 = .ok (.aload_n 0, 1) := dX11_passenger_0_a.2.2.2.2.2.2.2.2.2.2.2.2.1
theorem dX11_passenger_24 : decode cX11_passenger 24 = .ok (.getfield 19, 3) := dX11_passenger_0_a.2.2.2.2.2.2.2.2.2.2.2.2.2.1
theorem dX11_passenger_27 : decode cX11_passenger 27 = .ok (.iload_n 1, 1) := dX11_passenger_0_a.2.2.2.2.2.2.2.2.2.2.2.2.2.2.1
theorem dX11_passenger_28 : decode cX11_passenger 28 = .ok (.iload_n 2, 1) := dX11_passenger_0_a.2.2.2.2.2.2.2.2.2.2.2.2.2.2.2
theorem dX11_passenger_29_a : (decode cX11_passenger 29 = .ok (.invokevirtual 119, 3)) ∧ (decode cX11_passenger 32 = .ok (.ireturn, 1)) := by decide +kernel
theorem dX11_passenger_29 : decode cX11_passenger 29 = .ok (.invokevirtual 119, 3) := dX11_passenger_29_a.1
theorem dX11_passenger_32 : decode cX11_passenger 32 = .ok (.ireturn, 1) := dX11_passenger_29_a.2
theorem dX11_goose_0_a : (decode cX11_goose 0 = .ok (.aload_n 0, 1)) ∧ (decode cX11_goose 1 = .ok (.getfield 26, 3)) ∧ (decode cX11_goose 4 = .ok (.iload_n 1, 1)) ∧ (decode cX11_goose 5 = .ok (.invokevirtual 123, 3)) ∧ (decode cX11_goose 8 = .ok (.ifCond .eq 12, 3)) ∧ (decode cX11_goose 11 = .ok (.iload_n 2, 1)) ∧ (decode cX11_goose 12 = .ok (.ifCond .lt 8, 3)) ∧ (decode cX11_goose 15 = .ok (.iload_n 2, 1)) ∧ (decode cX11_goose 16 = .ok (.iconst 1, 1)) ∧ (decode cX11_goose 17 = .ok (.if_icmp .le 6, 3)) ∧ (decode cX11_goose 20 = .ok (.bipush (-2), 2)) ∧ (decode cX11_goose 22 = .ok (.ireturn, 1)) ∧ (decode cX11_goose 23 = .ok (.aload_n 0, 1)) ∧ (decode cX11_goose 24 = .ok (.getfield 26, 3)) ∧ (decode cX11_goose 27 = .ok (.iload_n 1, 1)) ∧ (decode cX11_goose 28 = .ok (.iload_n 2, 1)) := by decide +kernel
theorem dX11_goose_0 : decode cX11_goose 0 = .ok (.aload_n 0, 1) := dX11_goose_0_a.1
theorem dX11_goose_1 : decode cX11_goose 1 = .ok (.getfield 26, 3) := dX11_goose_0_a.2.1
theorem dX11_goose_4 : decode cX11_goose 4 = .ok (.iload_n 1, 1) := dX11_goose_0_a.2.2.1
theorem dX11_goose_5 : decode cX11_goose 5 = .ok (.invokevirtual 123, 3) := dX11_goose_0_a.2.2.2.1
theorem dX11_goose_8 : decode cX11_goose 8 = .ok (.ifCond .eq 12, 3) := dX11_goose_0_a.2.2.2.2.1
theorem dX11_goose_11 : decode cX11_goose 11 = .ok (.iload_n 2, 1) := dX11_goose_0_a.2.2.2.2.2.1
theorem dX11_goose_12 : decode cX11_goose 12 = .ok (.ifCond .lt 8, 3) := dX11_goose_0_a.2.2.2.2.2.2.1
theorem dX11_goose_15 : decode cX11_goose 15 = .ok (.iload_n 2, 1) := dX11_goose_0_a.2.2.2.2.2.2.2.1
theorem dX11_goose_16 : decode cX11_goose 16 = .ok (.iconst 1, 1) := dX11_goose_0_a.2.2.2.2.2.2.2.2.1
theorem dX11_goose_17 : decode cX11_goose 17 = .ok (.if_icmp .le 6, 3) := dX11_goose_0_a.2.2.2.2.2.2.2.2.2.1
theorem dX11_goose_20 : decode cX11_goose 20 = .ok (.bipush (-2), 2) := dX11_goose_0_a.2.2.2.2.2.2.2.2.2.2.1
theorem dX11_goose_22 : decode cX11_goose 22 = .ok (.ireturn, 1) := dX11_goose_0_a.2.2.2.2.2.2.2.2.2.2.2.1
theorem dX11_goose_23 : decode cX11_goose 23 = .ok (.aload_n 0, 1) := dX11_goose_0_a.2.2.2.2.2.2.2.2.2.2.2.2.1
theorem dX11_goose_24 : decode cX11_goose 24 = .ok (.getfield 26, 3) := dX11_goose_0_a.2.2.2.2.2.2.2.2.2.2.2.2.2.1
theorem dX11_goose_27 : decode cX11_goose 27 = .ok (.iload_n 1, 1) := dX11_goose_0_a.2.2.2.2.2.2.2.2.2.2.2.2.2.2.1
theorem dX11_goose_28 : decode cX11_goose 28 = .ok (.iload_n 2, 1) := dX11_goose_0_a.2.2.2.2.2.2.2.2.2.2.2.2.2.2.2
theorem dX11_goose_29_a : (decode cX11_goose 29 = .ok (.invokevirtual 124, 3)) ∧ (decode cX11_goose 32 = .ok (.ireturn, 1)) := by decide +kernel
theorem dX11_goose_29 : decode cX11_goose 29 = .ok (.invokevirtual 124, 3) := dX11_goose_29_a.1
theorem dX11_goose_32 : decode cX11_goose 32 = .ok (.ireturn, 1) := dX11_goose_29_a.2
theorem dX11_flight_0_a : (decode cX11_flight 0 = .ok (.aload_n 0, 1)) ∧ (decode cX11_flight 1 = .ok (.getfield 33, 3)) ∧ (decode cX11_flight 4 = .ok (.iload_n 1, 1)) ∧ (decode cX11_flight 5 = .ok (.iload_n 2, 1)) ∧ (decode cX11_flight 6 = .ok (.iload_n 3, 1)) ∧ (decode cX11_flight 7 = .ok (.iload 4, 2)) ∧ (decode cX11_flight 9 = .ok (.invokevirtual 125, 3)) ∧ (decode cX11_flight 12 = .ok (.ireturn, 1)) := by decide +kernel
theorem dX11_flight_0 : decode cX11_flight 0 = .ok (.aload_n 0, 1) := dX11_flight_0_a.1
theorem dX11_flight_1 : decode cX11_flight 1 = .ok (.getfield 33, 3) := dX11_flight_0_a.2.1
theorem dX11_flight_4 : decode cX11_flight 4 = .ok (.iload_n 1, 1) := dX11_flight_0_a.2.2.1
theorem dX11_flight_5 : decode cX11_flight 5 = .ok (.iload_n 2, 1) := dX11_flight_0_a.2.2.2.1
theorem dX11_flight_6 : decode cX11_flight 6 = .ok (.iload_n 3, 1) := dX11_flight_0_a.2.2.2.2.1
theorem dX11_flight_7 : decode cX11_flight 7 = .ok (.iload 4, 2) := dX11_flight_0_a.2.2.2.2.2.1
theorem dX11_flight_9 : decode cX11_flight 9 = .ok (.invokevirtual 125, 3) := dX11_flight_0_a.2.2.2.2.2.2.1
theorem dX11_flight_12 : decode cX11_flight 12 = .ok (.ireturn, 1) := dX11_flight_0_a.2.2.2.2.2.2.2
theorem dX11_back_0_a : (decode cX11_back 0 = .ok (.aload_n 0, 1)) ∧ (decode cX11_back 1 = .ok (.getfield 33, 3)) ∧ (decode cX11_back 4 = .ok (.getfield 128, 3)) ∧ (decode cX11_back 7 = .ok (.ifCond .ne 6, 3)) ∧ (decode cX11_back 10 = .ok (.bipush (-3), 2)) ∧ (decode cX11_back 12 = .ok (.ireturn, 1)) ∧ (decode cX11_back 13 = .ok (.aload_n 0, 1)) ∧ (decode cX11_back 14 = .ok (.getfield 33, 3)) ∧ (decode cX11_back 17 = .ok (.dup, 1)) ∧ (decode cX11_back 18 = .ok (.getfield 128, 3)) ∧ (decode cX11_back 21 = .ok (.iconst 1, 1)) ∧ (decode cX11_back 22 = .ok (.isub, 1)) ∧ (decode cX11_back 23 = .ok (.putfield 128, 3)) ∧ (decode cX11_back 26 = .ok (.aload_n 0, 1)) ∧ (decode cX11_back 27 = .ok (.getfield 33, 3)) ∧ (decode cX11_back 30 = .ok (.getfield 128, 3)) := by decide +kernel
theorem dX11_back_0 : decode cX11_back 0 = .ok (.aload_n 0, 1) := dX11_back_0_a.1
theorem dX11_back_1 : decode cX11_back 1 = .ok (.getfield 33, 3) := dX11_back_0_a.2.1
theorem dX11_back_4 : decode cX11_back 4 = .ok (.getfield 128, 3) := dX11_back_0_a.2.2.1
theorem dX11_back_7 : decode cX11_back 7 = .ok (.ifCond .ne 6, 3) := dX11_back_0_a.2.2.2.1
theorem dX11_back_10 : decode cX11_back 10 = .ok (.bipush (-3), 2) := dX11_back_0_a.2.2.2.2.1
theorem dX11_back_12 : decode cX11_back 12 = .ok (.ireturn, 1) := dX11_back_0_a.2.2.2.2.2.1
theorem dX11_back_13 : decode cX11_back 13 = .ok (.aload_n 0, 1) := dX11_back_0_a.2.2.2.2.2.2.1
theorem dX11_back_14 : decode cX11_back 14 = .ok (.getfield 33, 3) := dX11_back_0_a.2.2.2.2.2.2.2.1
theorem dX11_back_17 : decode cX11_back 17 = .ok (.dup, 1) := dX11_back_0_a.2.2.2.2.2.2.2.2.1
theorem dX11_back_18 : decode cX11_back 18 = .ok (.getfield 128, 3) := dX11_back_0_a.2.2.2.2.2.2.2.2.2.1
theorem dX11_back_21 : decode cX11_back 21 = .ok (.iconst 1, 1) := dX11_back_0_a.2.2.2.2.2.2.2.2.2.2.1
theorem dX11_back_22 : decode cX11_back 22 = .ok (.isub, 1) := dX11_back_0_a.2.2.2.2.2.2.2.2.2.2.2.1
theorem dX11_back_23 : decode cX11_back 23 = .ok (.putfield 128, 3) := dX11_back_0_a.2.2.2.2.2.2.2.2.2.2.2.2.1
theorem dX11_back_26 : decode cX11_back 26 = .ok (.aload_n 0, 1) := dX11_back_0_a.2.2.2.2.2.2.2.2.2.2.2.2.2.1
theorem dX11_back_27 : decode cX11_back 27 = .ok (.getfield 33, 3) := dX11_back_0_a.2.2.2.2.2.2.2.2.2.2.2.2.2.2.1
theorem dX11_back_30 : decode cX11_back 30 = .ok (.getfield 128, 3) := dX11_back_0_a.2.2.2.2.2.2.2.2.2.2.2.2.2.2.2
theorem dX11_back_33 : decode cX11_back 33 = .ok (.ireturn, 1) := by decide +kernel
theorem dX11_read_0_a : (decode cX11_read 0 = .ok (.aload_n 0, 1)) ∧ (decode cX11_read 1 = .ok (.iload_n 1, 1)) ∧ (decode cX11_read 2 = .ok (.invokevirtual 129, 3)) ∧ (decode cX11_read 5 = .ok (.astore_n 2, 1)) ∧ (decode cX11_read 6 = .ok (.aload_n 2, 1)) ∧ (decode cX11_read 7 = .ok (.ifnonnull 6, 3)) ∧ (decode cX11_read 10 = .ok (.bipush (-2), 2)) ∧ (decode cX11_read 12 = .ok (.ireturn, 1)) ∧ (decode cX11_read 13 = .ok (.aload_n 2, 1)) ∧ (decode cX11_read 14 = .ok (.getfield 133, 3)) ∧ (decode cX11_read 17 = .ok (.ifCond .eq 9, 3)) ∧ (decode cX11_read 20 = .ok (.aload_n 0, 1)) ∧ (decode cX11_read 21 = .ok (.iconst 1, 1)) ∧ (decode cX11_read 22 = .ok (.invokevirtual 137, 3)) ∧ (decode cX11_read 25 = .ok (.ireturn, 1)) ∧ (decode cX11_read 26 = .ok (.iconst 0, 1)) := by decide +kernel
theorem dX11_read_0 : decode cX11_read 0 = .ok (.aload_n 0, 1) := dX11_read_0_a.1
theorem dX11_read_1 : decode cX11_read 1 = .ok (.iload_n 1, 1) := dX11_read_0_a.2.1
theorem dX11_read_2 : decode cX11_read 2 = .ok (.invokevirtual 129, 3) := dX11_read_0_a.2.2.1
theorem dX11_read_5 : decode cX11_read 5 = .ok (.astore_n 2, 1) := dX11_read_0_a.2.2.2.1
theorem dX11_read_6 : decode cX11_read 6 = .ok (.aload_n 2, 1) := dX11_read_0_a.2.2.2.2.1
theorem dX11_read_7 : decode cX11_read 7 = .ok (.ifnonnull 6, 3) := dX11_read_0_a.2.2.2.2.2.1
theorem dX11_read_10 : decode cX11_read 10 = .ok (.bipush (-2), 2) := dX11_read_0_a.2.2.2.2.2.2.1
theorem dX11_read_12 : decode cX11_read 12 = .ok (.ireturn, 1) := dX11_read_0_a.2.2.2.2.2.2.2.1
theorem dX11_read_13 : decode cX11_read 13 = .ok (.aload_n 2, 1) := dX11_read_0_a.2.2.2.2.2.2.2.2.1
theorem dX11_read_14 : decode cX11_read 14 = .ok (.getfield 133, 3) := dX11_read_0_a.2.2.2.2.2.2.2.2.2.1
theorem dX11_read_17 : decode cX11_read 17 = .ok (.ifCond .eq 9, 3) := dX11_read_0_a.2.2.2.2.2.2.2.2.2.2.1
theorem dX11_read_20 : decode cX11_read 20 = .ok (.aload_n 0, 1) := dX11_read_0_a.2.2.2.2.2.2.2.2.2.2.2.1
theorem dX11_read_21 : decode cX11_read 21 = .ok (.iconst 1, 1) := dX11_read_0_a.2.2.2.2.2.2.2.2.2.2.2.2.1
theorem dX11_read_22 : decode cX11_read 22 = .ok (.invokevirtual 137, 3) := dX11_read_0_a.2.2.2.2.2.2.2.2.2.2.2.2.2.1
theorem dX11_read_25 : decode cX11_read 25 = .ok (.ireturn, 1) := dX11_read_0_a.2.2.2.2.2.2.2.2.2.2.2.2.2.2.1
theorem dX11_read_26 : decode cX11_read 26 = .ok (.iconst 0, 1) := dX11_read_0_a.2.2.2.2.2.2.2.2.2.2.2.2.2.2.2
theorem dX11_read_27_a : (decode cX11_read 27 = .ok (.istore_n 3, 1)) ∧ (decode cX11_read 28 = .ok (.iconst 0, 1)) ∧ (decode cX11_read 29 = .ok (.istore 4, 2)) ∧ (decode cX11_read 31 = .ok (.iload 4, 2)) ∧ (decode cX11_read 33 = .ok (.iconst 3, 1)) ∧ (decode cX11_read 34 = .ok (.iadd, 1)) ∧ (decode cX11_read 35 = .ok (.aload_n 2, 1)) ∧ (decode cX11_read 36 = .ok (.getfield 140, 3)) ∧ (decode cX11_read 39 = .ok (.if_icmp .ge 58, 3)) ∧ (decode cX11_read 42 = .ok (.aload_n 0, 1)) ∧ (decode cX11_read 43 = .ok (.getfield 33, 3)) ∧ (decode cX11_read 46 = .ok (.aload_n 2, 1)) ∧ (decode cX11_read 47 = .ok (.iload 4, 2)) ∧ (decode cX11_read 49 = .ok (.invokevirtual 143, 3)) ∧ (decode cX11_read 52 = .ok (.aload_n 2, 1)) ∧ (decode cX11_read 53 = .ok (.iload 4, 2)) := by decide +kernel
theorem dX11_read_27 : decode cX11_read 27 = .ok (.istore_n 3, 1) := dX11_read_27_a.1
theorem dX11_read_28 : decode cX11_read 28 = .ok (.iconst 0, 1) := dX11_read_27_a.2.1
theorem dX11_read_29 : decode cX11_read 29 = .ok (.istore 4, 2) := dX11_read_27_a.2.2.1
theorem dX11_read_31 : decode cX11_read 31 = .ok (.iload 4, 2) := dX11_read_27_a.2.2.2.1
theorem dX11_read_33 : decode cX11_read 33 = .ok (.iconst 3, 1) := dX11_read_27_a.2.2.2.2.1
theorem dX11_read_34 : decode cX11_read 34 = .ok (.iadd, 1) := dX11_read_27_a.2.2.2.2.2.1
theorem dX11_read_35 : decode cX11_read 35 = .ok (.aload_n 2, 1) := dX11_read_27_a.2.2.2.2.2.2.1
theorem dX11_read_36 : decode cX11_read 36 = .ok (.getfield 140, 3) := dX11_read_27_a.2.2.2.2.2.2.2.1
theorem dX11_read_39 : decode cX11_read 39 = .ok (.if_icmp .ge 58, 3) := dX11_read_27_a.2.2.2.2.2.2.2.2.1
theorem dX11_read_42 : decode cX11_read 42 = .ok (.aload_n 0, 1) := dX11_read_27_a.2.2.2.2.2.2.2.2.2.1
theorem dX11_read_43 : decode cX11_read 43 = .ok (.getfield 33, 3) := dX11_read_27_a.2.2.2.2.2.2.2.2.2.2.1
theorem dX11_read_46 : decode cX11_read 46 = .ok (.aload_n 2, 1) := dX11_read_27_a.2.2.2.2.2.2.2.2.2.2.2.1
theorem dX11_read_47 : decode cX11_read 47 = .ok (.iload 4, 2) := dX11_read_27_a.2.2.2.2.2.2.2.2.2.2.2.2.1
theorem dX11_read_49 : decode cX11_read 49 = .ok (.invokevirtual 143, 3) := dX11_read_27_a.2.2.2.2.2.2.2.2.2.2.2.2.2.1
theorem dX11_read_52 : decode cX11_read 52 = .ok (.aload_n 2, 1) := dX11_read_27_a.2.2.2.2.2.2.2.2.2.2.2.2.2.2.1
theorem dX11_read_53 : decode cX11_read 53 = .ok (.iload 4, 2) := dX11_read_27_a.2.2.2.2.2.2.2.2.2.2.2.2.2.2.2
theorem dX11_read_55_a : (decode cX11_read 55 = .ok (.iconst 1, 1)) ∧ (decode cX11_read 56 = .ok (.iadd, 1)) ∧ (decode cX11_read 57 = .ok (.invokevirtual 143, 3)) ∧ (decode cX11_read 60 = .ok (.aload_n 2, 1)) ∧ (decode cX11_read 61 = .ok (.iload 4, 2)) ∧ (decode cX11_read 63 = .ok (.iconst 2, 1)) ∧ (decode cX11_read 64 = .ok (.iadd, 1)) ∧ (decode cX11_read 65 = .ok (.invokevirtual 143, 3)) ∧ (decode cX11_read 68 = .ok (.aload_n 2, 1)) ∧ (decode cX11_read 69 = .ok (.iload 4, 2)) ∧ (decode cX11_read 71 = .ok (.iconst 3, 1)) ∧ (decode cX11_read 72 = .ok (.iadd, 1)) ∧ (decode cX11_read 73 = .ok (.invokevirtual 143, 3)) ∧ (decode cX11_read 76 = .ok (.invokevirtual 125, 3)) ∧ (decode cX11_read 79 = .ok (.istore 5, 2)) ∧ (decode cX11_read 81 = .ok (.iload 5, 2)) := by decide +kernel
theorem dX11_read_55 : decode cX11_read 55 = .ok (.iconst 1, 1) := dX11_read_55_a.1
theorem dX11_read_56 : decode cX11_read 56 = .ok (.iadd, 1) := dX11_read_55_a.2.1
theorem dX11_read_57 : decode cX11_read 57 = .ok (.invokevirtual 143, 3) := dX11_read_55_a.2.2.1
theorem dX11_read_60 : decode cX11_read 60 = .ok (.aload_n 2, 1) := dX11_read_55_a.2.2.2.1
theorem dX11_read_61 : decode cX11_read 61 = .ok (.iload 4, 2) := dX11_read_55_a.2.2.2.2.1
theorem dX11_read_63 : decode cX11_read 63 = .ok (.iconst 2, 1) := dX11_read_55_a.2.2.2.2.2.1
theorem dX11_read_64 : decode cX11_read 64 = .ok (.iadd, 1) := dX11_read_55_a.2.2.2.2.2.2.1
theorem dX11_read_65 : decode cX11_read 65 = .ok (.invokevirtual 143, 3) := dX11_read_55_a.2.2.2.2.2.2.2.1
theorem dX11_read_68 : decode cX11_read 68 = .ok (.aload_n 2, 1) := dX11_read_55_a.2.2.2.2.2.2.2.2.1
theorem dX11_read_69 : decode cX11_read 69 = .ok (.iload 4, 2) := dX11_read_55_a.2.2.2.2.2.2.2.2.2.1
theorem dX11_read_71 : decode cX11_read 71 = .ok (.iconst 3, 1) := dX11_read_55_a.2.2.2.2.2.2.2.2.2.2.1
theorem dX11_read_72 : decode cX11_read 72 = .ok (.iadd, 1) := dX11_read_55_a.2.2.2.2.2.2.2.2.2.2.2.1
theorem dX11_read_73 : decode cX11_read 73 = .ok (.invokevirtual 143, 3) := dX11_read_55_a.2.2.2.2.2.2.2.2.2.2.2.2.1
theorem dX11_read_76 : decode cX11_read 76 = .ok (.invokevirtual 125, 3) := dX11_read_55_a.2.2.2.2.2.2.2.2.2.2.2.2.2.1
theorem dX11_read_79 : decode cX11_read 79 = .ok (.istore 5, 2) := dX11_read_55_a.2.2.2.2.2.2.2.2.2.2.2.2.2.2.1
theorem dX11_read_81 : decode cX11_read 81 = .ok (.iload 5, 2) := dX11_read_55_a.2.2.2.2.2.2.2.2.2.2.2.2.2.2.2
theorem dX11_read_83_a : (decode cX11_read 83 = .ok (.ifCond .ge 5, 3)) ∧ (decode cX11_read 86 = .ok (.iload_n 3, 1)) ∧ (decode cX11_read 87 = .ok (.ireturn, 1)) ∧ (decode cX11_read 88 = .ok (.iinc 3 1, 3)) ∧ (decode cX11_read 91 = .ok (.iinc 4 4, 3)) ∧ (decode cX11_read 94 = .ok (.goto (-63), 3)) ∧ (decode cX11_read 97 = .ok (.iload_n 3, 1)) ∧ (decode cX11_read 98 = .ok (.ireturn, 1)) := by decide +kernel
theorem dX11_read_83 : decode cX11_read 83 = .ok (.ifCond .ge 5, 3) := dX11_read_83_a.1
theorem dX11_read_86 : decode cX11_read 86 = .ok (.iload_n 3, 1) := dX11_read_83_a.2.1
theorem dX11_read_87 : decode cX11_read 87 = .ok (.ireturn, 1) := dX11_read_83_a.2.2.1
theorem dX11_read_88 : decode cX11_read 88 = .ok (.iinc 3 1, 3) := dX11_read_83_a.2.2.2.1
theorem dX11_read_91 : decode cX11_read 91 = .ok (.iinc 4 4, 3) := dX11_read_83_a.2.2.2.2.1
theorem dX11_read_94 : decode cX11_read 94 = .ok (.goto (-63), 3) := dX11_read_83_a.2.2.2.2.2.1
theorem dX11_read_97 : decode cX11_read 97 = .ok (.iload_n 3, 1) := dX11_read_83_a.2.2.2.2.2.2.1
theorem dX11_read_98 : decode cX11_read 98 = .ok (.ireturn, 1) := dX11_read_83_a.2.2.2.2.2.2.2
theorem dX11_learn_0_a : (decode cX11_learn 0 = .ok (.iload_n 1, 1)) ∧ (decode cX11_learn 1 = .ok (.ifCond .lt 9, 3)) ∧ (decode cX11_learn 4 = .ok (.iload_n 1, 1)) ∧ (decode cX11_learn 5 = .ok (.bipush 64, 2)) ∧ (decode cX11_learn 7 = .ok (.if_icmp .lt 6, 3)) ∧ (decode cX11_learn 10 = .ok (.bipush (-2), 2)) ∧ (decode cX11_learn 12 = .ok (.ireturn, 1)) ∧ (decode cX11_learn 13 = .ok (.aload_n 0, 1)) ∧ (decode cX11_learn 14 = .ok (.getfield 146, 3)) ∧ (decode cX11_learn 17 = .ok (.istore_n 2, 1)) ∧ (decode cX11_learn 18 = .ok (.aload_n 0, 1)) ∧ (decode cX11_learn 19 = .ok (.iload_n 1, 1)) ∧ (decode cX11_learn 20 = .ok (.putfield 146, 3)) ∧ (decode cX11_learn 23 = .ok (.iload_n 2, 1)) ∧ (decode cX11_learn 24 = .ok (.ireturn, 1)) := by decide +kernel
theorem dX11_learn_0 : decode cX11_learn 0 = .ok (.iload_n 1, 1) := dX11_learn_0_a.1
theorem dX11_learn_1 : decode cX11_learn 1 = .ok (.ifCond .lt 9, 3) := dX11_learn_0_a.2.1
theorem dX11_learn_4 : decode cX11_learn 4 = .ok (.iload_n 1, 1) := dX11_learn_0_a.2.2.1
theorem dX11_learn_5 : decode cX11_learn 5 = .ok (.bipush 64, 2) := dX11_learn_0_a.2.2.2.1
theorem dX11_learn_7 : decode cX11_learn 7 = .ok (.if_icmp .lt 6, 3) := dX11_learn_0_a.2.2.2.2.1
theorem dX11_learn_10 : decode cX11_learn 10 = .ok (.bipush (-2), 2) := dX11_learn_0_a.2.2.2.2.2.1
theorem dX11_learn_12 : decode cX11_learn 12 = .ok (.ireturn, 1) := dX11_learn_0_a.2.2.2.2.2.2.1
theorem dX11_learn_13 : decode cX11_learn 13 = .ok (.aload_n 0, 1) := dX11_learn_0_a.2.2.2.2.2.2.2.1
theorem dX11_learn_14 : decode cX11_learn 14 = .ok (.getfield 146, 3) := dX11_learn_0_a.2.2.2.2.2.2.2.2.1
theorem dX11_learn_17 : decode cX11_learn 17 = .ok (.istore_n 2, 1) := dX11_learn_0_a.2.2.2.2.2.2.2.2.2.1
theorem dX11_learn_18 : decode cX11_learn 18 = .ok (.aload_n 0, 1) := dX11_learn_0_a.2.2.2.2.2.2.2.2.2.2.1
theorem dX11_learn_19 : decode cX11_learn 19 = .ok (.iload_n 1, 1) := dX11_learn_0_a.2.2.2.2.2.2.2.2.2.2.2.1
theorem dX11_learn_20 : decode cX11_learn 20 = .ok (.putfield 146, 3) := dX11_learn_0_a.2.2.2.2.2.2.2.2.2.2.2.2.1
theorem dX11_learn_23 : decode cX11_learn 23 = .ok (.iload_n 2, 1) := dX11_learn_0_a.2.2.2.2.2.2.2.2.2.2.2.2.2.1
theorem dX11_learn_24 : decode cX11_learn 24 = .ok (.ireturn, 1) := dX11_learn_0_a.2.2.2.2.2.2.2.2.2.2.2.2.2.2
theorem dX11_comes_0_a : (decode cX11_comes 0 = .ok (.aload_n 0, 1)) ∧ (decode cX11_comes 1 = .ok (.getfield 33, 3)) ∧ (decode cX11_comes 4 = .ok (.iload_n 1, 1)) ∧ (decode cX11_comes 5 = .ok (.invokevirtual 149, 3)) ∧ (decode cX11_comes 8 = .ok (.ifCond .eq 12, 3)) ∧ (decode cX11_comes 11 = .ok (.iload_n 2, 1)) ∧ (decode cX11_comes 12 = .ok (.ifCond .lt 8, 3)) ∧ (decode cX11_comes 15 = .ok (.iload_n 2, 1)) ∧ (decode cX11_comes 16 = .ok (.iconst 2, 1)) ∧ (decode cX11_comes 17 = .ok (.if_icmp .le 6, 3)) ∧ (decode cX11_comes 20 = .ok (.bipush (-2), 2)) ∧ (decode cX11_comes 22 = .ok (.ireturn, 1)) ∧ (decode cX11_comes 23 = .ok (.aload_n 0, 1)) ∧ (decode cX11_comes 24 = .ok (.iload_n 1, 1)) ∧ (decode cX11_comes 25 = .ok (.invokevirtual 150, 3)) ∧ (decode cX11_comes 28 = .ok (.aload_n 0, 1)) := by decide +kernel
theorem dX11_comes_0 : decode cX11_comes 0 = .ok (.aload_n 0, 1) := dX11_comes_0_a.1
theorem dX11_comes_1 : decode cX11_comes 1 = .ok (.getfield 33, 3) := dX11_comes_0_a.2.1
theorem dX11_comes_4 : decode cX11_comes 4 = .ok (.iload_n 1, 1) := dX11_comes_0_a.2.2.1
theorem dX11_comes_5 : decode cX11_comes 5 = .ok (.invokevirtual 149, 3) := dX11_comes_0_a.2.2.2.1
theorem dX11_comes_8 : decode cX11_comes 8 = .ok (.ifCond .eq 12, 3) := dX11_comes_0_a.2.2.2.2.1
theorem dX11_comes_11 : decode cX11_comes 11 = .ok (.iload_n 2, 1) := dX11_comes_0_a.2.2.2.2.2.1
theorem dX11_comes_12 : decode cX11_comes 12 = .ok (.ifCond .lt 8, 3) := dX11_comes_0_a.2.2.2.2.2.2.1
theorem dX11_comes_15 : decode cX11_comes 15 = .ok (.iload_n 2, 1) := dX11_comes_0_a.2.2.2.2.2.2.2.1
theorem dX11_comes_16 : decode cX11_comes 16 = .ok (.iconst 2, 1) := dX11_comes_0_a.2.2.2.2.2.2.2.2.1
theorem dX11_comes_17 : decode cX11_comes 17 = .ok (.if_icmp .le 6, 3) := dX11_comes_0_a.2.2.2.2.2.2.2.2.2.1
theorem dX11_comes_20 : decode cX11_comes 20 = .ok (.bipush (-2), 2) := dX11_comes_0_a.2.2.2.2.2.2.2.2.2.2.1
theorem dX11_comes_22 : decode cX11_comes 22 = .ok (.ireturn, 1) := dX11_comes_0_a.2.2.2.2.2.2.2.2.2.2.2.1
theorem dX11_comes_23 : decode cX11_comes 23 = .ok (.aload_n 0, 1) := dX11_comes_0_a.2.2.2.2.2.2.2.2.2.2.2.2.1
theorem dX11_comes_24 : decode cX11_comes 24 = .ok (.iload_n 1, 1) := dX11_comes_0_a.2.2.2.2.2.2.2.2.2.2.2.2.2.1
theorem dX11_comes_25 : decode cX11_comes 25 = .ok (.invokevirtual 150, 3) := dX11_comes_0_a.2.2.2.2.2.2.2.2.2.2.2.2.2.2.1
theorem dX11_comes_28 : decode cX11_comes 28 = .ok (.aload_n 0, 1) := dX11_comes_0_a.2.2.2.2.2.2.2.2.2.2.2.2.2.2.2
theorem dX11_comes_29_a : (decode cX11_comes 29 = .ok (.getfield 42, 3)) ∧ (decode cX11_comes 32 = .ok (.aload_n 0, 1)) ∧ (decode cX11_comes 33 = .ok (.getfield 33, 3)) ∧ (decode cX11_comes 36 = .ok (.iload_n 1, 1)) ∧ (decode cX11_comes 37 = .ok (.invokevirtual 153, 3)) ∧ (decode cX11_comes 40 = .ok (.invokevirtual 156, 3)) ∧ (decode cX11_comes 43 = .ok (.istore_n 3, 1)) ∧ (decode cX11_comes 44 = .ok (.iload_n 2, 1)) ∧ (decode cX11_comes 45 = .ok (.ifCond .ne 5, 3)) ∧ (decode cX11_comes 48 = .ok (.iload_n 3, 1)) ∧ (decode cX11_comes 49 = .ok (.ireturn, 1)) ∧ (decode cX11_comes 50 = .ok (.iload_n 2, 1)) ∧ (decode cX11_comes 51 = .ok (.iconst 1, 1)) ∧ (decode cX11_comes 52 = .ok (.if_icmp .ne 11, 3)) ∧ (decode cX11_comes 55 = .ok (.aload_n 0, 1)) ∧ (decode cX11_comes 56 = .ok (.getfield 42, 3)) := by decide +kernel
theorem dX11_comes_29 : decode cX11_comes 29 = .ok (.getfield 42, 3) := dX11_comes_29_a.1
theorem dX11_comes_32 : decode cX11_comes 32 = .ok (.aload_n 0, 1) := dX11_comes_29_a.2.1
theorem dX11_comes_33 : decode cX11_comes 33 = .ok (.getfield 33, 3) := dX11_comes_29_a.2.2.1
theorem dX11_comes_36 : decode cX11_comes 36 = .ok (.iload_n 1, 1) := dX11_comes_29_a.2.2.2.1
theorem dX11_comes_37 : decode cX11_comes 37 = .ok (.invokevirtual 153, 3) := dX11_comes_29_a.2.2.2.2.1
theorem dX11_comes_40 : decode cX11_comes 40 = .ok (.invokevirtual 156, 3) := dX11_comes_29_a.2.2.2.2.2.1
theorem dX11_comes_43 : decode cX11_comes 43 = .ok (.istore_n 3, 1) := dX11_comes_29_a.2.2.2.2.2.2.1
theorem dX11_comes_44 : decode cX11_comes 44 = .ok (.iload_n 2, 1) := dX11_comes_29_a.2.2.2.2.2.2.2.1
theorem dX11_comes_45 : decode cX11_comes 45 = .ok (.ifCond .ne 5, 3) := dX11_comes_29_a.2.2.2.2.2.2.2.2.1
theorem dX11_comes_48 : decode cX11_comes 48 = .ok (.iload_n 3, 1) := dX11_comes_29_a.2.2.2.2.2.2.2.2.2.1
theorem dX11_comes_49 : decode cX11_comes 49 = .ok (.ireturn, 1) := dX11_comes_29_a.2.2.2.2.2.2.2.2.2.2.1
theorem dX11_comes_50 : decode cX11_comes 50 = .ok (.iload_n 2, 1) := dX11_comes_29_a.2.2.2.2.2.2.2.2.2.2.2.1
theorem dX11_comes_51 : decode cX11_comes 51 = .ok (.iconst 1, 1) := dX11_comes_29_a.2.2.2.2.2.2.2.2.2.2.2.2.1
theorem dX11_comes_52 : decode cX11_comes 52 = .ok (.if_icmp .ne 11, 3) := dX11_comes_29_a.2.2.2.2.2.2.2.2.2.2.2.2.2.1
theorem dX11_comes_55 : decode cX11_comes 55 = .ok (.aload_n 0, 1) := dX11_comes_29_a.2.2.2.2.2.2.2.2.2.2.2.2.2.2.1
theorem dX11_comes_56 : decode cX11_comes 56 = .ok (.getfield 42, 3) := dX11_comes_29_a.2.2.2.2.2.2.2.2.2.2.2.2.2.2.2
theorem dX11_comes_59_a : (decode cX11_comes 59 = .ok (.getfield 159, 3)) ∧ (decode cX11_comes 62 = .ok (.ireturn, 1)) ∧ (decode cX11_comes 63 = .ok (.aload_n 0, 1)) ∧ (decode cX11_comes 64 = .ok (.getfield 42, 3)) ∧ (decode cX11_comes 67 = .ok (.getfield 159, 3)) ∧ (decode cX11_comes 70 = .ok (.ifCond .eq 18, 3)) ∧ (decode cX11_comes 73 = .ok (.aload_n 0, 1)) ∧ (decode cX11_comes 74 = .ok (.getfield 10, 3)) ∧ (decode cX11_comes 77 = .ok (.iload_n 3, 1)) ∧ (decode cX11_comes 78 = .ok (.invokevirtual 162, 3)) ∧ (decode cX11_comes 81 = .ok (.ifCond .eq 7, 3)) ∧ (decode cX11_comes 84 = .ok (.iconst 1, 1)) ∧ (decode cX11_comes 85 = .ok (.goto 4, 3)) ∧ (decode cX11_comes 88 = .ok (.iconst 0, 1)) ∧ (decode cX11_comes 89 = .ok (.istore 4, 2)) ∧ (decode cX11_comes 91 = .ok (.iload 4, 2)) := by decide +kernel
theorem dX11_comes_59 : decode cX11_comes 59 = .ok (.getfield 159, 3) := dX11_comes_59_a.1
theorem dX11_comes_62 : decode cX11_comes 62 = .ok (.ireturn, 1) := dX11_comes_59_a.2.1
theorem dX11_comes_63 : decode cX11_comes 63 = .ok (.aload_n 0, 1) := dX11_comes_59_a.2.2.1
theorem dX11_comes_64 : decode cX11_comes 64 = .ok (.getfield 42, 3) := dX11_comes_59_a.2.2.2.1
theorem dX11_comes_67 : decode cX11_comes 67 = .ok (.getfield 159, 3) := dX11_comes_59_a.2.2.2.2.1
theorem dX11_comes_70 : decode cX11_comes 70 = .ok (.ifCond .eq 18, 3) := dX11_comes_59_a.2.2.2.2.2.1
theorem dX11_comes_73 : decode cX11_comes 73 = .ok (.aload_n 0, 1) := dX11_comes_59_a.2.2.2.2.2.2.1
theorem dX11_comes_74 : decode cX11_comes 74 = .ok (.getfield 10, 3) := dX11_comes_59_a.2.2.2.2.2.2.2.1
theorem dX11_comes_77 : decode cX11_comes 77 = .ok (.iload_n 3, 1) := dX11_comes_59_a.2.2.2.2.2.2.2.2.1
theorem dX11_comes_78 : decode cX11_comes 78 = .ok (.invokevirtual 162, 3) := dX11_comes_59_a.2.2.2.2.2.2.2.2.2.1
theorem dX11_comes_81 : decode cX11_comes 81 = .ok (.ifCond .eq 7, 3) := dX11_comes_59_a.2.2.2.2.2.2.2.2.2.2.1
theorem dX11_comes_84 : decode cX11_comes 84 = .ok (.iconst 1, 1) := dX11_comes_59_a.2.2.2.2.2.2.2.2.2.2.2.1
theorem dX11_comes_85 : decode cX11_comes 85 = .ok (.goto 4, 3) := dX11_comes_59_a.2.2.2.2.2.2.2.2.2.2.2.2.1
theorem dX11_comes_88 : decode cX11_comes 88 = .ok (.iconst 0, 1) := dX11_comes_59_a.2.2.2.2.2.2.2.2.2.2.2.2.2.1
theorem dX11_comes_89 : decode cX11_comes 89 = .ok (.istore 4, 2) := dX11_comes_59_a.2.2.2.2.2.2.2.2.2.2.2.2.2.2.1
theorem dX11_comes_91 : decode cX11_comes 91 = .ok (.iload 4, 2) := dX11_comes_59_a.2.2.2.2.2.2.2.2.2.2.2.2.2.2.2
theorem dX11_comes_93_a : (decode cX11_comes 93 = .ok (.ifCond .eq 14, 3)) ∧ (decode cX11_comes 96 = .ok (.aload_n 0, 1)) ∧ (decode cX11_comes 97 = .ok (.getfield 10, 3)) ∧ (decode cX11_comes 100 = .ok (.iload_n 3, 1)) ∧ (decode cX11_comes 101 = .ok (.invokevirtual 111, 3)) ∧ (decode cX11_comes 104 = .ok (.goto 4, 3)) ∧ (decode cX11_comes 107 = .ok (.iconst (-1), 1)) ∧ (decode cX11_comes 108 = .ok (.ireturn, 1)) := by decide +kernel
theorem dX11_comes_93 : decode cX11_comes 93 = .ok (.ifCond .eq 14, 3) := dX11_comes_93_a.1
theorem dX11_comes_96 : decode cX11_comes 96 = .ok (.aload_n 0, 1) := dX11_comes_93_a.2.1
theorem dX11_comes_97 : decode cX11_comes 97 = .ok (.getfield 10, 3) := dX11_comes_93_a.2.2.1
theorem dX11_comes_100 : decode cX11_comes 100 = .ok (.iload_n 3, 1) := dX11_comes_93_a.2.2.2.1
theorem dX11_comes_101 : decode cX11_comes 101 = .ok (.invokevirtual 111, 3) := dX11_comes_93_a.2.2.2.2.1
theorem dX11_comes_104 : decode cX11_comes 104 = .ok (.goto 4, 3) := dX11_comes_93_a.2.2.2.2.2.1
theorem dX11_comes_107 : decode cX11_comes 107 = .ok (.iconst (-1), 1) := dX11_comes_93_a.2.2.2.2.2.2.1
theorem dX11_comes_108 : decode cX11_comes 108 = .ok (.ireturn, 1) := dX11_comes_93_a.2.2.2.2.2.2.2
theorem dX11_behind_0_a : (decode cX11_behind 0 = .ok (.aload_n 0, 1)) ∧ (decode cX11_behind 1 = .ok (.getfield 33, 3)) ∧ (decode cX11_behind 4 = .ok (.iload_n 1, 1)) ∧ (decode cX11_behind 5 = .ok (.invokevirtual 149, 3)) ∧ (decode cX11_behind 8 = .ok (.ifCond .eq 23, 3)) ∧ (decode cX11_behind 11 = .ok (.aload_n 0, 1)) ∧ (decode cX11_behind 12 = .ok (.getfield 10, 3)) ∧ (decode cX11_behind 15 = .ok (.iload_n 2, 1)) ∧ (decode cX11_behind 16 = .ok (.invokevirtual 165, 3)) ∧ (decode cX11_behind 19 = .ok (.ifCond .eq 12, 3)) ∧ (decode cX11_behind 22 = .ok (.iload_n 3, 1)) ∧ (decode cX11_behind 23 = .ok (.ifCond .lt 8, 3)) ∧ (decode cX11_behind 26 = .ok (.iload_n 3, 1)) ∧ (decode cX11_behind 27 = .ok (.iconst 3, 1)) ∧ (decode cX11_behind 28 = .ok (.if_icmp .le 6, 3)) ∧ (decode cX11_behind 31 = .ok (.bipush (-2), 2)) := by decide +kernel
theorem dX11_behind_0 : decode cX11_behind 0 = .ok (.aload_n 0, 1) := dX11_behind_0_a.1
theorem dX11_behind_1 : decode cX11_behind 1 = .ok (.getfield 33, 3) := dX11_behind_0_a.2.1
theorem dX11_behind_4 : decode cX11_behind 4 = .ok (.iload_n 1, 1) := dX11_behind_0_a.2.2.1
theorem dX11_behind_5 : decode cX11_behind 5 = .ok (.invokevirtual 149, 3) := dX11_behind_0_a.2.2.2.1
theorem dX11_behind_8 : decode cX11_behind 8 = .ok (.ifCond .eq 23, 3) := dX11_behind_0_a.2.2.2.2.1
theorem dX11_behind_11 : decode cX11_behind 11 = .ok (.aload_n 0, 1) := dX11_behind_0_a.2.2.2.2.2.1
theorem dX11_behind_12 : decode cX11_behind 12 = .ok (.getfield 10, 3) := dX11_behind_0_a.2.2.2.2.2.2.1
theorem dX11_behind_15 : decode cX11_behind 15 = .ok (.iload_n 2, 1) := dX11_behind_0_a.2.2.2.2.2.2.2.1
theorem dX11_behind_16 : decode cX11_behind 16 = .ok (.invokevirtual 165, 3) := dX11_behind_0_a.2.2.2.2.2.2.2.2.1
theorem dX11_behind_19 : decode cX11_behind 19 = .ok (.ifCond .eq 12, 3) := dX11_behind_0_a.2.2.2.2.2.2.2.2.2.1
theorem dX11_behind_22 : decode cX11_behind 22 = .ok (.iload_n 3, 1) := dX11_behind_0_a.2.2.2.2.2.2.2.2.2.2.1
theorem dX11_behind_23 : decode cX11_behind 23 = .ok (.ifCond .lt 8, 3) := dX11_behind_0_a.2.2.2.2.2.2.2.2.2.2.2.1
theorem dX11_behind_26 : decode cX11_behind 26 = .ok (.iload_n 3, 1) := dX11_behind_0_a.2.2.2.2.2.2.2.2.2.2.2.2.1
theorem dX11_behind_27 : decode cX11_behind 27 = .ok (.iconst 3, 1) := dX11_behind_0_a.2.2.2.2.2.2.2.2.2.2.2.2.2.1
theorem dX11_behind_28 : decode cX11_behind 28 = .ok (.if_icmp .le 6, 3) := dX11_behind_0_a.2.2.2.2.2.2.2.2.2.2.2.2.2.2.1
theorem dX11_behind_31 : decode cX11_behind 31 = .ok (.bipush (-2), 2) := dX11_behind_0_a.2.2.2.2.2.2.2.2.2.2.2.2.2.2.2
theorem dX11_behind_33_a : (decode cX11_behind 33 = .ok (.ireturn, 1)) ∧ (decode cX11_behind 34 = .ok (.aload_n 0, 1)) ∧ (decode cX11_behind 35 = .ok (.iload_n 1, 1)) ∧ (decode cX11_behind 36 = .ok (.invokevirtual 150, 3)) ∧ (decode cX11_behind 39 = .ok (.iload_n 3, 1)) ∧ (decode cX11_behind 40 = .ok (.iconst 2, 1)) ∧ (decode cX11_behind 41 = .ok (.if_icmp .ge 13, 3)) ∧ (decode cX11_behind 44 = .ok (.aload_n 0, 1)) ∧ (decode cX11_behind 45 = .ok (.iload_n 1, 1)) ∧ (decode cX11_behind 46 = .ok (.iload_n 2, 1)) ∧ (decode cX11_behind 47 = .ok (.iload_n 3, 1)) ∧ (decode cX11_behind 48 = .ok (.invokevirtual 166, 3)) ∧ (decode cX11_behind 51 = .ok (.goto 10, 3)) ∧ (decode cX11_behind 54 = .ok (.aload_n 0, 1)) ∧ (decode cX11_behind 55 = .ok (.iload_n 1, 1)) ∧ (decode cX11_behind 56 = .ok (.iload_n 2, 1)) := by decide +kernel
theorem dX11_behind_33 : decode cX11_behind 33 = .ok (.ireturn, 1) := dX11_behind_33_a.1
theorem dX11_behind_34 : decode cX11_behind 34 = .ok (.aload_n 0, 1) := dX11_behind_33_a.2.1
theorem dX11_behind_35 : decode cX11_behind 35 = .ok (.iload_n 1, 1) := dX11_behind_33_a.2.2.1
theorem dX11_behind_36 : decode cX11_behind 36 = .ok (.invokevirtual 150, 3) := dX11_behind_33_a.2.2.2.1
theorem dX11_behind_39 : decode cX11_behind 39 = .ok (.iload_n 3, 1) := dX11_behind_33_a.2.2.2.2.1
theorem dX11_behind_40 : decode cX11_behind 40 = .ok (.iconst 2, 1) := dX11_behind_33_a.2.2.2.2.2.1
theorem dX11_behind_41 : decode cX11_behind 41 = .ok (.if_icmp .ge 13, 3) := dX11_behind_33_a.2.2.2.2.2.2.1
theorem dX11_behind_44 : decode cX11_behind 44 = .ok (.aload_n 0, 1) := dX11_behind_33_a.2.2.2.2.2.2.2.1
theorem dX11_behind_45 : decode cX11_behind 45 = .ok (.iload_n 1, 1) := dX11_behind_33_a.2.2.2.2.2.2.2.2.1
theorem dX11_behind_46 : decode cX11_behind 46 = .ok (.iload_n 2, 1) := dX11_behind_33_a.2.2.2.2.2.2.2.2.2.1
theorem dX11_behind_47 : decode cX11_behind 47 = .ok (.iload_n 3, 1) := dX11_behind_33_a.2.2.2.2.2.2.2.2.2.2.1
theorem dX11_behind_48 : decode cX11_behind 48 = .ok (.invokevirtual 166, 3) := dX11_behind_33_a.2.2.2.2.2.2.2.2.2.2.2.1
theorem dX11_behind_51 : decode cX11_behind 51 = .ok (.goto 10, 3) := dX11_behind_33_a.2.2.2.2.2.2.2.2.2.2.2.2.1
theorem dX11_behind_54 : decode cX11_behind 54 = .ok (.aload_n 0, 1) := dX11_behind_33_a.2.2.2.2.2.2.2.2.2.2.2.2.2.1
theorem dX11_behind_55 : decode cX11_behind 55 = .ok (.iload_n 1, 1) := dX11_behind_33_a.2.2.2.2.2.2.2.2.2.2.2.2.2.2.1
theorem dX11_behind_56 : decode cX11_behind 56 = .ok (.iload_n 2, 1) := dX11_behind_33_a.2.2.2.2.2.2.2.2.2.2.2.2.2.2.2
theorem dX11_behind_57_a : (decode cX11_behind 57 = .ok (.iload_n 3, 1)) ∧ (decode cX11_behind 58 = .ok (.invokevirtual 170, 3)) ∧ (decode cX11_behind 61 = .ok (.ireturn, 1)) := by decide +kernel
theorem dX11_behind_57 : decode cX11_behind 57 = .ok (.iload_n 3, 1) := dX11_behind_57_a.1
theorem dX11_behind_58 : decode cX11_behind 58 = .ok (.invokevirtual 170, 3) := dX11_behind_57_a.2.1
theorem dX11_behind_61 : decode cX11_behind 61 = .ok (.ireturn, 1) := dX11_behind_57_a.2.2
theorem dX11_farthest_0_a : (decode cX11_farthest 0 = .ok (.iconst (-1), 1)) ∧ (decode cX11_farthest 1 = .ok (.istore_n 1, 1)) ∧ (decode cX11_farthest 2 = .ok (.iconst (-1), 1)) ∧ (decode cX11_farthest 3 = .ok (.istore_n 2, 1)) ∧ (decode cX11_farthest 4 = .ok (.iconst 0, 1)) ∧ (decode cX11_farthest 5 = .ok (.istore_n 3, 1)) ∧ (decode cX11_farthest 6 = .ok (.iload_n 3, 1)) ∧ (decode cX11_farthest 7 = .ok (.aload_n 0, 1)) ∧ (decode cX11_farthest 8 = .ok (.getfield 33, 3)) ∧ (decode cX11_farthest 11 = .ok (.getfield 128, 3)) ∧ (decode cX11_farthest 14 = .ok (.if_icmp .ge 64, 3)) ∧ (decode cX11_farthest 17 = .ok (.aload_n 0, 1)) ∧ (decode cX11_farthest 18 = .ok (.iload_n 3, 1)) ∧ (decode cX11_farthest 19 = .ok (.invokevirtual 150, 3)) ∧ (decode cX11_farthest 22 = .ok (.aload_n 0, 1)) ∧ (decode cX11_farthest 23 = .ok (.getfield 42, 3)) := by decide +kernel
theorem dX11_farthest_0 : decode cX11_farthest 0 = .ok (.iconst (-1), 1) := dX11_farthest_0_a.1
theorem dX11_farthest_1 : decode cX11_farthest 1 = .ok (.istore_n 1, 1) := dX11_farthest_0_a.2.1
theorem dX11_farthest_2 : decode cX11_farthest 2 = .ok (.iconst (-1), 1) := dX11_farthest_0_a.2.2.1
theorem dX11_farthest_3 : decode cX11_farthest 3 = .ok (.istore_n 2, 1) := dX11_farthest_0_a.2.2.2.1
theorem dX11_farthest_4 : decode cX11_farthest 4 = .ok (.iconst 0, 1) := dX11_farthest_0_a.2.2.2.2.1
theorem dX11_farthest_5 : decode cX11_farthest 5 = .ok (.istore_n 3, 1) := dX11_farthest_0_a.2.2.2.2.2.1
theorem dX11_farthest_6 : decode cX11_farthest 6 = .ok (.iload_n 3, 1) := dX11_farthest_0_a.2.2.2.2.2.2.1
theorem dX11_farthest_7 : decode cX11_farthest 7 = .ok (.aload_n 0, 1) := dX11_farthest_0_a.2.2.2.2.2.2.2.1
theorem dX11_farthest_8 : decode cX11_farthest 8 = .ok (.getfield 33, 3) := dX11_farthest_0_a.2.2.2.2.2.2.2.2.1
theorem dX11_farthest_11 : decode cX11_farthest 11 = .ok (.getfield 128, 3) := dX11_farthest_0_a.2.2.2.2.2.2.2.2.2.1
theorem dX11_farthest_14 : decode cX11_farthest 14 = .ok (.if_icmp .ge 64, 3) := dX11_farthest_0_a.2.2.2.2.2.2.2.2.2.2.1
theorem dX11_farthest_17 : decode cX11_farthest 17 = .ok (.aload_n 0, 1) := dX11_farthest_0_a.2.2.2.2.2.2.2.2.2.2.2.1
theorem dX11_farthest_18 : decode cX11_farthest 18 = .ok (.iload_n 3, 1) := dX11_farthest_0_a.2.2.2.2.2.2.2.2.2.2.2.2.1
theorem dX11_farthest_19 : decode cX11_farthest 19 = .ok (.invokevirtual 150, 3) := dX11_farthest_0_a.2.2.2.2.2.2.2.2.2.2.2.2.2.1
theorem dX11_farthest_22 : decode cX11_farthest 22 = .ok (.aload_n 0, 1) := dX11_farthest_0_a.2.2.2.2.2.2.2.2.2.2.2.2.2.2.1
theorem dX11_farthest_23 : decode cX11_farthest 23 = .ok (.getfield 42, 3) := dX11_farthest_0_a.2.2.2.2.2.2.2.2.2.2.2.2.2.2.2
theorem dX11_farthest_26_a : (decode cX11_farthest 26 = .ok (.aload_n 0, 1)) ∧ (decode cX11_farthest 27 = .ok (.getfield 33, 3)) ∧ (decode cX11_farthest 30 = .ok (.iload_n 3, 1)) ∧ (decode cX11_farthest 31 = .ok (.invokevirtual 153, 3)) ∧ (decode cX11_farthest 34 = .ok (.invokevirtual 156, 3)) ∧ (decode cX11_farthest 37 = .ok (.istore 4, 2)) ∧ (decode cX11_farthest 39 = .ok (.iconst 2, 1)) ∧ (decode cX11_farthest 40 = .ok (.iload 4, 2)) ∧ (decode cX11_farthest 42 = .ok (.imul, 1)) ∧ (decode cX11_farthest 43 = .ok (.aload_n 0, 1)) ∧ (decode cX11_farthest 44 = .ok (.getfield 42, 3)) ∧ (decode cX11_farthest 47 = .ok (.getfield 159, 3)) ∧ (decode cX11_farthest 50 = .ok (.ifCond .ne 7, 3)) ∧ (decode cX11_farthest 53 = .ok (.iconst 1, 1)) ∧ (decode cX11_farthest 54 = .ok (.goto 4, 3)) ∧ (decode cX11_farthest 57 = .ok (.iconst 0, 1)) := by decide +kernel
theorem dX11_farthest_26 : decode cX11_farthest 26 = .ok (.aload_n 0, 1) := dX11_farthest_26_a.1
theorem dX11_farthest_27 : decode cX11_farthest 27 = .ok (.getfield 33, 3) := dX11_farthest_26_a.2.1
theorem dX11_farthest_30 : decode cX11_farthest 30 = .ok (.iload_n 3, 1) := dX11_farthest_26_a.2.2.1
theorem dX11_farthest_31 : decode cX11_farthest 31 = .ok (.invokevirtual 153, 3) := dX11_farthest_26_a.2.2.2.1
theorem dX11_farthest_34 : decode cX11_farthest 34 = .ok (.invokevirtual 156, 3) := dX11_farthest_26_a.2.2.2.2.1
theorem dX11_farthest_37 : decode cX11_farthest 37 = .ok (.istore 4, 2) := dX11_farthest_26_a.2.2.2.2.2.1
theorem dX11_farthest_39 : decode cX11_farthest 39 = .ok (.iconst 2, 1) := dX11_farthest_26_a.2.2.2.2.2.2.1
theorem dX11_farthest_40 : decode cX11_farthest 40 = .ok (.iload 4, 2) := dX11_farthest_26_a.2.2.2.2.2.2.2.1
theorem dX11_farthest_42 : decode cX11_farthest 42 = .ok (.imul, 1) := dX11_farthest_26_a.2.2.2.2.2.2.2.2.1
theorem dX11_farthest_43 : decode cX11_farthest 43 = .ok (.aload_n 0, 1) := dX11_farthest_26_a.2.2.2.2.2.2.2.2.2.1
theorem dX11_farthest_44 : decode cX11_farthest 44 = .ok (.getfield 42, 3) := dX11_farthest_26_a.2.2.2.2.2.2.2.2.2.2.1
theorem dX11_farthest_47 : decode cX11_farthest 47 = .ok (.getfield 159, 3) := dX11_farthest_26_a.2.2.2.2.2.2.2.2.2.2.2.1
theorem dX11_farthest_50 : decode cX11_farthest 50 = .ok (.ifCond .ne 7, 3) := dX11_farthest_26_a.2.2.2.2.2.2.2.2.2.2.2.2.1
theorem dX11_farthest_53 : decode cX11_farthest 53 = .ok (.iconst 1, 1) := dX11_farthest_26_a.2.2.2.2.2.2.2.2.2.2.2.2.2.1
theorem dX11_farthest_54 : decode cX11_farthest 54 = .ok (.goto 4, 3) := dX11_farthest_26_a.2.2.2.2.2.2.2.2.2.2.2.2.2.2.1
theorem dX11_farthest_57 : decode cX11_farthest 57 = .ok (.iconst 0, 1) := dX11_farthest_26_a.2.2.2.2.2.2.2.2.2.2.2.2.2.2.2
theorem dX11_farthest_58_a : (decode cX11_farthest 58 = .ok (.iadd, 1)) ∧ (decode cX11_farthest 59 = .ok (.istore 5, 2)) ∧ (decode cX11_farthest 61 = .ok (.iload 5, 2)) ∧ (decode cX11_farthest 63 = .ok (.iload_n 2, 1)) ∧ (decode cX11_farthest 64 = .ok (.if_icmp .le 8, 3)) ∧ (decode cX11_farthest 67 = .ok (.iload 5, 2)) ∧ (decode cX11_farthest 69 = .ok (.istore_n 2, 1)) ∧ (decode cX11_farthest 70 = .ok (.iload_n 3, 1)) ∧ (decode cX11_farthest 71 = .ok (.istore_n 1, 1)) ∧ (decode cX11_farthest 72 = .ok (.iinc 3 1, 3)) ∧ (decode cX11_farthest 75 = .ok (.goto (-69), 3)) ∧ (decode cX11_farthest 78 = .ok (.iload_n 1, 1)) ∧ (decode cX11_farthest 79 = .ok (.ireturn, 1)) := by decide +kernel
theorem dX11_farthest_58 : decode cX11_farthest 58 = .ok (.iadd, 1) := dX11_farthest_58_a.1
theorem dX11_farthest_59 : decode cX11_farthest 59 = .ok (.istore 5, 2) := dX11_farthest_58_a.2.1
theorem dX11_farthest_61 : decode cX11_farthest 61 = .ok (.iload 5, 2) := dX11_farthest_58_a.2.2.1
theorem dX11_farthest_63 : decode cX11_farthest 63 = .ok (.iload_n 2, 1) := dX11_farthest_58_a.2.2.2.1
theorem dX11_farthest_64 : decode cX11_farthest 64 = .ok (.if_icmp .le 8, 3) := dX11_farthest_58_a.2.2.2.2.1
theorem dX11_farthest_67 : decode cX11_farthest 67 = .ok (.iload 5, 2) := dX11_farthest_58_a.2.2.2.2.2.1
theorem dX11_farthest_69 : decode cX11_farthest 69 = .ok (.istore_n 2, 1) := dX11_farthest_58_a.2.2.2.2.2.2.1
theorem dX11_farthest_70 : decode cX11_farthest 70 = .ok (.iload_n 3, 1) := dX11_farthest_58_a.2.2.2.2.2.2.2.1
theorem dX11_farthest_71 : decode cX11_farthest 71 = .ok (.istore_n 1, 1) := dX11_farthest_58_a.2.2.2.2.2.2.2.2.1
theorem dX11_farthest_72 : decode cX11_farthest 72 = .ok (.iinc 3 1, 3) := dX11_farthest_58_a.2.2.2.2.2.2.2.2.2.1
theorem dX11_farthest_75 : decode cX11_farthest 75 = .ok (.goto (-69), 3) := dX11_farthest_58_a.2.2.2.2.2.2.2.2.2.2.1
theorem dX11_farthest_78 : decode cX11_farthest 78 = .ok (.iload_n 1, 1) := dX11_farthest_58_a.2.2.2.2.2.2.2.2.2.2.2.1
theorem dX11_farthest_79 : decode cX11_farthest 79 = .ok (.ireturn, 1) := dX11_farthest_58_a.2.2.2.2.2.2.2.2.2.2.2.2
theorem dX11_climb_0_a : (decode cX11_climb 0 = .ok (.aload_n 0, 1)) ∧ (decode cX11_climb 1 = .ok (.getfield 33, 3)) ∧ (decode cX11_climb 4 = .ok (.iload_n 1, 1)) ∧ (decode cX11_climb 5 = .ok (.invokevirtual 149, 3)) ∧ (decode cX11_climb 8 = .ok (.ifCond .eq 13, 3)) ∧ (decode cX11_climb 11 = .ok (.iload_n 2, 1)) ∧ (decode cX11_climb 12 = .ok (.iconst (-1), 1)) ∧ (decode cX11_climb 13 = .ok (.if_icmp .lt 8, 3)) ∧ (decode cX11_climb 16 = .ok (.iload_n 2, 1)) ∧ (decode cX11_climb 17 = .ok (.iconst 2, 1)) ∧ (decode cX11_climb 18 = .ok (.if_icmp .le 6, 3)) ∧ (decode cX11_climb 21 = .ok (.bipush (-2), 2)) ∧ (decode cX11_climb 23 = .ok (.ireturn, 1)) ∧ (decode cX11_climb 24 = .ok (.aload_n 0, 1)) ∧ (decode cX11_climb 25 = .ok (.iload_n 1, 1)) ∧ (decode cX11_climb 26 = .ok (.invokevirtual 150, 3)) := by decide +kernel
theorem dX11_climb_0 : decode cX11_climb 0 = .ok (.aload_n 0, 1) := dX11_climb_0_a.1
theorem dX11_climb_1 : decode cX11_climb 1 = .ok (.getfield 33, 3) := dX11_climb_0_a.2.1
theorem dX11_climb_4 : decode cX11_climb 4 = .ok (.iload_n 1, 1) := dX11_climb_0_a.2.2.1
theorem dX11_climb_5 : decode cX11_climb 5 = .ok (.invokevirtual 149, 3) := dX11_climb_0_a.2.2.2.1
theorem dX11_climb_8 : decode cX11_climb 8 = .ok (.ifCond .eq 13, 3) := dX11_climb_0_a.2.2.2.2.1
theorem dX11_climb_11 : decode cX11_climb 11 = .ok (.iload_n 2, 1) := dX11_climb_0_a.2.2.2.2.2.1
theorem dX11_climb_12 : decode cX11_climb 12 = .ok (.iconst (-1), 1) := dX11_climb_0_a.2.2.2.2.2.2.1
theorem dX11_climb_13 : decode cX11_climb 13 = .ok (.if_icmp .lt 8, 3) := dX11_climb_0_a.2.2.2.2.2.2.2.1
theorem dX11_climb_16 : decode cX11_climb 16 = .ok (.iload_n 2, 1) := dX11_climb_0_a.2.2.2.2.2.2.2.2.1
theorem dX11_climb_17 : decode cX11_climb 17 = .ok (.iconst 2, 1) := dX11_climb_0_a.2.2.2.2.2.2.2.2.2.1
theorem dX11_climb_18 : decode cX11_climb 18 = .ok (.if_icmp .le 6, 3) := dX11_climb_0_a.2.2.2.2.2.2.2.2.2.2.1
theorem dX11_climb_21 : decode cX11_climb 21 = .ok (.bipush (-2), 2) := dX11_climb_0_a.2.2.2.2.2.2.2.2.2.2.2.1
theorem dX11_climb_23 : decode cX11_climb 23 = .ok (.ireturn, 1) := dX11_climb_0_a.2.2.2.2.2.2.2.2.2.2.2.2.1
theorem dX11_climb_24 : decode cX11_climb 24 = .ok (.aload_n 0, 1) := dX11_climb_0_a.2.2.2.2.2.2.2.2.2.2.2.2.2.1
theorem dX11_climb_25 : decode cX11_climb 25 = .ok (.iload_n 1, 1) := dX11_climb_0_a.2.2.2.2.2.2.2.2.2.2.2.2.2.2.1
theorem dX11_climb_26 : decode cX11_climb 26 = .ok (.invokevirtual 150, 3) := dX11_climb_0_a.2.2.2.2.2.2.2.2.2.2.2.2.2.2.2
theorem dX11_climb_29_a : (decode cX11_climb 29 = .ok (.aload_n 0, 1)) ∧ (decode cX11_climb 30 = .ok (.getfield 49, 3)) ∧ (decode cX11_climb 33 = .ok (.aload_n 0, 1)) ∧ (decode cX11_climb 34 = .ok (.getfield 42, 3)) ∧ (decode cX11_climb 37 = .ok (.aload_n 0, 1)) ∧ (decode cX11_climb 38 = .ok (.getfield 10, 3)) ∧ (decode cX11_climb 41 = .ok (.getfield 108, 3)) ∧ (decode cX11_climb 44 = .ok (.invokevirtual 173, 3)) ∧ (decode cX11_climb 47 = .ok (.aload_n 0, 1)) ∧ (decode cX11_climb 48 = .ok (.getfield 49, 3)) ∧ (decode cX11_climb 51 = .ok (.iload_n 2, 1)) ∧ (decode cX11_climb 52 = .ok (.invokevirtual 177, 3)) ∧ (decode cX11_climb 55 = .ok (.ireturn, 1)) := by decide +kernel
theorem dX11_climb_29 : decode cX11_climb 29 = .ok (.aload_n 0, 1) := dX11_climb_29_a.1
theorem dX11_climb_30 : decode cX11_climb 30 = .ok (.getfield 49, 3) := dX11_climb_29_a.2.1
theorem dX11_climb_33 : decode cX11_climb 33 = .ok (.aload_n 0, 1) := dX11_climb_29_a.2.2.1
theorem dX11_climb_34 : decode cX11_climb 34 = .ok (.getfield 42, 3) := dX11_climb_29_a.2.2.2.1
theorem dX11_climb_37 : decode cX11_climb 37 = .ok (.aload_n 0, 1) := dX11_climb_29_a.2.2.2.2.1
theorem dX11_climb_38 : decode cX11_climb 38 = .ok (.getfield 10, 3) := dX11_climb_29_a.2.2.2.2.2.1
theorem dX11_climb_41 : decode cX11_climb 41 = .ok (.getfield 108, 3) := dX11_climb_29_a.2.2.2.2.2.2.1
theorem dX11_climb_44 : decode cX11_climb 44 = .ok (.invokevirtual 173, 3) := dX11_climb_29_a.2.2.2.2.2.2.2.1
theorem dX11_climb_47 : decode cX11_climb 47 = .ok (.aload_n 0, 1) := dX11_climb_29_a.2.2.2.2.2.2.2.2.1
theorem dX11_climb_48 : decode cX11_climb 48 = .ok (.getfield 49, 3) := dX11_climb_29_a.2.2.2.2.2.2.2.2.2.1
theorem dX11_climb_51 : decode cX11_climb 51 = .ok (.iload_n 2, 1) := dX11_climb_29_a.2.2.2.2.2.2.2.2.2.2.1
theorem dX11_climb_52 : decode cX11_climb 52 = .ok (.invokevirtual 177, 3) := dX11_climb_29_a.2.2.2.2.2.2.2.2.2.2.2.1
theorem dX11_climb_55 : decode cX11_climb 55 = .ok (.ireturn, 1) := dX11_climb_29_a.2.2.2.2.2.2.2.2.2.2.2.2
theorem dX11_practice_0_a : (decode cX11_practice 0 = .ok (.aload_n 0, 1)) ∧ (decode cX11_practice 1 = .ok (.getfield 33, 3)) ∧ (decode cX11_practice 4 = .ok (.iload_n 1, 1)) ∧ (decode cX11_practice 5 = .ok (.invokevirtual 149, 3)) ∧ (decode cX11_practice 8 = .ok (.ifCond .eq 12, 3)) ∧ (decode cX11_practice 11 = .ok (.iload_n 2, 1)) ∧ (decode cX11_practice 12 = .ok (.ifCond .lt 8, 3)) ∧ (decode cX11_practice 15 = .ok (.iload_n 2, 1)) ∧ (decode cX11_practice 16 = .ok (.iconst 1, 1)) ∧ (decode cX11_practice 17 = .ok (.if_icmp .le 6, 3)) ∧ (decode cX11_practice 20 = .ok (.bipush (-2), 2)) ∧ (decode cX11_practice 22 = .ok (.ireturn, 1)) ∧ (decode cX11_practice 23 = .ok (.aload_n 0, 1)) ∧ (decode cX11_practice 24 = .ok (.iload_n 1, 1)) ∧ (decode cX11_practice 25 = .ok (.invokevirtual 150, 3)) ∧ (decode cX11_practice 28 = .ok (.bipush 7, 2)) := by decide +kernel
theorem dX11_practice_0 : decode cX11_practice 0 = .ok (.aload_n 0, 1) := dX11_practice_0_a.1
theorem dX11_practice_1 : decode cX11_practice 1 = .ok (.getfield 33, 3) := dX11_practice_0_a.2.1
theorem dX11_practice_4 : decode cX11_practice 4 = .ok (.iload_n 1, 1) := dX11_practice_0_a.2.2.1
theorem dX11_practice_5 : decode cX11_practice 5 = .ok (.invokevirtual 149, 3) := dX11_practice_0_a.2.2.2.1
theorem dX11_practice_8 : decode cX11_practice 8 = .ok (.ifCond .eq 12, 3) := dX11_practice_0_a.2.2.2.2.1
theorem dX11_practice_11 : decode cX11_practice 11 = .ok (.iload_n 2, 1) := dX11_practice_0_a.2.2.2.2.2.1
theorem dX11_practice_12 : decode cX11_practice 12 = .ok (.ifCond .lt 8, 3) := dX11_practice_0_a.2.2.2.2.2.2.1
theorem dX11_practice_15 : decode cX11_practice 15 = .ok (.iload_n 2, 1) := dX11_practice_0_a.2.2.2.2.2.2.2.1
theorem dX11_practice_16 : decode cX11_practice 16 = .ok (.iconst 1, 1) := dX11_practice_0_a.2.2.2.2.2.2.2.2.1
theorem dX11_practice_17 : decode cX11_practice 17 = .ok (.if_icmp .le 6, 3) := dX11_practice_0_a.2.2.2.2.2.2.2.2.2.1
theorem dX11_practice_20 : decode cX11_practice 20 = .ok (.bipush (-2), 2) := dX11_practice_0_a.2.2.2.2.2.2.2.2.2.2.1
theorem dX11_practice_22 : decode cX11_practice 22 = .ok (.ireturn, 1) := dX11_practice_0_a.2.2.2.2.2.2.2.2.2.2.2.1
theorem dX11_practice_23 : decode cX11_practice 23 = .ok (.aload_n 0, 1) := dX11_practice_0_a.2.2.2.2.2.2.2.2.2.2.2.2.1
theorem dX11_practice_24 : decode cX11_practice 24 = .ok (.iload_n 1, 1) := dX11_practice_0_a.2.2.2.2.2.2.2.2.2.2.2.2.2.1
theorem dX11_practice_25 : decode cX11_practice 25 = .ok (.invokevirtual 150, 3) := dX11_practice_0_a.2.2.2.2.2.2.2.2.2.2.2.2.2.2.1
theorem dX11_practice_28 : decode cX11_practice 28 = .ok (.bipush 7, 2) := dX11_practice_0_a.2.2.2.2.2.2.2.2.2.2.2.2.2.2.2
theorem dX11_practice_30_a : (decode cX11_practice 30 = .ok (.istore_n 3, 1)) ∧ (decode cX11_practice 31 = .ok (.iconst (-1), 1)) ∧ (decode cX11_practice 32 = .ok (.istore 4, 2)) ∧ (decode cX11_practice 34 = .ok (.iconst 0, 1)) ∧ (decode cX11_practice 35 = .ok (.istore 5, 2)) ∧ (decode cX11_practice 37 = .ok (.iload 5, 2)) ∧ (decode cX11_practice 39 = .ok (.bipush 64, 2)) ∧ (decode cX11_practice 41 = .ok (.if_icmp .ge 64, 3)) ∧ (decode cX11_practice 44 = .ok (.iload 5, 2)) ∧ (decode cX11_practice 46 = .ok (.invokestatic 179, 3)) ∧ (decode cX11_practice 49 = .ok (.istore 6, 2)) ∧ (decode cX11_practice 51 = .ok (.iload 6, 2)) ∧ (decode cX11_practice 53 = .ok (.iload_n 3, 1)) ∧ (decode cX11_practice 54 = .ok (.if_icmp .ge 45, 3)) ∧ (decode cX11_practice 57 = .ok (.aload_n 0, 1)) ∧ (decode cX11_practice 58 = .ok (.getfield 42, 3)) := by decide +kernel
theorem dX11_practice_30 : decode cX11_practice 30 = .ok (.istore_n 3, 1) := dX11_practice_30_a.1
theorem dX11_practice_31 : decode cX11_practice 31 = .ok (.iconst (-1), 1) := dX11_practice_30_a.2.1
theorem dX11_practice_32 : decode cX11_practice 32 = .ok (.istore 4, 2) := dX11_practice_30_a.2.2.1
theorem dX11_practice_34 : decode cX11_practice 34 = .ok (.iconst 0, 1) := dX11_practice_30_a.2.2.2.1
theorem dX11_practice_35 : decode cX11_practice 35 = .ok (.istore 5, 2) := dX11_practice_30_a.2.2.2.2.1
theorem dX11_practice_37 : decode cX11_practice 37 = .ok (.iload 5, 2) := dX11_practice_30_a.2.2.2.2.2.1
theorem dX11_practice_39 : decode cX11_practice 39 = .ok (.bipush 64, 2) := dX11_practice_30_a.2.2.2.2.2.2.1
theorem dX11_practice_41 : decode cX11_practice 41 = .ok (.if_icmp .ge 64, 3) := dX11_practice_30_a.2.2.2.2.2.2.2.1
theorem dX11_practice_44 : decode cX11_practice 44 = .ok (.iload 5, 2) := dX11_practice_30_a.2.2.2.2.2.2.2.2.1
theorem dX11_practice_46 : decode cX11_practice 46 = .ok (.invokestatic 179, 3) := dX11_practice_30_a.2.2.2.2.2.2.2.2.2.1
theorem dX11_practice_49 : decode cX11_practice 49 = .ok (.istore 6, 2) := dX11_practice_30_a.2.2.2.2.2.2.2.2.2.2.1
theorem dX11_practice_51 : decode cX11_practice 51 = .ok (.iload 6, 2) := dX11_practice_30_a.2.2.2.2.2.2.2.2.2.2.2.1
theorem dX11_practice_53 : decode cX11_practice 53 = .ok (.iload_n 3, 1) := dX11_practice_30_a.2.2.2.2.2.2.2.2.2.2.2.2.1
theorem dX11_practice_54 : decode cX11_practice 54 = .ok (.if_icmp .ge 45, 3) := dX11_practice_30_a.2.2.2.2.2.2.2.2.2.2.2.2.2.1
theorem dX11_practice_57 : decode cX11_practice 57 = .ok (.aload_n 0, 1) := dX11_practice_30_a.2.2.2.2.2.2.2.2.2.2.2.2.2.2.1
theorem dX11_practice_58 : decode cX11_practice 58 = .ok (.getfield 42, 3) := dX11_practice_30_a.2.2.2.2.2.2.2.2.2.2.2.2.2.2.2
theorem dX11_practice_61_a : (decode cX11_practice 61 = .ok (.iload 5, 2)) ∧ (decode cX11_practice 63 = .ok (.putfield 184, 3)) ∧ (decode cX11_practice 66 = .ok (.aload_n 0, 1)) ∧ (decode cX11_practice 67 = .ok (.getfield 42, 3)) ∧ (decode cX11_practice 70 = .ok (.aload_n 0, 1)) ∧ (decode cX11_practice 71 = .ok (.getfield 33, 3)) ∧ (decode cX11_practice 74 = .ok (.iload_n 1, 1)) ∧ (decode cX11_practice 75 = .ok (.invokevirtual 153, 3)) ∧ (decode cX11_practice 78 = .ok (.invokevirtual 156, 3)) ∧ (decode cX11_practice 81 = .ok (.pop, 1)) ∧ (decode cX11_practice 82 = .ok (.aload_n 0, 1)) ∧ (decode cX11_practice 83 = .ok (.getfield 42, 3)) ∧ (decode cX11_practice 86 = .ok (.getfield 159, 3)) ∧ (decode cX11_practice 89 = .ok (.ifCond .ne 10, 3)) ∧ (decode cX11_practice 92 = .ok (.iload 6, 2)) ∧ (decode cX11_practice 94 = .ok (.istore_n 3, 1)) := by decide +kernel
theorem dX11_practice_61 : decode cX11_practice 61 = .ok (.iload 5, 2) := dX11_practice_61_a.1
theorem dX11_practice_63 : decode cX11_practice 63 = .ok (.putfield 184, 3) := dX11_practice_61_a.2.1
theorem dX11_practice_66 : decode cX11_practice 66 = .ok (.aload_n 0, 1) := dX11_practice_61_a.2.2.1
theorem dX11_practice_67 : decode cX11_practice 67 = .ok (.getfield 42, 3) := dX11_practice_61_a.2.2.2.1
theorem dX11_practice_70 : decode cX11_practice 70 = .ok (.aload_n 0, 1) := dX11_practice_61_a.2.2.2.2.1
theorem dX11_practice_71 : decode cX11_practice 71 = .ok (.getfield 33, 3) := dX11_practice_61_a.2.2.2.2.2.1
theorem dX11_practice_74 : decode cX11_practice 74 = .ok (.iload_n 1, 1) := dX11_practice_61_a.2.2.2.2.2.2.1
theorem dX11_practice_75 : decode cX11_practice 75 = .ok (.invokevirtual 153, 3) := dX11_practice_61_a.2.2.2.2.2.2.2.1
theorem dX11_practice_78 : decode cX11_practice 78 = .ok (.invokevirtual 156, 3) := dX11_practice_61_a.2.2.2.2.2.2.2.2.1
theorem dX11_practice_81 : decode cX11_practice 81 = .ok (.pop, 1) := dX11_practice_61_a.2.2.2.2.2.2.2.2.2.1
theorem dX11_practice_82 : decode cX11_practice 82 = .ok (.aload_n 0, 1) := dX11_practice_61_a.2.2.2.2.2.2.2.2.2.2.1
theorem dX11_practice_83 : decode cX11_practice 83 = .ok (.getfield 42, 3) := dX11_practice_61_a.2.2.2.2.2.2.2.2.2.2.2.1
theorem dX11_practice_86 : decode cX11_practice 86 = .ok (.getfield 159, 3) := dX11_practice_61_a.2.2.2.2.2.2.2.2.2.2.2.2.1
theorem dX11_practice_89 : decode cX11_practice 89 = .ok (.ifCond .ne 10, 3) := dX11_practice_61_a.2.2.2.2.2.2.2.2.2.2.2.2.2.1
theorem dX11_practice_92 : decode cX11_practice 92 = .ok (.iload 6, 2) := dX11_practice_61_a.2.2.2.2.2.2.2.2.2.2.2.2.2.2.1
theorem dX11_practice_94 : decode cX11_practice 94 = .ok (.istore_n 3, 1) := dX11_practice_61_a.2.2.2.2.2.2.2.2.2.2.2.2.2.2.2
theorem dX11_practice_95_a : (decode cX11_practice 95 = .ok (.iload 5, 2)) ∧ (decode cX11_practice 97 = .ok (.istore 4, 2)) ∧ (decode cX11_practice 99 = .ok (.iinc 5 1, 3)) ∧ (decode cX11_practice 102 = .ok (.goto (-65), 3)) ∧ (decode cX11_practice 105 = .ok (.iload 4, 2)) ∧ (decode cX11_practice 107 = .ok (.iconst (-1), 1)) ∧ (decode cX11_practice 108 = .ok (.if_icmp .ne 5, 3)) ∧ (decode cX11_practice 111 = .ok (.iconst (-1), 1)) ∧ (decode cX11_practice 112 = .ok (.ireturn, 1)) ∧ (decode cX11_practice 113 = .ok (.iload_n 2, 1)) ∧ (decode cX11_practice 114 = .ok (.ifCond .ne 7, 3)) ∧ (decode cX11_practice 117 = .ok (.iload_n 3, 1)) ∧ (decode cX11_practice 118 = .ok (.goto 5, 3)) ∧ (decode cX11_practice 121 = .ok (.iload 4, 2)) ∧ (decode cX11_practice 123 = .ok (.ireturn, 1)) := by decide +kernel
theorem dX11_practice_95 : decode cX11_practice 95 = .ok (.iload 5, 2) := dX11_practice_95_a.1
theorem dX11_practice_97 : decode cX11_practice 97 = .ok (.istore 4, 2) := dX11_practice_95_a.2.1
theorem dX11_practice_99 : decode cX11_practice 99 = .ok (.iinc 5 1, 3) := dX11_practice_95_a.2.2.1
theorem dX11_practice_102 : decode cX11_practice 102 = .ok (.goto (-65), 3) := dX11_practice_95_a.2.2.2.1
theorem dX11_practice_105 : decode cX11_practice 105 = .ok (.iload 4, 2) := dX11_practice_95_a.2.2.2.2.1
theorem dX11_practice_107 : decode cX11_practice 107 = .ok (.iconst (-1), 1) := dX11_practice_95_a.2.2.2.2.2.1
theorem dX11_practice_108 : decode cX11_practice 108 = .ok (.if_icmp .ne 5, 3) := dX11_practice_95_a.2.2.2.2.2.2.1
theorem dX11_practice_111 : decode cX11_practice 111 = .ok (.iconst (-1), 1) := dX11_practice_95_a.2.2.2.2.2.2.2.1
theorem dX11_practice_112 : decode cX11_practice 112 = .ok (.ireturn, 1) := dX11_practice_95_a.2.2.2.2.2.2.2.2.1
theorem dX11_practice_113 : decode cX11_practice 113 = .ok (.iload_n 2, 1) := dX11_practice_95_a.2.2.2.2.2.2.2.2.2.1
theorem dX11_practice_114 : decode cX11_practice 114 = .ok (.ifCond .ne 7, 3) := dX11_practice_95_a.2.2.2.2.2.2.2.2.2.2.1
theorem dX11_practice_117 : decode cX11_practice 117 = .ok (.iload_n 3, 1) := dX11_practice_95_a.2.2.2.2.2.2.2.2.2.2.2.1
theorem dX11_practice_118 : decode cX11_practice 118 = .ok (.goto 5, 3) := dX11_practice_95_a.2.2.2.2.2.2.2.2.2.2.2.2.1
theorem dX11_practice_121 : decode cX11_practice 121 = .ok (.iload 4, 2) := dX11_practice_95_a.2.2.2.2.2.2.2.2.2.2.2.2.2.1
theorem dX11_practice_123 : decode cX11_practice 123 = .ok (.ireturn, 1) := dX11_practice_95_a.2.2.2.2.2.2.2.2.2.2.2.2.2.2
theorem dX11_pair_0_a : (decode cX11_pair 0 = .ok (.aload_n 0, 1)) ∧ (decode cX11_pair 1 = .ok (.getfield 33, 3)) ∧ (decode cX11_pair 4 = .ok (.iload_n 1, 1)) ∧ (decode cX11_pair 5 = .ok (.invokevirtual 149, 3)) ∧ (decode cX11_pair 8 = .ok (.ifCond .eq 12, 3)) ∧ (decode cX11_pair 11 = .ok (.iload_n 2, 1)) ∧ (decode cX11_pair 12 = .ok (.ifCond .lt 8, 3)) ∧ (decode cX11_pair 15 = .ok (.iload_n 2, 1)) ∧ (decode cX11_pair 16 = .ok (.iconst 1, 1)) ∧ (decode cX11_pair 17 = .ok (.if_icmp .le 6, 3)) ∧ (decode cX11_pair 20 = .ok (.bipush (-2), 2)) ∧ (decode cX11_pair 22 = .ok (.ireturn, 1)) ∧ (decode cX11_pair 23 = .ok (.aload_n 0, 1)) ∧ (decode cX11_pair 24 = .ok (.iload_n 1, 1)) ∧ (decode cX11_pair 25 = .ok (.invokevirtual 150, 3)) ∧ (decode cX11_pair 28 = .ok (.iconst (-1), 1)) := by decide +kernel
theorem dX11_pair_0 : decode cX11_pair 0 = .ok (.aload_n 0, 1) := dX11_pair_0_a.1
theorem dX11_pair_1 : decode cX11_pair 1 = .ok (.getfield 33, 3) := dX11_pair_0_a.2.1
theorem dX11_pair_4 : decode cX11_pair 4 = .ok (.iload_n 1, 1) := dX11_pair_0_a.2.2.1
theorem dX11_pair_5 : decode cX11_pair 5 = .ok (.invokevirtual 149, 3) := dX11_pair_0_a.2.2.2.1
theorem dX11_pair_8 : decode cX11_pair 8 = .ok (.ifCond .eq 12, 3) := dX11_pair_0_a.2.2.2.2.1
theorem dX11_pair_11 : decode cX11_pair 11 = .ok (.iload_n 2, 1) := dX11_pair_0_a.2.2.2.2.2.1
theorem dX11_pair_12 : decode cX11_pair 12 = .ok (.ifCond .lt 8, 3) := dX11_pair_0_a.2.2.2.2.2.2.1
theorem dX11_pair_15 : decode cX11_pair 15 = .ok (.iload_n 2, 1) := dX11_pair_0_a.2.2.2.2.2.2.2.1
theorem dX11_pair_16 : decode cX11_pair 16 = .ok (.iconst 1, 1) := dX11_pair_0_a.2.2.2.2.2.2.2.2.1
theorem dX11_pair_17 : decode cX11_pair 17 = .ok (.if_icmp .le 6, 3) := dX11_pair_0_a.2.2.2.2.2.2.2.2.2.1
theorem dX11_pair_20 : decode cX11_pair 20 = .ok (.bipush (-2), 2) := dX11_pair_0_a.2.2.2.2.2.2.2.2.2.2.1
theorem dX11_pair_22 : decode cX11_pair 22 = .ok (.ireturn, 1) := dX11_pair_0_a.2.2.2.2.2.2.2.2.2.2.2.1
theorem dX11_pair_23 : decode cX11_pair 23 = .ok (.aload_n 0, 1) := dX11_pair_0_a.2.2.2.2.2.2.2.2.2.2.2.2.1
theorem dX11_pair_24 : decode cX11_pair 24 = .ok (.iload_n 1, 1) := dX11_pair_0_a.2.2.2.2.2.2.2.2.2.2.2.2.2.1
theorem dX11_pair_25 : decode cX11_pair 25 = .ok (.invokevirtual 150, 3) := dX11_pair_0_a.2.2.2.2.2.2.2.2.2.2.2.2.2.2.1
theorem dX11_pair_28 : decode cX11_pair 28 = .ok (.iconst (-1), 1) := dX11_pair_0_a.2.2.2.2.2.2.2.2.2.2.2.2.2.2.2
theorem dX11_pair_29_a : (decode cX11_pair 29 = .ok (.istore_n 3, 1)) ∧ (decode cX11_pair 30 = .ok (.iconst (-1), 1)) ∧ (decode cX11_pair 31 = .ok (.istore 4, 2)) ∧ (decode cX11_pair 33 = .ok (.iconst 0, 1)) ∧ (decode cX11_pair 34 = .ok (.istore 5, 2)) ∧ (decode cX11_pair 36 = .ok (.iload 5, 2)) ∧ (decode cX11_pair 38 = .ok (.aload_n 0, 1)) ∧ (decode cX11_pair 39 = .ok (.getfield 26, 3)) ∧ (decode cX11_pair 42 = .ok (.getfield 185, 3)) ∧ (decode cX11_pair 45 = .ok (.if_icmp .ge 92, 3)) ∧ (decode cX11_pair 48 = .ok (.iconst 0, 1)) ∧ (decode cX11_pair 49 = .ok (.istore 6, 2)) ∧ (decode cX11_pair 51 = .ok (.iload 6, 2)) ∧ (decode cX11_pair 53 = .ok (.aload_n 0, 1)) ∧ (decode cX11_pair 54 = .ok (.getfield 26, 3)) ∧ (decode cX11_pair 57 = .ok (.getfield 185, 3)) := by decide +kernel
theorem dX11_pair_29 : decode cX11_pair 29 = .ok (.istore_n 3, 1) := dX11_pair_29_a.1
theorem dX11_pair_30 : decode cX11_pair 30 = .ok (.iconst (-1), 1) := dX11_pair_29_a.2.1
theorem dX11_pair_31 : decode cX11_pair 31 = .ok (.istore 4, 2) := dX11_pair_29_a.2.2.1
theorem dX11_pair_33 : decode cX11_pair 33 = .ok (.iconst 0, 1) := dX11_pair_29_a.2.2.2.1
theorem dX11_pair_34 : decode cX11_pair 34 = .ok (.istore 5, 2) := dX11_pair_29_a.2.2.2.2.1
theorem dX11_pair_36 : decode cX11_pair 36 = .ok (.iload 5, 2) := dX11_pair_29_a.2.2.2.2.2.1
theorem dX11_pair_38 : decode cX11_pair 38 = .ok (.aload_n 0, 1) := dX11_pair_29_a.2.2.2.2.2.2.1
theorem dX11_pair_39 : decode cX11_pair 39 = .ok (.getfield 26, 3) := dX11_pair_29_a.2.2.2.2.2.2.2.1
theorem dX11_pair_42 : decode cX11_pair 42 = .ok (.getfield 185, 3) := dX11_pair_29_a.2.2.2.2.2.2.2.2.1
theorem dX11_pair_45 : decode cX11_pair 45 = .ok (.if_icmp .ge 92, 3) := dX11_pair_29_a.2.2.2.2.2.2.2.2.2.1
theorem dX11_pair_48 : decode cX11_pair 48 = .ok (.iconst 0, 1) := dX11_pair_29_a.2.2.2.2.2.2.2.2.2.2.1
theorem dX11_pair_49 : decode cX11_pair 49 = .ok (.istore 6, 2) := dX11_pair_29_a.2.2.2.2.2.2.2.2.2.2.2.1
theorem dX11_pair_51 : decode cX11_pair 51 = .ok (.iload 6, 2) := dX11_pair_29_a.2.2.2.2.2.2.2.2.2.2.2.2.1
theorem dX11_pair_53 : decode cX11_pair 53 = .ok (.aload_n 0, 1) := dX11_pair_29_a.2.2.2.2.2.2.2.2.2.2.2.2.2.1
theorem dX11_pair_54 : decode cX11_pair 54 = .ok (.getfield 26, 3) := dX11_pair_29_a.2.2.2.2.2.2.2.2.2.2.2.2.2.2.1
theorem dX11_pair_57 : decode cX11_pair 57 = .ok (.getfield 185, 3) := dX11_pair_29_a.2.2.2.2.2.2.2.2.2.2.2.2.2.2.2
theorem dX11_pair_60_a : (decode cX11_pair 60 = .ok (.if_icmp .ge 71, 3)) ∧ (decode cX11_pair 63 = .ok (.iload 5, 2)) ∧ (decode cX11_pair 65 = .ok (.iload 6, 2)) ∧ (decode cX11_pair 67 = .ok (.if_icmp .eq 58, 3)) ∧ (decode cX11_pair 70 = .ok (.aload_n 0, 1)) ∧ (decode cX11_pair 71 = .ok (.getfield 42, 3)) ∧ (decode cX11_pair 74 = .ok (.aload_n 0, 1)) ∧ (decode cX11_pair 75 = .ok (.getfield 33, 3)) ∧ (decode cX11_pair 78 = .ok (.iload_n 1, 1)) ∧ (decode cX11_pair 79 = .ok (.invokevirtual 186, 3)) ∧ (decode cX11_pair 82 = .ok (.iload 5, 2)) ∧ (decode cX11_pair 84 = .ok (.iload 6, 2)) ∧ (decode cX11_pair 86 = .ok (.invokevirtual 189, 3)) ∧ (decode cX11_pair 89 = .ok (.aload_n 0, 1)) ∧ (decode cX11_pair 90 = .ok (.getfield 42, 3)) ∧ (decode cX11_pair 93 = .ok (.aload_n 0, 1)) := by decide +kernel
theorem dX11_pair_60 : decode cX11_pair 60 = .ok (.if_icmp .ge 71, 3) := dX11_pair_60_a.1
theorem dX11_pair_63 : decode cX11_pair 63 = .ok (.iload 5, 2) := dX11_pair_60_a.2.1
theorem dX11_pair_65 : decode cX11_pair 65 = .ok (.iload 6, 2) := dX11_pair_60_a.2.2.1
theorem dX11_pair_67 : decode cX11_pair 67 = .ok (.if_icmp .eq 58, 3) := dX11_pair_60_a.2.2.2.1
theorem dX11_pair_70 : decode cX11_pair 70 = .ok (.aload_n 0, 1) := dX11_pair_60_a.2.2.2.2.1
theorem dX11_pair_71 : decode cX11_pair 71 = .ok (.getfield 42, 3) := dX11_pair_60_a.2.2.2.2.2.1
theorem dX11_pair_74 : decode cX11_pair 74 = .ok (.aload_n 0, 1) := dX11_pair_60_a.2.2.2.2.2.2.1
theorem dX11_pair_75 : decode cX11_pair 75 = .ok (.getfield 33, 3) := dX11_pair_60_a.2.2.2.2.2.2.2.1
theorem dX11_pair_78 : decode cX11_pair 78 = .ok (.iload_n 1, 1) := dX11_pair_60_a.2.2.2.2.2.2.2.2.1
theorem dX11_pair_79 : decode cX11_pair 79 = .ok (.invokevirtual 186, 3) := dX11_pair_60_a.2.2.2.2.2.2.2.2.2.1
theorem dX11_pair_82 : decode cX11_pair 82 = .ok (.iload 5, 2) := dX11_pair_60_a.2.2.2.2.2.2.2.2.2.2.1
theorem dX11_pair_84 : decode cX11_pair 84 = .ok (.iload 6, 2) := dX11_pair_60_a.2.2.2.2.2.2.2.2.2.2.2.1
theorem dX11_pair_86 : decode cX11_pair 86 = .ok (.invokevirtual 189, 3) := dX11_pair_60_a.2.2.2.2.2.2.2.2.2.2.2.2.1
theorem dX11_pair_89 : decode cX11_pair 89 = .ok (.aload_n 0, 1) := dX11_pair_60_a.2.2.2.2.2.2.2.2.2.2.2.2.2.1
theorem dX11_pair_90 : decode cX11_pair 90 = .ok (.getfield 42, 3) := dX11_pair_60_a.2.2.2.2.2.2.2.2.2.2.2.2.2.2.1
theorem dX11_pair_93 : decode cX11_pair 93 = .ok (.aload_n 0, 1) := dX11_pair_60_a.2.2.2.2.2.2.2.2.2.2.2.2.2.2.2
theorem dX11_pair_94_a : (decode cX11_pair 94 = .ok (.getfield 33, 3)) ∧ (decode cX11_pair 97 = .ok (.iload_n 1, 1)) ∧ (decode cX11_pair 98 = .ok (.invokevirtual 153, 3)) ∧ (decode cX11_pair 101 = .ok (.invokevirtual 156, 3)) ∧ (decode cX11_pair 104 = .ok (.istore 7, 2)) ∧ (decode cX11_pair 106 = .ok (.iload 7, 2)) ∧ (decode cX11_pair 108 = .ok (.iload_n 3, 1)) ∧ (decode cX11_pair 109 = .ok (.if_icmp .le 16, 3)) ∧ (decode cX11_pair 112 = .ok (.iload 7, 2)) ∧ (decode cX11_pair 114 = .ok (.istore_n 3, 1)) ∧ (decode cX11_pair 115 = .ok (.bipush 8, 2)) ∧ (decode cX11_pair 117 = .ok (.iload 5, 2)) ∧ (decode cX11_pair 119 = .ok (.imul, 1)) ∧ (decode cX11_pair 120 = .ok (.iload 6, 2)) ∧ (decode cX11_pair 122 = .ok (.iadd, 1)) ∧ (decode cX11_pair 123 = .ok (.istore 4, 2)) := by decide +kernel
theorem dX11_pair_94 : decode cX11_pair 94 = .ok (.getfield 33, 3) := dX11_pair_94_a.1
theorem dX11_pair_97 : decode cX11_pair 97 = .ok (.iload_n 1, 1) := dX11_pair_94_a.2.1
theorem dX11_pair_98 : decode cX11_pair 98 = .ok (.invokevirtual 153, 3) := dX11_pair_94_a.2.2.1
theorem dX11_pair_101 : decode cX11_pair 101 = .ok (.invokevirtual 156, 3) := dX11_pair_94_a.2.2.2.1
theorem dX11_pair_104 : decode cX11_pair 104 = .ok (.istore 7, 2) := dX11_pair_94_a.2.2.2.2.1
theorem dX11_pair_106 : decode cX11_pair 106 = .ok (.iload 7, 2) := dX11_pair_94_a.2.2.2.2.2.1
theorem dX11_pair_108 : decode cX11_pair 108 = .ok (.iload_n 3, 1) := dX11_pair_94_a.2.2.2.2.2.2.1
theorem dX11_pair_109 : decode cX11_pair 109 = .ok (.if_icmp .le 16, 3) := dX11_pair_94_a.2.2.2.2.2.2.2.1
theorem dX11_pair_112 : decode cX11_pair 112 = .ok (.iload 7, 2) := dX11_pair_94_a.2.2.2.2.2.2.2.2.1
theorem dX11_pair_114 : decode cX11_pair 114 = .ok (.istore_n 3, 1) := dX11_pair_94_a.2.2.2.2.2.2.2.2.2.1
theorem dX11_pair_115 : decode cX11_pair 115 = .ok (.bipush 8, 2) := dX11_pair_94_a.2.2.2.2.2.2.2.2.2.2.1
theorem dX11_pair_117 : decode cX11_pair 117 = .ok (.iload 5, 2) := dX11_pair_94_a.2.2.2.2.2.2.2.2.2.2.2.1
theorem dX11_pair_119 : decode cX11_pair 119 = .ok (.imul, 1) := dX11_pair_94_a.2.2.2.2.2.2.2.2.2.2.2.2.1
theorem dX11_pair_120 : decode cX11_pair 120 = .ok (.iload 6, 2) := dX11_pair_94_a.2.2.2.2.2.2.2.2.2.2.2.2.2.1
theorem dX11_pair_122 : decode cX11_pair 122 = .ok (.iadd, 1) := dX11_pair_94_a.2.2.2.2.2.2.2.2.2.2.2.2.2.2.1
theorem dX11_pair_123 : decode cX11_pair 123 = .ok (.istore 4, 2) := dX11_pair_94_a.2.2.2.2.2.2.2.2.2.2.2.2.2.2.2
theorem dX11_pair_125_a : (decode cX11_pair 125 = .ok (.iinc 6 1, 3)) ∧ (decode cX11_pair 128 = .ok (.goto (-77), 3)) ∧ (decode cX11_pair 131 = .ok (.iinc 5 1, 3)) ∧ (decode cX11_pair 134 = .ok (.goto (-98), 3)) ∧ (decode cX11_pair 137 = .ok (.iload_n 2, 1)) ∧ (decode cX11_pair 138 = .ok (.ifCond .ne 8, 3)) ∧ (decode cX11_pair 141 = .ok (.iload 4, 2)) ∧ (decode cX11_pair 143 = .ok (.goto 4, 3)) ∧ (decode cX11_pair 146 = .ok (.iload_n 3, 1)) ∧ (decode cX11_pair 147 = .ok (.ireturn, 1)) := by decide +kernel
theorem dX11_pair_125 : decode cX11_pair 125 = .ok (.iinc 6 1, 3) := dX11_pair_125_a.1
theorem dX11_pair_128 : decode cX11_pair 128 = .ok (.goto (-77), 3) := dX11_pair_125_a.2.1
theorem dX11_pair_131 : decode cX11_pair 131 = .ok (.iinc 5 1, 3) := dX11_pair_125_a.2.2.1
theorem dX11_pair_134 : decode cX11_pair 134 = .ok (.goto (-98), 3) := dX11_pair_125_a.2.2.2.1
theorem dX11_pair_137 : decode cX11_pair 137 = .ok (.iload_n 2, 1) := dX11_pair_125_a.2.2.2.2.1
theorem dX11_pair_138 : decode cX11_pair 138 = .ok (.ifCond .ne 8, 3) := dX11_pair_125_a.2.2.2.2.2.1
theorem dX11_pair_141 : decode cX11_pair 141 = .ok (.iload 4, 2) := dX11_pair_125_a.2.2.2.2.2.2.1
theorem dX11_pair_143 : decode cX11_pair 143 = .ok (.goto 4, 3) := dX11_pair_125_a.2.2.2.2.2.2.2.1
theorem dX11_pair_146 : decode cX11_pair 146 = .ok (.iload_n 3, 1) := dX11_pair_125_a.2.2.2.2.2.2.2.2.1
theorem dX11_pair_147 : decode cX11_pair 147 = .ok (.ireturn, 1) := dX11_pair_125_a.2.2.2.2.2.2.2.2.2
theorem dX11_seen_0_a : (decode cX11_seen 0 = .ok (.iload_n 1, 1)) ∧ (decode cX11_seen 1 = .ok (.ifCond .lt 19, 3)) ∧ (decode cX11_seen 4 = .ok (.iload_n 1, 1)) ∧ (decode cX11_seen 5 = .ok (.bipush 8, 2)) ∧ (decode cX11_seen 7 = .ok (.if_icmp .ge 13, 3)) ∧ (decode cX11_seen 10 = .ok (.iload_n 2, 1)) ∧ (decode cX11_seen 11 = .ok (.ifCond .lt 9, 3)) ∧ (decode cX11_seen 14 = .ok (.iload_n 2, 1)) ∧ (decode cX11_seen 15 = .ok (.bipush 24, 2)) ∧ (decode cX11_seen 17 = .ok (.if_icmp .le 6, 3)) ∧ (decode cX11_seen 20 = .ok (.bipush (-2), 2)) ∧ (decode cX11_seen 22 = .ok (.ireturn, 1)) ∧ (decode cX11_seen 23 = .ok (.aload_n 0, 1)) ∧ (decode cX11_seen 24 = .ok (.getfield 193, 3)) ∧ (decode cX11_seen 27 = .ok (.ifCond .lt 12, 3)) ∧ (decode cX11_seen 30 = .ok (.aload_n 0, 1)) := by decide +kernel
theorem dX11_seen_0 : decode cX11_seen 0 = .ok (.iload_n 1, 1) := dX11_seen_0_a.1
theorem dX11_seen_1 : decode cX11_seen 1 = .ok (.ifCond .lt 19, 3) := dX11_seen_0_a.2.1
theorem dX11_seen_4 : decode cX11_seen 4 = .ok (.iload_n 1, 1) := dX11_seen_0_a.2.2.1
theorem dX11_seen_5 : decode cX11_seen 5 = .ok (.bipush 8, 2) := dX11_seen_0_a.2.2.2.1
theorem dX11_seen_7 : decode cX11_seen 7 = .ok (.if_icmp .ge 13, 3) := dX11_seen_0_a.2.2.2.2.1
theorem dX11_seen_10 : decode cX11_seen 10 = .ok (.iload_n 2, 1) := dX11_seen_0_a.2.2.2.2.2.1
theorem dX11_seen_11 : decode cX11_seen 11 = .ok (.ifCond .lt 9, 3) := dX11_seen_0_a.2.2.2.2.2.2.1
theorem dX11_seen_14 : decode cX11_seen 14 = .ok (.iload_n 2, 1) := dX11_seen_0_a.2.2.2.2.2.2.2.1
theorem dX11_seen_15 : decode cX11_seen 15 = .ok (.bipush 24, 2) := dX11_seen_0_a.2.2.2.2.2.2.2.2.1
theorem dX11_seen_17 : decode cX11_seen 17 = .ok (.if_icmp .le 6, 3) := dX11_seen_0_a.2.2.2.2.2.2.2.2.2.1
theorem dX11_seen_20 : decode cX11_seen 20 = .ok (.bipush (-2), 2) := dX11_seen_0_a.2.2.2.2.2.2.2.2.2.2.1
theorem dX11_seen_22 : decode cX11_seen 22 = .ok (.ireturn, 1) := dX11_seen_0_a.2.2.2.2.2.2.2.2.2.2.2.1
theorem dX11_seen_23 : decode cX11_seen 23 = .ok (.aload_n 0, 1) := dX11_seen_0_a.2.2.2.2.2.2.2.2.2.2.2.2.1
theorem dX11_seen_24 : decode cX11_seen 24 = .ok (.getfield 193, 3) := dX11_seen_0_a.2.2.2.2.2.2.2.2.2.2.2.2.2.1
theorem dX11_seen_27 : decode cX11_seen 27 = .ok (.ifCond .lt 12, 3) := dX11_seen_0_a.2.2.2.2.2.2.2.2.2.2.2.2.2.2.1
theorem dX11_seen_30 : decode cX11_seen 30 = .ok (.aload_n 0, 1) := dX11_seen_0_a.2.2.2.2.2.2.2.2.2.2.2.2.2.2.2
theorem dX11_seen_31_a : (decode cX11_seen 31 = .ok (.getfield 193, 3)) ∧ (decode cX11_seen 34 = .ok (.bipush 8, 2)) ∧ (decode cX11_seen 36 = .ok (.if_icmp .lt 6, 3)) ∧ (decode cX11_seen 39 = .ok (.bipush (-4), 2)) ∧ (decode cX11_seen 41 = .ok (.ireturn, 1)) ∧ (decode cX11_seen 42 = .ok (.aload_n 0, 1)) ∧ (decode cX11_seen 43 = .ok (.getfield 67, 3)) ∧ (decode cX11_seen 46 = .ok (.aload_n 0, 1)) ∧ (decode cX11_seen 47 = .ok (.getfield 193, 3)) ∧ (decode cX11_seen 50 = .ok (.iload_n 1, 1)) ∧ (decode cX11_seen 51 = .ok (.iastore, 1)) ∧ (decode cX11_seen 52 = .ok (.aload_n 0, 1)) ∧ (decode cX11_seen 53 = .ok (.getfield 71, 3)) ∧ (decode cX11_seen 56 = .ok (.aload_n 0, 1)) ∧ (decode cX11_seen 57 = .ok (.getfield 193, 3)) ∧ (decode cX11_seen 60 = .ok (.iload_n 2, 1)) := by decide +kernel
theorem dX11_seen_31 : decode cX11_seen 31 = .ok (.getfield 193, 3) := dX11_seen_31_a.1
theorem dX11_seen_34 : decode cX11_seen 34 = .ok (.bipush 8, 2) := dX11_seen_31_a.2.1
theorem dX11_seen_36 : decode cX11_seen 36 = .ok (.if_icmp .lt 6, 3) := dX11_seen_31_a.2.2.1
theorem dX11_seen_39 : decode cX11_seen 39 = .ok (.bipush (-4), 2) := dX11_seen_31_a.2.2.2.1
theorem dX11_seen_41 : decode cX11_seen 41 = .ok (.ireturn, 1) := dX11_seen_31_a.2.2.2.2.1
theorem dX11_seen_42 : decode cX11_seen 42 = .ok (.aload_n 0, 1) := dX11_seen_31_a.2.2.2.2.2.1
theorem dX11_seen_43 : decode cX11_seen 43 = .ok (.getfield 67, 3) := dX11_seen_31_a.2.2.2.2.2.2.1
theorem dX11_seen_46 : decode cX11_seen 46 = .ok (.aload_n 0, 1) := dX11_seen_31_a.2.2.2.2.2.2.2.1
theorem dX11_seen_47 : decode cX11_seen 47 = .ok (.getfield 193, 3) := dX11_seen_31_a.2.2.2.2.2.2.2.2.1
theorem dX11_seen_50 : decode cX11_seen 50 = .ok (.iload_n 1, 1) := dX11_seen_31_a.2.2.2.2.2.2.2.2.2.1
theorem dX11_seen_51 : decode cX11_seen 51 = .ok (.iastore, 1) := dX11_seen_31_a.2.2.2.2.2.2.2.2.2.2.1
theorem dX11_seen_52 : decode cX11_seen 52 = .ok (.aload_n 0, 1) := dX11_seen_31_a.2.2.2.2.2.2.2.2.2.2.2.1
theorem dX11_seen_53 : decode cX11_seen 53 = .ok (.getfield 71, 3) := dX11_seen_31_a.2.2.2.2.2.2.2.2.2.2.2.2.1
theorem dX11_seen_56 : decode cX11_seen 56 = .ok (.aload_n 0, 1) := dX11_seen_31_a.2.2.2.2.2.2.2.2.2.2.2.2.2.1
theorem dX11_seen_57 : decode cX11_seen 57 = .ok (.getfield 193, 3) := dX11_seen_31_a.2.2.2.2.2.2.2.2.2.2.2.2.2.2.1
theorem dX11_seen_60 : decode cX11_seen 60 = .ok (.iload_n 2, 1) := dX11_seen_31_a.2.2.2.2.2.2.2.2.2.2.2.2.2.2.2
theorem dX11_seen_61_a : (decode cX11_seen 61 = .ok (.iastore, 1)) ∧ (decode cX11_seen 62 = .ok (.aload_n 0, 1)) ∧ (decode cX11_seen 63 = .ok (.dup, 1)) ∧ (decode cX11_seen 64 = .ok (.getfield 193, 3)) ∧ (decode cX11_seen 67 = .ok (.iconst 1, 1)) ∧ (decode cX11_seen 68 = .ok (.iadd, 1)) ∧ (decode cX11_seen 69 = .ok (.putfield 193, 3)) ∧ (decode cX11_seen 72 = .ok (.aload_n 0, 1)) ∧ (decode cX11_seen 73 = .ok (.getfield 193, 3)) ∧ (decode cX11_seen 76 = .ok (.ireturn, 1)) := by decide +kernel
theorem dX11_seen_61 : decode cX11_seen 61 = .ok (.iastore, 1) := dX11_seen_61_a.1
theorem dX11_seen_62 : decode cX11_seen 62 = .ok (.aload_n 0, 1) := dX11_seen_61_a.2.1
theorem dX11_seen_63 : decode cX11_seen 63 = .ok (.dup, 1) := dX11_seen_61_a.2.2.1
theorem dX11_seen_64 : decode cX11_seen 64 = .ok (.getfield 193, 3) := dX11_seen_61_a.2.2.2.1
theorem dX11_seen_67 : decode cX11_seen 67 = .ok (.iconst 1, 1) := dX11_seen_61_a.2.2.2.2.1
theorem dX11_seen_68 : decode cX11_seen 68 = .ok (.iadd, 1) := dX11_seen_61_a.2.2.2.2.2.1
theorem dX11_seen_69 : decode cX11_seen 69 = .ok (.putfield 193, 3) := dX11_seen_61_a.2.2.2.2.2.2.1
theorem dX11_seen_72 : decode cX11_seen 72 = .ok (.aload_n 0, 1) := dX11_seen_61_a.2.2.2.2.2.2.2.1
theorem dX11_seen_73 : decode cX11_seen 73 = .ok (.getfield 193, 3) := dX11_seen_61_a.2.2.2.2.2.2.2.2.1
theorem dX11_seen_76 : decode cX11_seen 76 = .ok (.ireturn, 1) := dX11_seen_61_a.2.2.2.2.2.2.2.2.2
theorem dX11_forget_0_a : (decode cX11_forget 0 = .ok (.aload_n 0, 1)) ∧ (decode cX11_forget 1 = .ok (.getfield 193, 3)) ∧ (decode cX11_forget 4 = .ok (.istore_n 1, 1)) ∧ (decode cX11_forget 5 = .ok (.aload_n 0, 1)) ∧ (decode cX11_forget 6 = .ok (.iconst 0, 1)) ∧ (decode cX11_forget 7 = .ok (.putfield 193, 3)) ∧ (decode cX11_forget 10 = .ok (.iload_n 1, 1)) ∧ (decode cX11_forget 11 = .ok (.ireturn, 1)) := by decide +kernel
theorem dX11_forget_0 : decode cX11_forget 0 = .ok (.aload_n 0, 1) := dX11_forget_0_a.1
theorem dX11_forget_1 : decode cX11_forget 1 = .ok (.getfield 193, 3) := dX11_forget_0_a.2.1
theorem dX11_forget_4 : decode cX11_forget 4 = .ok (.istore_n 1, 1) := dX11_forget_0_a.2.2.1
theorem dX11_forget_5 : decode cX11_forget 5 = .ok (.aload_n 0, 1) := dX11_forget_0_a.2.2.2.1
theorem dX11_forget_6 : decode cX11_forget 6 = .ok (.iconst 0, 1) := dX11_forget_0_a.2.2.2.2.1
theorem dX11_forget_7 : decode cX11_forget 7 = .ok (.putfield 193, 3) := dX11_forget_0_a.2.2.2.2.2.1
theorem dX11_forget_10 : decode cX11_forget 10 = .ok (.iload_n 1, 1) := dX11_forget_0_a.2.2.2.2.2.2.1
theorem dX11_forget_11 : decode cX11_forget 11 = .ok (.ireturn, 1) := dX11_forget_0_a.2.2.2.2.2.2.2
theorem dX11_sores_0_a : (decode cX11_sores 0 = .ok (.aload_n 0, 1)) ∧ (decode cX11_sores 1 = .ok (.getfield 19, 3)) ∧ (decode cX11_sores 4 = .ok (.iload_n 1, 1)) ∧ (decode cX11_sores 5 = .ok (.invokevirtual 115, 3)) ∧ (decode cX11_sores 8 = .ok (.ifCond .ne 6, 3)) ∧ (decode cX11_sores 11 = .ok (.bipush (-2), 2)) ∧ (decode cX11_sores 13 = .ok (.ireturn, 1)) ∧ (decode cX11_sores 14 = .ok (.iconst 0, 1)) ∧ (decode cX11_sores 15 = .ok (.istore_n 2, 1)) ∧ (decode cX11_sores 16 = .ok (.iconst 0, 1)) ∧ (decode cX11_sores 17 = .ok (.istore_n 3, 1)) ∧ (decode cX11_sores 18 = .ok (.iload_n 3, 1)) ∧ (decode cX11_sores 19 = .ok (.bipush 6, 2)) ∧ (decode cX11_sores 21 = .ok (.if_icmp .ge 26, 3)) ∧ (decode cX11_sores 24 = .ok (.aload_n 0, 1)) ∧ (decode cX11_sores 25 = .ok (.iload_n 1, 1)) := by decide +kernel
theorem dX11_sores_0 : decode cX11_sores 0 = .ok (.aload_n 0, 1) := dX11_sores_0_a.1
theorem dX11_sores_1 : decode cX11_sores 1 = .ok (.getfield 19, 3) := dX11_sores_0_a.2.1
theorem dX11_sores_4 : decode cX11_sores 4 = .ok (.iload_n 1, 1) := dX11_sores_0_a.2.2.1
theorem dX11_sores_5 : decode cX11_sores 5 = .ok (.invokevirtual 115, 3) := dX11_sores_0_a.2.2.2.1
theorem dX11_sores_8 : decode cX11_sores 8 = .ok (.ifCond .ne 6, 3) := dX11_sores_0_a.2.2.2.2.1
theorem dX11_sores_11 : decode cX11_sores 11 = .ok (.bipush (-2), 2) := dX11_sores_0_a.2.2.2.2.2.1
theorem dX11_sores_13 : decode cX11_sores 13 = .ok (.ireturn, 1) := dX11_sores_0_a.2.2.2.2.2.2.1
theorem dX11_sores_14 : decode cX11_sores 14 = .ok (.iconst 0, 1) := dX11_sores_0_a.2.2.2.2.2.2.2.1
theorem dX11_sores_15 : decode cX11_sores 15 = .ok (.istore_n 2, 1) := dX11_sores_0_a.2.2.2.2.2.2.2.2.1
theorem dX11_sores_16 : decode cX11_sores 16 = .ok (.iconst 0, 1) := dX11_sores_0_a.2.2.2.2.2.2.2.2.2.1
theorem dX11_sores_17 : decode cX11_sores 17 = .ok (.istore_n 3, 1) := dX11_sores_0_a.2.2.2.2.2.2.2.2.2.2.1
theorem dX11_sores_18 : decode cX11_sores 18 = .ok (.iload_n 3, 1) := dX11_sores_0_a.2.2.2.2.2.2.2.2.2.2.2.1
theorem dX11_sores_19 : decode cX11_sores 19 = .ok (.bipush 6, 2) := dX11_sores_0_a.2.2.2.2.2.2.2.2.2.2.2.2.1
theorem dX11_sores_21 : decode cX11_sores 21 = .ok (.if_icmp .ge 26, 3) := dX11_sores_0_a.2.2.2.2.2.2.2.2.2.2.2.2.2.1
theorem dX11_sores_24 : decode cX11_sores 24 = .ok (.aload_n 0, 1) := dX11_sores_0_a.2.2.2.2.2.2.2.2.2.2.2.2.2.2.1
theorem dX11_sores_25 : decode cX11_sores 25 = .ok (.iload_n 1, 1) := dX11_sores_0_a.2.2.2.2.2.2.2.2.2.2.2.2.2.2.2
theorem dX11_sores_26_a : (decode cX11_sores 26 = .ok (.iload_n 3, 1)) ∧ (decode cX11_sores 27 = .ok (.iconst (-1), 1)) ∧ (decode cX11_sores 28 = .ok (.iconst (-1), 1)) ∧ (decode cX11_sores 29 = .ok (.invokevirtual 196, 3)) ∧ (decode cX11_sores 32 = .ok (.ifCond .eq 9, 3)) ∧ (decode cX11_sores 35 = .ok (.iload_n 2, 1)) ∧ (decode cX11_sores 36 = .ok (.iconst 1, 1)) ∧ (decode cX11_sores 37 = .ok (.iload_n 3, 1)) ∧ (decode cX11_sores 38 = .ok (.ishl, 1)) ∧ (decode cX11_sores 39 = .ok (.ior, 1)) ∧ (decode cX11_sores 40 = .ok (.istore_n 2, 1)) ∧ (decode cX11_sores 41 = .ok (.iinc 3 1, 3)) ∧ (decode cX11_sores 44 = .ok (.goto (-26), 3)) ∧ (decode cX11_sores 47 = .ok (.iload_n 2, 1)) ∧ (decode cX11_sores 48 = .ok (.ireturn, 1)) := by decide +kernel
theorem dX11_sores_26 : decode cX11_sores 26 = .ok (.iload_n 3, 1) := dX11_sores_26_a.1
theorem dX11_sores_27 : decode cX11_sores 27 = .ok (.iconst (-1), 1) := dX11_sores_26_a.2.1
theorem dX11_sores_28 : decode cX11_sores 28 = .ok (.iconst (-1), 1) := dX11_sores_26_a.2.2.1
theorem dX11_sores_29 : decode cX11_sores 29 = .ok (.invokevirtual 196, 3) := dX11_sores_26_a.2.2.2.1
theorem dX11_sores_32 : decode cX11_sores 32 = .ok (.ifCond .eq 9, 3) := dX11_sores_26_a.2.2.2.2.1
theorem dX11_sores_35 : decode cX11_sores 35 = .ok (.iload_n 2, 1) := dX11_sores_26_a.2.2.2.2.2.1
theorem dX11_sores_36 : decode cX11_sores 36 = .ok (.iconst 1, 1) := dX11_sores_26_a.2.2.2.2.2.2.1
theorem dX11_sores_37 : decode cX11_sores 37 = .ok (.iload_n 3, 1) := dX11_sores_26_a.2.2.2.2.2.2.2.1
theorem dX11_sores_38 : decode cX11_sores 38 = .ok (.ishl, 1) := dX11_sores_26_a.2.2.2.2.2.2.2.2.1
theorem dX11_sores_39 : decode cX11_sores 39 = .ok (.ior, 1) := dX11_sores_26_a.2.2.2.2.2.2.2.2.2.1
theorem dX11_sores_40 : decode cX11_sores 40 = .ok (.istore_n 2, 1) := dX11_sores_26_a.2.2.2.2.2.2.2.2.2.2.1
theorem dX11_sores_41 : decode cX11_sores 41 = .ok (.iinc 3 1, 3) := dX11_sores_26_a.2.2.2.2.2.2.2.2.2.2.2.1
theorem dX11_sores_44 : decode cX11_sores 44 = .ok (.goto (-26), 3) := dX11_sores_26_a.2.2.2.2.2.2.2.2.2.2.2.2.1
theorem dX11_sores_47 : decode cX11_sores 47 = .ok (.iload_n 2, 1) := dX11_sores_26_a.2.2.2.2.2.2.2.2.2.2.2.2.2.1
theorem dX11_sores_48 : decode cX11_sores 48 = .ok (.ireturn, 1) := dX11_sores_26_a.2.2.2.2.2.2.2.2.2.2.2.2.2.2
theorem dX11_high_0_a : (decode cX11_high 0 = .ok (.aload_n 0, 1)) ∧ (decode cX11_high 1 = .ok (.getfield 33, 3)) ∧ (decode cX11_high 4 = .ok (.iload_n 1, 1)) ∧ (decode cX11_high 5 = .ok (.invokevirtual 149, 3)) ∧ (decode cX11_high 8 = .ok (.ifCond .ne 6, 3)) ∧ (decode cX11_high 11 = .ok (.bipush (-2), 2)) ∧ (decode cX11_high 13 = .ok (.ireturn, 1)) ∧ (decode cX11_high 14 = .ok (.iconst 0, 1)) ∧ (decode cX11_high 15 = .ok (.istore_n 2, 1)) ∧ (decode cX11_high 16 = .ok (.iconst 1, 1)) ∧ (decode cX11_high 17 = .ok (.istore_n 3, 1)) ∧ (decode cX11_high 18 = .ok (.iload_n 3, 1)) ∧ (decode cX11_high 19 = .ok (.bipush 9, 2)) ∧ (decode cX11_high 21 = .ok (.if_icmp .gt 26, 3)) ∧ (decode cX11_high 24 = .ok (.aload_n 0, 1)) ∧ (decode cX11_high 25 = .ok (.iconst (-1), 1)) := by decide +kernel
theorem dX11_high_0 : decode cX11_high 0 = .ok (.aload_n 0, 1) := dX11_high_0_a.1
theorem dX11_high_1 : decode cX11_high 1 = .ok (.getfield 33, 3) := dX11_high_0_a.2.1
theorem dX11_high_4 : decode cX11_high 4 = .ok (.iload_n 1, 1) := dX11_high_0_a.2.2.1
theorem dX11_high_5 : decode cX11_high 5 = .ok (.invokevirtual 149, 3) := dX11_high_0_a.2.2.2.1
theorem dX11_high_8 : decode cX11_high 8 = .ok (.ifCond .ne 6, 3) := dX11_high_0_a.2.2.2.2.1
theorem dX11_high_11 : decode cX11_high 11 = .ok (.bipush (-2), 2) := dX11_high_0_a.2.2.2.2.2.1
theorem dX11_high_13 : decode cX11_high 13 = .ok (.ireturn, 1) := dX11_high_0_a.2.2.2.2.2.2.1
theorem dX11_high_14 : decode cX11_high 14 = .ok (.iconst 0, 1) := dX11_high_0_a.2.2.2.2.2.2.2.1
theorem dX11_high_15 : decode cX11_high 15 = .ok (.istore_n 2, 1) := dX11_high_0_a.2.2.2.2.2.2.2.2.1
theorem dX11_high_16 : decode cX11_high 16 = .ok (.iconst 1, 1) := dX11_high_0_a.2.2.2.2.2.2.2.2.2.1
theorem dX11_high_17 : decode cX11_high 17 = .ok (.istore_n 3, 1) := dX11_high_0_a.2.2.2.2.2.2.2.2.2.2.1
theorem dX11_high_18 : decode cX11_high 18 = .ok (.iload_n 3, 1) := dX11_high_0_a.2.2.2.2.2.2.2.2.2.2.2.1
theorem dX11_high_19 : decode cX11_high 19 = .ok (.bipush 9, 2) := dX11_high_0_a.2.2.2.2.2.2.2.2.2.2.2.2.1
theorem dX11_high_21 : decode cX11_high 21 = .ok (.if_icmp .gt 26, 3) := dX11_high_0_a.2.2.2.2.2.2.2.2.2.2.2.2.2.1
theorem dX11_high_24 : decode cX11_high 24 = .ok (.aload_n 0, 1) := dX11_high_0_a.2.2.2.2.2.2.2.2.2.2.2.2.2.2.1
theorem dX11_high_25 : decode cX11_high 25 = .ok (.iconst (-1), 1) := dX11_high_0_a.2.2.2.2.2.2.2.2.2.2.2.2.2.2.2
theorem dX11_high_26_a : (decode cX11_high 26 = .ok (.iconst (-1), 1)) ∧ (decode cX11_high 27 = .ok (.iload_n 1, 1)) ∧ (decode cX11_high 28 = .ok (.iload_n 3, 1)) ∧ (decode cX11_high 29 = .ok (.invokevirtual 196, 3)) ∧ (decode cX11_high 32 = .ok (.ifCond .eq 9, 3)) ∧ (decode cX11_high 35 = .ok (.iload_n 2, 1)) ∧ (decode cX11_high 36 = .ok (.iconst 1, 1)) ∧ (decode cX11_high 37 = .ok (.iload_n 3, 1)) ∧ (decode cX11_high 38 = .ok (.ishl, 1)) ∧ (decode cX11_high 39 = .ok (.ior, 1)) ∧ (decode cX11_high 40 = .ok (.istore_n 2, 1)) ∧ (decode cX11_high 41 = .ok (.iinc 3 1, 3)) ∧ (decode cX11_high 44 = .ok (.goto (-26), 3)) ∧ (decode cX11_high 47 = .ok (.iload_n 2, 1)) ∧ (decode cX11_high 48 = .ok (.ireturn, 1)) := by decide +kernel
theorem dX11_high_26 : decode cX11_high 26 = .ok (.iconst (-1), 1) := dX11_high_26_a.1
theorem dX11_high_27 : decode cX11_high 27 = .ok (.iload_n 1, 1) := dX11_high_26_a.2.1
theorem dX11_high_28 : decode cX11_high 28 = .ok (.iload_n 3, 1) := dX11_high_26_a.2.2.1
theorem dX11_high_29 : decode cX11_high 29 = .ok (.invokevirtual 196, 3) := dX11_high_26_a.2.2.2.1
theorem dX11_high_32 : decode cX11_high 32 = .ok (.ifCond .eq 9, 3) := dX11_high_26_a.2.2.2.2.1
theorem dX11_high_35 : decode cX11_high 35 = .ok (.iload_n 2, 1) := dX11_high_26_a.2.2.2.2.2.1
theorem dX11_high_36 : decode cX11_high 36 = .ok (.iconst 1, 1) := dX11_high_26_a.2.2.2.2.2.2.1
theorem dX11_high_37 : decode cX11_high 37 = .ok (.iload_n 3, 1) := dX11_high_26_a.2.2.2.2.2.2.2.1
theorem dX11_high_38 : decode cX11_high 38 = .ok (.ishl, 1) := dX11_high_26_a.2.2.2.2.2.2.2.2.1
theorem dX11_high_39 : decode cX11_high 39 = .ok (.ior, 1) := dX11_high_26_a.2.2.2.2.2.2.2.2.2.1
theorem dX11_high_40 : decode cX11_high 40 = .ok (.istore_n 2, 1) := dX11_high_26_a.2.2.2.2.2.2.2.2.2.2.1
theorem dX11_high_41 : decode cX11_high 41 = .ok (.iinc 3 1, 3) := dX11_high_26_a.2.2.2.2.2.2.2.2.2.2.2.1
theorem dX11_high_44 : decode cX11_high 44 = .ok (.goto (-26), 3) := dX11_high_26_a.2.2.2.2.2.2.2.2.2.2.2.2.1
theorem dX11_high_47 : decode cX11_high 47 = .ok (.iload_n 2, 1) := dX11_high_26_a.2.2.2.2.2.2.2.2.2.2.2.2.2.1
theorem dX11_high_48 : decode cX11_high 48 = .ok (.ireturn, 1) := dX11_high_26_a.2.2.2.2.2.2.2.2.2.2.2.2.2.2
theorem dX11_ask_0_a : (decode cX11_ask 0 = .ok (.aload_n 0, 1)) ∧ (decode cX11_ask 1 = .ok (.getfield 19, 3)) ∧ (decode cX11_ask 4 = .ok (.iload_n 1, 1)) ∧ (decode cX11_ask 5 = .ok (.invokevirtual 115, 3)) ∧ (decode cX11_ask 8 = .ok (.ifCond .ne 6, 3)) ∧ (decode cX11_ask 11 = .ok (.bipush (-2), 2)) ∧ (decode cX11_ask 13 = .ok (.ireturn, 1)) ∧ (decode cX11_ask 14 = .ok (.aload_n 0, 1)) ∧ (decode cX11_ask 15 = .ok (.iload_n 1, 1)) ∧ (decode cX11_ask 16 = .ok (.invokevirtual 200, 3)) ∧ (decode cX11_ask 19 = .ok (.istore_n 2, 1)) ∧ (decode cX11_ask 20 = .ok (.iconst (-1), 1)) ∧ (decode cX11_ask 21 = .ok (.istore_n 3, 1)) ∧ (decode cX11_ask 22 = .ok (.bipush 7, 2)) ∧ (decode cX11_ask 24 = .ok (.istore 4, 2)) ∧ (decode cX11_ask 26 = .ok (.iconst 0, 1)) := by decide +kernel
theorem dX11_ask_0 : decode cX11_ask 0 = .ok (.aload_n 0, 1) := dX11_ask_0_a.1
theorem dX11_ask_1 : decode cX11_ask 1 = .ok (.getfield 19, 3) := dX11_ask_0_a.2.1
theorem dX11_ask_4 : decode cX11_ask 4 = .ok (.iload_n 1, 1) := dX11_ask_0_a.2.2.1
theorem dX11_ask_5 : decode cX11_ask 5 = .ok (.invokevirtual 115, 3) := dX11_ask_0_a.2.2.2.1
theorem dX11_ask_8 : decode cX11_ask 8 = .ok (.ifCond .ne 6, 3) := dX11_ask_0_a.2.2.2.2.1
theorem dX11_ask_11 : decode cX11_ask 11 = .ok (.bipush (-2), 2) := dX11_ask_0_a.2.2.2.2.2.1
theorem dX11_ask_13 : decode cX11_ask 13 = .ok (.ireturn, 1) := dX11_ask_0_a.2.2.2.2.2.2.1
theorem dX11_ask_14 : decode cX11_ask 14 = .ok (.aload_n 0, 1) := dX11_ask_0_a.2.2.2.2.2.2.2.1
theorem dX11_ask_15 : decode cX11_ask 15 = .ok (.iload_n 1, 1) := dX11_ask_0_a.2.2.2.2.2.2.2.2.1
theorem dX11_ask_16 : decode cX11_ask 16 = .ok (.invokevirtual 200, 3) := dX11_ask_0_a.2.2.2.2.2.2.2.2.2.1
theorem dX11_ask_19 : decode cX11_ask 19 = .ok (.istore_n 2, 1) := dX11_ask_0_a.2.2.2.2.2.2.2.2.2.2.1
theorem dX11_ask_20 : decode cX11_ask 20 = .ok (.iconst (-1), 1) := dX11_ask_0_a.2.2.2.2.2.2.2.2.2.2.2.1
theorem dX11_ask_21 : decode cX11_ask 21 = .ok (.istore_n 3, 1) := dX11_ask_0_a.2.2.2.2.2.2.2.2.2.2.2.2.1
theorem dX11_ask_22 : decode cX11_ask 22 = .ok (.bipush 7, 2) := dX11_ask_0_a.2.2.2.2.2.2.2.2.2.2.2.2.2.1
theorem dX11_ask_24 : decode cX11_ask 24 = .ok (.istore 4, 2) := dX11_ask_0_a.2.2.2.2.2.2.2.2.2.2.2.2.2.2.1
theorem dX11_ask_26 : decode cX11_ask 26 = .ok (.iconst 0, 1) := dX11_ask_0_a.2.2.2.2.2.2.2.2.2.2.2.2.2.2.2
theorem dX11_ask_27_a : (decode cX11_ask 27 = .ok (.istore 5, 2)) ∧ (decode cX11_ask 29 = .ok (.iload 5, 2)) ∧ (decode cX11_ask 31 = .ok (.aload_n 0, 1)) ∧ (decode cX11_ask 32 = .ok (.getfield 33, 3)) ∧ (decode cX11_ask 35 = .ok (.getfield 128, 3)) ∧ (decode cX11_ask 38 = .ok (.if_icmp .ge 33, 3)) ∧ (decode cX11_ask 41 = .ok (.aload_n 0, 1)) ∧ (decode cX11_ask 42 = .ok (.iload 5, 2)) ∧ (decode cX11_ask 44 = .ok (.iload_n 1, 1)) ∧ (decode cX11_ask 45 = .ok (.iload_n 2, 1)) ∧ (decode cX11_ask 46 = .ok (.invokevirtual 203, 3)) ∧ (decode cX11_ask 49 = .ok (.istore 6, 2)) ∧ (decode cX11_ask 51 = .ok (.iload 6, 2)) ∧ (decode cX11_ask 53 = .ok (.iload 4, 2)) ∧ (decode cX11_ask 55 = .ok (.if_icmp .ge 10, 3)) ∧ (decode cX11_ask 58 = .ok (.iload 6, 2)) := by decide +kernel
theorem dX11_ask_27 : decode cX11_ask 27 = .ok (.istore 5, 2) := dX11_ask_27_a.1
theorem dX11_ask_29 : decode cX11_ask 29 = .ok (.iload 5, 2) := dX11_ask_27_a.2.1
theorem dX11_ask_31 : decode cX11_ask 31 = .ok (.aload_n 0, 1) := dX11_ask_27_a.2.2.1
theorem dX11_ask_32 : decode cX11_ask 32 = .ok (.getfield 33, 3) := dX11_ask_27_a.2.2.2.1
theorem dX11_ask_35 : decode cX11_ask 35 = .ok (.getfield 128, 3) := dX11_ask_27_a.2.2.2.2.1
theorem dX11_ask_38 : decode cX11_ask 38 = .ok (.if_icmp .ge 33, 3) := dX11_ask_27_a.2.2.2.2.2.1
theorem dX11_ask_41 : decode cX11_ask 41 = .ok (.aload_n 0, 1) := dX11_ask_27_a.2.2.2.2.2.2.1
theorem dX11_ask_42 : decode cX11_ask 42 = .ok (.iload 5, 2) := dX11_ask_27_a.2.2.2.2.2.2.2.1
theorem dX11_ask_44 : decode cX11_ask 44 = .ok (.iload_n 1, 1) := dX11_ask_27_a.2.2.2.2.2.2.2.2.1
theorem dX11_ask_45 : decode cX11_ask 45 = .ok (.iload_n 2, 1) := dX11_ask_27_a.2.2.2.2.2.2.2.2.2.1
theorem dX11_ask_46 : decode cX11_ask 46 = .ok (.invokevirtual 203, 3) := dX11_ask_27_a.2.2.2.2.2.2.2.2.2.2.1
theorem dX11_ask_49 : decode cX11_ask 49 = .ok (.istore 6, 2) := dX11_ask_27_a.2.2.2.2.2.2.2.2.2.2.2.1
theorem dX11_ask_51 : decode cX11_ask 51 = .ok (.iload 6, 2) := dX11_ask_27_a.2.2.2.2.2.2.2.2.2.2.2.2.1
theorem dX11_ask_53 : decode cX11_ask 53 = .ok (.iload 4, 2) := dX11_ask_27_a.2.2.2.2.2.2.2.2.2.2.2.2.2.1
theorem dX11_ask_55 : decode cX11_ask 55 = .ok (.if_icmp .ge 10, 3) := dX11_ask_27_a.2.2.2.2.2.2.2.2.2.2.2.2.2.2.1
theorem dX11_ask_58 : decode cX11_ask 58 = .ok (.iload 6, 2) := dX11_ask_27_a.2.2.2.2.2.2.2.2.2.2.2.2.2.2.2
theorem dX11_ask_60_a : (decode cX11_ask 60 = .ok (.istore 4, 2)) ∧ (decode cX11_ask 62 = .ok (.iload 5, 2)) ∧ (decode cX11_ask 64 = .ok (.istore_n 3, 1)) ∧ (decode cX11_ask 65 = .ok (.iinc 5 1, 3)) ∧ (decode cX11_ask 68 = .ok (.goto (-39), 3)) ∧ (decode cX11_ask 71 = .ok (.iload_n 3, 1)) ∧ (decode cX11_ask 72 = .ok (.ireturn, 1)) := by decide +kernel
theorem dX11_ask_60 : decode cX11_ask 60 = .ok (.istore 4, 2) := dX11_ask_60_a.1
theorem dX11_ask_62 : decode cX11_ask 62 = .ok (.iload 5, 2) := dX11_ask_60_a.2.1
theorem dX11_ask_64 : decode cX11_ask 64 = .ok (.istore_n 3, 1) := dX11_ask_60_a.2.2.1
theorem dX11_ask_65 : decode cX11_ask 65 = .ok (.iinc 5 1, 3) := dX11_ask_60_a.2.2.2.1
theorem dX11_ask_68 : decode cX11_ask 68 = .ok (.goto (-39), 3) := dX11_ask_60_a.2.2.2.2.1
theorem dX11_ask_71 : decode cX11_ask 71 = .ok (.iload_n 3, 1) := dX11_ask_60_a.2.2.2.2.2.1
theorem dX11_ask_72 : decode cX11_ask 72 = .ok (.ireturn, 1) := dX11_ask_60_a.2.2.2.2.2.2
theorem dX11_laugh_0_a : (decode cX11_laugh 0 = .ok (.iload_n 1, 1)) ∧ (decode cX11_laugh 1 = .ok (.ifCond .lt 41, 3)) ∧ (decode cX11_laugh 4 = .ok (.iload_n 1, 1)) ∧ (decode cX11_laugh 5 = .ok (.bipush 16, 2)) ∧ (decode cX11_laugh 7 = .ok (.if_icmp .gt 35, 3)) ∧ (decode cX11_laugh 10 = .ok (.aload_n 0, 1)) ∧ (decode cX11_laugh 11 = .ok (.getfield 33, 3)) ∧ (decode cX11_laugh 14 = .ok (.iload_n 2, 1)) ∧ (decode cX11_laugh 15 = .ok (.invokevirtual 149, 3)) ∧ (decode cX11_laugh 18 = .ok (.ifCond .eq 24, 3)) ∧ (decode cX11_laugh 21 = .ok (.iload_n 3, 1)) ∧ (decode cX11_laugh 22 = .ok (.ifCond .lt 20, 3)) ∧ (decode cX11_laugh 25 = .ok (.iload_n 3, 1)) ∧ (decode cX11_laugh 26 = .ok (.iconst 1, 1)) ∧ (decode cX11_laugh 27 = .ok (.if_icmp .gt 15, 3)) ∧ (decode cX11_laugh 30 = .ok (.aload_n 0, 1)) := by decide +kernel
theorem dX11_laugh_0 : decode cX11_laugh 0 = .ok (.iload_n 1, 1) := dX11_laugh_0_a.1
theorem dX11_laugh_1 : decode cX11_laugh 1 = .ok (.ifCond .lt 41, 3) := dX11_laugh_0_a.2.1
theorem dX11_laugh_4 : decode cX11_laugh 4 = .ok (.iload_n 1, 1) := dX11_laugh_0_a.2.2.1
theorem dX11_laugh_5 : decode cX11_laugh 5 = .ok (.bipush 16, 2) := dX11_laugh_0_a.2.2.2.1
theorem dX11_laugh_7 : decode cX11_laugh 7 = .ok (.if_icmp .gt 35, 3) := dX11_laugh_0_a.2.2.2.2.1
theorem dX11_laugh_10 : decode cX11_laugh 10 = .ok (.aload_n 0, 1) := dX11_laugh_0_a.2.2.2.2.2.1
theorem dX11_laugh_11 : decode cX11_laugh 11 = .ok (.getfield 33, 3) := dX11_laugh_0_a.2.2.2.2.2.2.1
theorem dX11_laugh_14 : decode cX11_laugh 14 = .ok (.iload_n 2, 1) := dX11_laugh_0_a.2.2.2.2.2.2.2.1
theorem dX11_laugh_15 : decode cX11_laugh 15 = .ok (.invokevirtual 149, 3) := dX11_laugh_0_a.2.2.2.2.2.2.2.2.1
theorem dX11_laugh_18 : decode cX11_laugh 18 = .ok (.ifCond .eq 24, 3) := dX11_laugh_0_a.2.2.2.2.2.2.2.2.2.1
theorem dX11_laugh_21 : decode cX11_laugh 21 = .ok (.iload_n 3, 1) := dX11_laugh_0_a.2.2.2.2.2.2.2.2.2.2.1
theorem dX11_laugh_22 : decode cX11_laugh 22 = .ok (.ifCond .lt 20, 3) := dX11_laugh_0_a.2.2.2.2.2.2.2.2.2.2.2.1
theorem dX11_laugh_25 : decode cX11_laugh 25 = .ok (.iload_n 3, 1) := dX11_laugh_0_a.2.2.2.2.2.2.2.2.2.2.2.2.1
theorem dX11_laugh_26 : decode cX11_laugh 26 = .ok (.iconst 1, 1) := dX11_laugh_0_a.2.2.2.2.2.2.2.2.2.2.2.2.2.1
theorem dX11_laugh_27 : decode cX11_laugh 27 = .ok (.if_icmp .gt 15, 3) := dX11_laugh_0_a.2.2.2.2.2.2.2.2.2.2.2.2.2.2.1
theorem dX11_laugh_30 : decode cX11_laugh 30 = .ok (.aload_n 0, 1) := dX11_laugh_0_a.2.2.2.2.2.2.2.2.2.2.2.2.2.2.2
theorem dX11_laugh_31_a : (decode cX11_laugh 31 = .ok (.getfield 10, 3)) ∧ (decode cX11_laugh 34 = .ok (.invokevirtual 206, 3)) ∧ (decode cX11_laugh 37 = .ok (.bipush 10, 2)) ∧ (decode cX11_laugh 39 = .ok (.if_icmp .le 7, 3)) ∧ (decode cX11_laugh 42 = .ok (.ldc2_w 210, 3)) ∧ (decode cX11_laugh 45 = .ok (.lreturn, 1)) ∧ (decode cX11_laugh 46 = .ok (.aload_n 0, 1)) ∧ (decode cX11_laugh 47 = .ok (.iload_n 2, 1)) ∧ (decode cX11_laugh 48 = .ok (.invokevirtual 150, 3)) ∧ (decode cX11_laugh 51 = .ok (.aload_n 0, 1)) ∧ (decode cX11_laugh 52 = .ok (.getfield 56, 3)) ∧ (decode cX11_laugh 55 = .ok (.iload_n 1, 1)) ∧ (decode cX11_laugh 56 = .ok (.aload_n 0, 1)) ∧ (decode cX11_laugh 57 = .ok (.getfield 42, 3)) ∧ (decode cX11_laugh 60 = .ok (.aload_n 0, 1)) ∧ (decode cX11_laugh 61 = .ok (.getfield 33, 3)) := by decide +kernel
theorem dX11_laugh_31 : decode cX11_laugh 31 = .ok (.getfield 10, 3) := dX11_laugh_31_a.1
theorem dX11_laugh_34 : decode cX11_laugh 34 = .ok (.invokevirtual 206, 3) := dX11_laugh_31_a.2.1
theorem dX11_laugh_37 : decode cX11_laugh 37 = .ok (.bipush 10, 2) := dX11_laugh_31_a.2.2.1
theorem dX11_laugh_39 : decode cX11_laugh 39 = .ok (.if_icmp .le 7, 3) := dX11_laugh_31_a.2.2.2.1
theorem dX11_laugh_42 : decode cX11_laugh 42 = .ok (.ldc2_w 210, 3) := dX11_laugh_31_a.2.2.2.2.1
theorem dX11_laugh_45 : decode cX11_laugh 45 = .ok (.lreturn, 1) := dX11_laugh_31_a.2.2.2.2.2.1
theorem dX11_laugh_46 : decode cX11_laugh 46 = .ok (.aload_n 0, 1) := dX11_laugh_31_a.2.2.2.2.2.2.1
theorem dX11_laugh_47 : decode cX11_laugh 47 = .ok (.iload_n 2, 1) := dX11_laugh_31_a.2.2.2.2.2.2.2.1
theorem dX11_laugh_48 : decode cX11_laugh 48 = .ok (.invokevirtual 150, 3) := dX11_laugh_31_a.2.2.2.2.2.2.2.2.1
theorem dX11_laugh_51 : decode cX11_laugh 51 = .ok (.aload_n 0, 1) := dX11_laugh_31_a.2.2.2.2.2.2.2.2.2.1
theorem dX11_laugh_52 : decode cX11_laugh 52 = .ok (.getfield 56, 3) := dX11_laugh_31_a.2.2.2.2.2.2.2.2.2.2.1
theorem dX11_laugh_55 : decode cX11_laugh 55 = .ok (.iload_n 1, 1) := dX11_laugh_31_a.2.2.2.2.2.2.2.2.2.2.2.1
theorem dX11_laugh_56 : decode cX11_laugh 56 = .ok (.aload_n 0, 1) := dX11_laugh_31_a.2.2.2.2.2.2.2.2.2.2.2.2.1
theorem dX11_laugh_57 : decode cX11_laugh 57 = .ok (.getfield 42, 3) := dX11_laugh_31_a.2.2.2.2.2.2.2.2.2.2.2.2.2.1
theorem dX11_laugh_60 : decode cX11_laugh 60 = .ok (.aload_n 0, 1) := dX11_laugh_31_a.2.2.2.2.2.2.2.2.2.2.2.2.2.2.1
theorem dX11_laugh_61 : decode cX11_laugh 61 = .ok (.getfield 33, 3) := dX11_laugh_31_a.2.2.2.2.2.2.2.2.2.2.2.2.2.2.2
theorem dX11_laugh_64_a : (decode cX11_laugh 64 = .ok (.iload_n 2, 1)) ∧ (decode cX11_laugh 65 = .ok (.invokevirtual 153, 3)) ∧ (decode cX11_laugh 68 = .ok (.invokevirtual 212, 3)) ∧ (decode cX11_laugh 71 = .ok (.iload_n 3, 1)) ∧ (decode cX11_laugh 72 = .ok (.ifCond .ne 13, 3)) ∧ (decode cX11_laugh 75 = .ok (.aload_n 0, 1)) ∧ (decode cX11_laugh 76 = .ok (.getfield 56, 3)) ∧ (decode cX11_laugh 79 = .ok (.getfield 216, 3)) ∧ (decode cX11_laugh 82 = .ok (.goto 10, 3)) ∧ (decode cX11_laugh 85 = .ok (.aload_n 0, 1)) ∧ (decode cX11_laugh 86 = .ok (.getfield 56, 3)) ∧ (decode cX11_laugh 89 = .ok (.getfield 220, 3)) ∧ (decode cX11_laugh 92 = .ok (.lreturn, 1)) := by decide +kernel
theorem dX11_laugh_64 : decode cX11_laugh 64 = .ok (.iload_n 2, 1) := dX11_laugh_64_a.1
theorem dX11_laugh_65 : decode cX11_laugh 65 = .ok (.invokevirtual 153, 3) := dX11_laugh_64_a.2.1
theorem dX11_laugh_68 : decode cX11_laugh 68 = .ok (.invokevirtual 212, 3) := dX11_laugh_64_a.2.2.1
theorem dX11_laugh_71 : decode cX11_laugh 71 = .ok (.iload_n 3, 1) := dX11_laugh_64_a.2.2.2.1
theorem dX11_laugh_72 : decode cX11_laugh 72 = .ok (.ifCond .ne 13, 3) := dX11_laugh_64_a.2.2.2.2.1
theorem dX11_laugh_75 : decode cX11_laugh 75 = .ok (.aload_n 0, 1) := dX11_laugh_64_a.2.2.2.2.2.1
theorem dX11_laugh_76 : decode cX11_laugh 76 = .ok (.getfield 56, 3) := dX11_laugh_64_a.2.2.2.2.2.2.1
theorem dX11_laugh_79 : decode cX11_laugh 79 = .ok (.getfield 216, 3) := dX11_laugh_64_a.2.2.2.2.2.2.2.1
theorem dX11_laugh_82 : decode cX11_laugh 82 = .ok (.goto 10, 3) := dX11_laugh_64_a.2.2.2.2.2.2.2.2.1
theorem dX11_laugh_85 : decode cX11_laugh 85 = .ok (.aload_n 0, 1) := dX11_laugh_64_a.2.2.2.2.2.2.2.2.2.1
theorem dX11_laugh_86 : decode cX11_laugh 86 = .ok (.getfield 56, 3) := dX11_laugh_64_a.2.2.2.2.2.2.2.2.2.2.1
theorem dX11_laugh_89 : decode cX11_laugh 89 = .ok (.getfield 220, 3) := dX11_laugh_64_a.2.2.2.2.2.2.2.2.2.2.2.1
theorem dX11_laugh_92 : decode cX11_laugh 92 = .ok (.lreturn, 1) := dX11_laugh_64_a.2.2.2.2.2.2.2.2.2.2.2.2
theorem dX11_lakes_0_a : (decode cX11_lakes 0 = .ok (.iload_n 2, 1)) ∧ (decode cX11_lakes 1 = .ok (.iconst 1, 1)) ∧ (decode cX11_lakes 2 = .ok (.if_icmp .lt 18, 3)) ∧ (decode cX11_lakes 5 = .ok (.iload_n 2, 1)) ∧ (decode cX11_lakes 6 = .ok (.bipush 99, 2)) ∧ (decode cX11_lakes 8 = .ok (.if_icmp .gt 12, 3)) ∧ (decode cX11_lakes 11 = .ok (.iload_n 3, 1)) ∧ (decode cX11_lakes 12 = .ok (.ifCond .lt 8, 3)) ∧ (decode cX11_lakes 15 = .ok (.iload_n 3, 1)) ∧ (decode cX11_lakes 16 = .ok (.iconst 1, 1)) ∧ (decode cX11_lakes 17 = .ok (.if_icmp .le 6, 3)) ∧ (decode cX11_lakes 20 = .ok (.bipush (-2), 2)) ∧ (decode cX11_lakes 22 = .ok (.ireturn, 1)) ∧ (decode cX11_lakes 23 = .ok (.aload_n 0, 1)) ∧ (decode cX11_lakes 24 = .ok (.getfield 19, 3)) ∧ (decode cX11_lakes 27 = .ok (.getfield 223, 3)) := by decide +kernel
theorem dX11_lakes_0 : decode cX11_lakes 0 = .ok (.iload_n 2, 1) := dX11_lakes_0_a.1
theorem dX11_lakes_1 : decode cX11_lakes 1 = .ok (.iconst 1, 1) := dX11_lakes_0_a.2.1
theorem dX11_lakes_2 : decode cX11_lakes 2 = .ok (.if_icmp .lt 18, 3) := dX11_lakes_0_a.2.2.1
theorem dX11_lakes_5 : decode cX11_lakes 5 = .ok (.iload_n 2, 1) := dX11_lakes_0_a.2.2.2.1
theorem dX11_lakes_6 : decode cX11_lakes 6 = .ok (.bipush 99, 2) := dX11_lakes_0_a.2.2.2.2.1
theorem dX11_lakes_8 : decode cX11_lakes 8 = .ok (.if_icmp .gt 12, 3) := dX11_lakes_0_a.2.2.2.2.2.1
theorem dX11_lakes_11 : decode cX11_lakes 11 = .ok (.iload_n 3, 1) := dX11_lakes_0_a.2.2.2.2.2.2.1
theorem dX11_lakes_12 : decode cX11_lakes 12 = .ok (.ifCond .lt 8, 3) := dX11_lakes_0_a.2.2.2.2.2.2.2.1
theorem dX11_lakes_15 : decode cX11_lakes 15 = .ok (.iload_n 3, 1) := dX11_lakes_0_a.2.2.2.2.2.2.2.2.1
theorem dX11_lakes_16 : decode cX11_lakes 16 = .ok (.iconst 1, 1) := dX11_lakes_0_a.2.2.2.2.2.2.2.2.2.1
theorem dX11_lakes_17 : decode cX11_lakes 17 = .ok (.if_icmp .le 6, 3) := dX11_lakes_0_a.2.2.2.2.2.2.2.2.2.2.1
theorem dX11_lakes_20 : decode cX11_lakes 20 = .ok (.bipush (-2), 2) := dX11_lakes_0_a.2.2.2.2.2.2.2.2.2.2.2.1
theorem dX11_lakes_22 : decode cX11_lakes 22 = .ok (.ireturn, 1) := dX11_lakes_0_a.2.2.2.2.2.2.2.2.2.2.2.2.1
theorem dX11_lakes_23 : decode cX11_lakes 23 = .ok (.aload_n 0, 1) := dX11_lakes_0_a.2.2.2.2.2.2.2.2.2.2.2.2.2.1
theorem dX11_lakes_24 : decode cX11_lakes 24 = .ok (.getfield 19, 3) := dX11_lakes_0_a.2.2.2.2.2.2.2.2.2.2.2.2.2.2.1
theorem dX11_lakes_27 : decode cX11_lakes 27 = .ok (.getfield 223, 3) := dX11_lakes_0_a.2.2.2.2.2.2.2.2.2.2.2.2.2.2.2
theorem dX11_lakes_30_a : (decode cX11_lakes 30 = .ok (.iconst 1, 1)) ∧ (decode cX11_lakes 31 = .ok (.if_icmp .lt 14, 3)) ∧ (decode cX11_lakes 34 = .ok (.aload_n 0, 1)) ∧ (decode cX11_lakes 35 = .ok (.getfield 26, 3)) ∧ (decode cX11_lakes 38 = .ok (.getfield 185, 3)) ∧ (decode cX11_lakes 41 = .ok (.iconst 2, 1)) ∧ (decode cX11_lakes 42 = .ok (.if_icmp .ge 5, 3)) ∧ (decode cX11_lakes 45 = .ok (.iconst 0, 1)) ∧ (decode cX11_lakes 46 = .ok (.ireturn, 1)) ∧ (decode cX11_lakes 47 = .ok (.aload_n 0, 1)) ∧ (decode cX11_lakes 48 = .ok (.getfield 63, 3)) ∧ (decode cX11_lakes 51 = .ok (.iload_n 1, 1)) ∧ (decode cX11_lakes 52 = .ok (.putfield 224, 3)) ∧ (decode cX11_lakes 55 = .ok (.aload_n 0, 1)) ∧ (decode cX11_lakes 56 = .ok (.getfield 42, 3)) ∧ (decode cX11_lakes 59 = .ok (.aload_n 0, 1)) := by decide +kernel
theorem dX11_lakes_30 : decode cX11_lakes 30 = .ok (.iconst 1, 1) := dX11_lakes_30_a.1
theorem dX11_lakes_31 : decode cX11_lakes 31 = .ok (.if_icmp .lt 14, 3) := dX11_lakes_30_a.2.1
theorem dX11_lakes_34 : decode cX11_lakes 34 = .ok (.aload_n 0, 1) := dX11_lakes_30_a.2.2.1
theorem dX11_lakes_35 : decode cX11_lakes 35 = .ok (.getfield 26, 3) := dX11_lakes_30_a.2.2.2.1
theorem dX11_lakes_38 : decode cX11_lakes 38 = .ok (.getfield 185, 3) := dX11_lakes_30_a.2.2.2.2.1
theorem dX11_lakes_41 : decode cX11_lakes 41 = .ok (.iconst 2, 1) := dX11_lakes_30_a.2.2.2.2.2.1
theorem dX11_lakes_42 : decode cX11_lakes 42 = .ok (.if_icmp .ge 5, 3) := dX11_lakes_30_a.2.2.2.2.2.2.1
theorem dX11_lakes_45 : decode cX11_lakes 45 = .ok (.iconst 0, 1) := dX11_lakes_30_a.2.2.2.2.2.2.2.1
theorem dX11_lakes_46 : decode cX11_lakes 46 = .ok (.ireturn, 1) := dX11_lakes_30_a.2.2.2.2.2.2.2.2.1
theorem dX11_lakes_47 : decode cX11_lakes 47 = .ok (.aload_n 0, 1) := dX11_lakes_30_a.2.2.2.2.2.2.2.2.2.1
theorem dX11_lakes_48 : decode cX11_lakes 48 = .ok (.getfield 63, 3) := dX11_lakes_30_a.2.2.2.2.2.2.2.2.2.2.1
theorem dX11_lakes_51 : decode cX11_lakes 51 = .ok (.iload_n 1, 1) := dX11_lakes_30_a.2.2.2.2.2.2.2.2.2.2.2.1
theorem dX11_lakes_52 : decode cX11_lakes 52 = .ok (.putfield 224, 3) := dX11_lakes_30_a.2.2.2.2.2.2.2.2.2.2.2.2.1
theorem dX11_lakes_55 : decode cX11_lakes 55 = .ok (.aload_n 0, 1) := dX11_lakes_30_a.2.2.2.2.2.2.2.2.2.2.2.2.2.1
theorem dX11_lakes_56 : decode cX11_lakes 56 = .ok (.getfield 42, 3) := dX11_lakes_30_a.2.2.2.2.2.2.2.2.2.2.2.2.2.2.1
theorem dX11_lakes_59 : decode cX11_lakes 59 = .ok (.aload_n 0, 1) := dX11_lakes_30_a.2.2.2.2.2.2.2.2.2.2.2.2.2.2.2
theorem dX11_lakes_60_a : (decode cX11_lakes 60 = .ok (.getfield 146, 3)) ∧ (decode cX11_lakes 63 = .ok (.putfield 184, 3)) ∧ (decode cX11_lakes 66 = .ok (.iload_n 3, 1)) ∧ (decode cX11_lakes 67 = .ok (.ifCond .ne 7, 3)) ∧ (decode cX11_lakes 70 = .ok (.iconst 0, 1)) ∧ (decode cX11_lakes 71 = .ok (.goto 4, 3)) ∧ (decode cX11_lakes 74 = .ok (.iconst 3, 1)) ∧ (decode cX11_lakes 75 = .ok (.istore 4, 2)) ∧ (decode cX11_lakes 77 = .ok (.iconst 0, 1)) ∧ (decode cX11_lakes 78 = .ok (.istore 5, 2)) ∧ (decode cX11_lakes 80 = .ok (.iconst 0, 1)) ∧ (decode cX11_lakes 81 = .ok (.istore 6, 2)) ∧ (decode cX11_lakes 83 = .ok (.iload 6, 2)) ∧ (decode cX11_lakes 85 = .ok (.iload_n 2, 1)) ∧ (decode cX11_lakes 86 = .ok (.if_icmp .ge 120, 3)) ∧ (decode cX11_lakes 89 = .ok (.aload_n 0, 1)) := by decide +kernel
theorem dX11_lakes_60 : decode cX11_lakes 60 = .ok (.getfield 146, 3) := dX11_lakes_60_a.1
theorem dX11_lakes_63 : decode cX11_lakes 63 = .ok (.putfield 184, 3) := dX11_lakes_60_a.2.1
theorem dX11_lakes_66 : decode cX11_lakes 66 = .ok (.iload_n 3, 1) := dX11_lakes_60_a.2.2.1
theorem dX11_lakes_67 : decode cX11_lakes 67 = .ok (.ifCond .ne 7, 3) := dX11_lakes_60_a.2.2.2.1
theorem dX11_lakes_70 : decode cX11_lakes 70 = .ok (.iconst 0, 1) := dX11_lakes_60_a.2.2.2.2.1
theorem dX11_lakes_71 : decode cX11_lakes 71 = .ok (.goto 4, 3) := dX11_lakes_60_a.2.2.2.2.2.1
theorem dX11_lakes_74 : decode cX11_lakes 74 = .ok (.iconst 3, 1) := dX11_lakes_60_a.2.2.2.2.2.2.1
theorem dX11_lakes_75 : decode cX11_lakes 75 = .ok (.istore 4, 2) := dX11_lakes_60_a.2.2.2.2.2.2.2.1
theorem dX11_lakes_77 : decode cX11_lakes 77 = .ok (.iconst 0, 1) := dX11_lakes_60_a.2.2.2.2.2.2.2.2.1
theorem dX11_lakes_78 : decode cX11_lakes 78 = .ok (.istore 5, 2) := dX11_lakes_60_a.2.2.2.2.2.2.2.2.2.1
theorem dX11_lakes_80 : decode cX11_lakes 80 = .ok (.iconst 0, 1) := dX11_lakes_60_a.2.2.2.2.2.2.2.2.2.2.1
theorem dX11_lakes_81 : decode cX11_lakes 81 = .ok (.istore 6, 2) := dX11_lakes_60_a.2.2.2.2.2.2.2.2.2.2.2.1
theorem dX11_lakes_83 : decode cX11_lakes 83 = .ok (.iload 6, 2) := dX11_lakes_60_a.2.2.2.2.2.2.2.2.2.2.2.2.1
theorem dX11_lakes_85 : decode cX11_lakes 85 = .ok (.iload_n 2, 1) := dX11_lakes_60_a.2.2.2.2.2.2.2.2.2.2.2.2.2.1
theorem dX11_lakes_86 : decode cX11_lakes 86 = .ok (.if_icmp .ge 120, 3) := dX11_lakes_60_a.2.2.2.2.2.2.2.2.2.2.2.2.2.2.1
theorem dX11_lakes_89 : decode cX11_lakes 89 = .ok (.aload_n 0, 1) := dX11_lakes_60_a.2.2.2.2.2.2.2.2.2.2.2.2.2.2.2
theorem dX11_lakes_90_a : (decode cX11_lakes 90 = .ok (.getfield 63, 3)) ∧ (decode cX11_lakes 93 = .ok (.aload_n 0, 1)) ∧ (decode cX11_lakes 94 = .ok (.getfield 19, 3)) ∧ (decode cX11_lakes 97 = .ok (.getfield 223, 3)) ∧ (decode cX11_lakes 100 = .ok (.invokevirtual 227, 3)) ∧ (decode cX11_lakes 103 = .ok (.istore 7, 2)) ∧ (decode cX11_lakes 105 = .ok (.aload_n 0, 1)) ∧ (decode cX11_lakes 106 = .ok (.getfield 63, 3)) ∧ (decode cX11_lakes 109 = .ok (.aload_n 0, 1)) ∧ (decode cX11_lakes 110 = .ok (.getfield 26, 3)) ∧ (decode cX11_lakes 113 = .ok (.getfield 185, 3)) ∧ (decode cX11_lakes 116 = .ok (.invokevirtual 227, 3)) ∧ (decode cX11_lakes 119 = .ok (.istore 8, 2)) ∧ (decode cX11_lakes 121 = .ok (.aload_n 0, 1)) ∧ (decode cX11_lakes 122 = .ok (.getfield 63, 3)) ∧ (decode cX11_lakes 125 = .ok (.aload_n 0, 1)) := by decide +kernel
theorem dX11_lakes_90 : decode cX11_lakes 90 = .ok (.getfield 63, 3) := dX11_lakes_90_a.1
theorem dX11_lakes_93 : decode cX11_lakes 93 = .ok (.aload_n 0, 1) := dX11_lakes_90_a.2.1
theorem dX11_lakes_94 : decode cX11_lakes 94 = .ok (.getfield 19, 3) := dX11_lakes_90_a.2.2.1
theorem dX11_lakes_97 : decode cX11_lakes 97 = .ok (.getfield 223, 3) := dX11_lakes_90_a.2.2.2.1
theorem dX11_lakes_100 : decode cX11_lakes 100 = .ok (.invokevirtual 227, 3) := dX11_lakes_90_a.2.2.2.2.1
theorem dX11_lakes_103 : decode cX11_lakes 103 = .ok (.istore 7, 2) := dX11_lakes_90_a.2.2.2.2.2.1
theorem dX11_lakes_105 : decode cX11_lakes 105 = .ok (.aload_n 0, 1) := dX11_lakes_90_a.2.2.2.2.2.2.1
theorem dX11_lakes_106 : decode cX11_lakes 106 = .ok (.getfield 63, 3) := dX11_lakes_90_a.2.2.2.2.2.2.2.1
theorem dX11_lakes_109 : decode cX11_lakes 109 = .ok (.aload_n 0, 1) := dX11_lakes_90_a.2.2.2.2.2.2.2.2.1
theorem dX11_lakes_110 : decode cX11_lakes 110 = .ok (.getfield 26, 3) := dX11_lakes_90_a.2.2.2.2.2.2.2.2.2.1
theorem dX11_lakes_113 : decode cX11_lakes 113 = .ok (.getfield 185, 3) := dX11_lakes_90_a.2.2.2.2.2.2.2.2.2.2.1
theorem dX11_lakes_116 : decode cX11_lakes 116 = .ok (.invokevirtual 227, 3) := dX11_lakes_90_a.2.2.2.2.2.2.2.2.2.2.2.1
theorem dX11_lakes_119 : decode cX11_lakes 119 = .ok (.istore 8, 2) := dX11_lakes_90_a.2.2.2.2.2.2.2.2.2.2.2.2.1
theorem dX11_lakes_121 : decode cX11_lakes 121 = .ok (.aload_n 0, 1) := dX11_lakes_90_a.2.2.2.2.2.2.2.2.2.2.2.2.2.1
theorem dX11_lakes_122 : decode cX11_lakes 122 = .ok (.getfield 63, 3) := dX11_lakes_90_a.2.2.2.2.2.2.2.2.2.2.2.2.2.2.1
theorem dX11_lakes_125 : decode cX11_lakes 125 = .ok (.aload_n 0, 1) := dX11_lakes_90_a.2.2.2.2.2.2.2.2.2.2.2.2.2.2.2
theorem dX11_lakes_126_a : (decode cX11_lakes 126 = .ok (.getfield 26, 3)) ∧ (decode cX11_lakes 129 = .ok (.getfield 185, 3)) ∧ (decode cX11_lakes 132 = .ok (.iconst 1, 1)) ∧ (decode cX11_lakes 133 = .ok (.isub, 1)) ∧ (decode cX11_lakes 134 = .ok (.invokevirtual 227, 3)) ∧ (decode cX11_lakes 137 = .ok (.istore 9, 2)) ∧ (decode cX11_lakes 139 = .ok (.aload_n 0, 1)) ∧ (decode cX11_lakes 140 = .ok (.getfield 42, 3)) ∧ (decode cX11_lakes 143 = .ok (.iload 7, 2)) ∧ (decode cX11_lakes 145 = .ok (.iload 8, 2)) ∧ (decode cX11_lakes 147 = .ok (.iload 9, 2)) ∧ (decode cX11_lakes 149 = .ok (.iload 8, 2)) ∧ (decode cX11_lakes 151 = .ok (.if_icmp .ge 8, 3)) ∧ (decode cX11_lakes 154 = .ok (.iload 9, 2)) ∧ (decode cX11_lakes 156 = .ok (.goto 7, 3)) ∧ (decode cX11_lakes 159 = .ok (.iload 9, 2)) := by decide +kernel
theorem dX11_lakes_126 : decode cX11_lakes 126 = .ok (.getfield 26, 3) := dX11_lakes_126_a.1
theorem dX11_lakes_129 : decode cX11_lakes 129 = .ok (.getfield 185, 3) := dX11_lakes_126_a.2.1
theorem dX11_lakes_132 : decode cX11_lakes 132 = .ok (.iconst 1, 1) := dX11_lakes_126_a.2.2.1
theorem dX11_lakes_133 : decode cX11_lakes 133 = .ok (.isub, 1) := dX11_lakes_126_a.2.2.2.1
theorem dX11_lakes_134 : decode cX11_lakes 134 = .ok (.invokevirtual 227, 3) := dX11_lakes_126_a.2.2.2.2.1
theorem dX11_lakes_137 : decode cX11_lakes 137 = .ok (.istore 9, 2) := dX11_lakes_126_a.2.2.2.2.2.1
theorem dX11_lakes_139 : decode cX11_lakes 139 = .ok (.aload_n 0, 1) := dX11_lakes_126_a.2.2.2.2.2.2.1
theorem dX11_lakes_140 : decode cX11_lakes 140 = .ok (.getfield 42, 3) := dX11_lakes_126_a.2.2.2.2.2.2.2.1
theorem dX11_lakes_143 : decode cX11_lakes 143 = .ok (.iload 7, 2) := dX11_lakes_126_a.2.2.2.2.2.2.2.2.1
theorem dX11_lakes_145 : decode cX11_lakes 145 = .ok (.iload 8, 2) := dX11_lakes_126_a.2.2.2.2.2.2.2.2.2.1
theorem dX11_lakes_147 : decode cX11_lakes 147 = .ok (.iload 9, 2) := dX11_lakes_126_a.2.2.2.2.2.2.2.2.2.2.1
theorem dX11_lakes_149 : decode cX11_lakes 149 = .ok (.iload 8, 2) := dX11_lakes_126_a.2.2.2.2.2.2.2.2.2.2.2.1
theorem dX11_lakes_151 : decode cX11_lakes 151 = .ok (.if_icmp .ge 8, 3) := dX11_lakes_126_a.2.2.2.2.2.2.2.2.2.2.2.2.1
theorem dX11_lakes_154 : decode cX11_lakes 154 = .ok (.iload 9, 2) := dX11_lakes_126_a.2.2.2.2.2.2.2.2.2.2.2.2.2.1
theorem dX11_lakes_156 : decode cX11_lakes 156 = .ok (.goto 7, 3) := dX11_lakes_126_a.2.2.2.2.2.2.2.2.2.2.2.2.2.2.1
theorem dX11_lakes_159 : decode cX11_lakes 159 = .ok (.iload 9, 2) := dX11_lakes_126_a.2.2.2.2.2.2.2.2.2.2.2.2.2.2.2
theorem dX11_lakes_161_a : (decode cX11_lakes 161 = .ok (.iconst 1, 1)) ∧ (decode cX11_lakes 162 = .ok (.iadd, 1)) ∧ (decode cX11_lakes 163 = .ok (.invokevirtual 189, 3)) ∧ (decode cX11_lakes 166 = .ok (.aload_n 0, 1)) ∧ (decode cX11_lakes 167 = .ok (.getfield 42, 3)) ∧ (decode cX11_lakes 170 = .ok (.aload_n 0, 1)) ∧ (decode cX11_lakes 171 = .ok (.getfield 63, 3)) ∧ (decode cX11_lakes 174 = .ok (.bipush 9, 2)) ∧ (decode cX11_lakes 176 = .ok (.invokevirtual 227, 3)) ∧ (decode cX11_lakes 179 = .ok (.iconst 1, 1)) ∧ (decode cX11_lakes 180 = .ok (.iadd, 1)) ∧ (decode cX11_lakes 181 = .ok (.invokevirtual 156, 3)) ∧ (decode cX11_lakes 184 = .ok (.pop, 1)) ∧ (decode cX11_lakes 185 = .ok (.aload_n 0, 1)) ∧ (decode cX11_lakes 186 = .ok (.getfield 42, 3)) ∧ (decode cX11_lakes 189 = .ok (.getfield 159, 3)) := by decide +kernel
theorem dX11_lakes_161 : decode cX11_lakes 161 = .ok (.iconst 1, 1) := dX11_lakes_161_a.1
theorem dX11_lakes_162 : decode cX11_lakes 162 = .ok (.iadd, 1) := dX11_lakes_161_a.2.1
theorem dX11_lakes_163 : decode cX11_lakes 163 = .ok (.invokevirtual 189, 3) := dX11_lakes_161_a.2.2.1
theorem dX11_lakes_166 : decode cX11_lakes 166 = .ok (.aload_n 0, 1) := dX11_lakes_161_a.2.2.2.1
theorem dX11_lakes_167 : decode cX11_lakes 167 = .ok (.getfield 42, 3) := dX11_lakes_161_a.2.2.2.2.1
theorem dX11_lakes_170 : decode cX11_lakes 170 = .ok (.aload_n 0, 1) := dX11_lakes_161_a.2.2.2.2.2.1
theorem dX11_lakes_171 : decode cX11_lakes 171 = .ok (.getfield 63, 3) := dX11_lakes_161_a.2.2.2.2.2.2.1
theorem dX11_lakes_174 : decode cX11_lakes 174 = .ok (.bipush 9, 2) := dX11_lakes_161_a.2.2.2.2.2.2.2.1
theorem dX11_lakes_176 : decode cX11_lakes 176 = .ok (.invokevirtual 227, 3) := dX11_lakes_161_a.2.2.2.2.2.2.2.2.1
theorem dX11_lakes_179 : decode cX11_lakes 179 = .ok (.iconst 1, 1) := dX11_lakes_161_a.2.2.2.2.2.2.2.2.2.1
theorem dX11_lakes_180 : decode cX11_lakes 180 = .ok (.iadd, 1) := dX11_lakes_161_a.2.2.2.2.2.2.2.2.2.2.1
theorem dX11_lakes_181 : decode cX11_lakes 181 = .ok (.invokevirtual 156, 3) := dX11_lakes_161_a.2.2.2.2.2.2.2.2.2.2.2.1
theorem dX11_lakes_184 : decode cX11_lakes 184 = .ok (.pop, 1) := dX11_lakes_161_a.2.2.2.2.2.2.2.2.2.2.2.2.1
theorem dX11_lakes_185 : decode cX11_lakes 185 = .ok (.aload_n 0, 1) := dX11_lakes_161_a.2.2.2.2.2.2.2.2.2.2.2.2.2.1
theorem dX11_lakes_186 : decode cX11_lakes 186 = .ok (.getfield 42, 3) := dX11_lakes_161_a.2.2.2.2.2.2.2.2.2.2.2.2.2.2.1
theorem dX11_lakes_189 : decode cX11_lakes 189 = .ok (.getfield 159, 3) := dX11_lakes_161_a.2.2.2.2.2.2.2.2.2.2.2.2.2.2.2
theorem dX11_lakes_192_a : (decode cX11_lakes 192 = .ok (.iload 4, 2)) ∧ (decode cX11_lakes 194 = .ok (.if_icmp .ne 6, 3)) ∧ (decode cX11_lakes 197 = .ok (.iinc 5 1, 3)) ∧ (decode cX11_lakes 200 = .ok (.iinc 6 1, 3)) ∧ (decode cX11_lakes 203 = .ok (.goto (-120), 3)) ∧ (decode cX11_lakes 206 = .ok (.iload 5, 2)) ∧ (decode cX11_lakes 208 = .ok (.ireturn, 1)) := by decide +kernel
theorem dX11_lakes_192 : decode cX11_lakes 192 = .ok (.iload 4, 2) := dX11_lakes_192_a.1
theorem dX11_lakes_194 : decode cX11_lakes 194 = .ok (.if_icmp .ne 6, 3) := dX11_lakes_192_a.2.1
theorem dX11_lakes_197 : decode cX11_lakes 197 = .ok (.iinc 5 1, 3) := dX11_lakes_192_a.2.2.1
theorem dX11_lakes_200 : decode cX11_lakes 200 = .ok (.iinc 6 1, 3) := dX11_lakes_192_a.2.2.2.1
theorem dX11_lakes_203 : decode cX11_lakes 203 = .ok (.goto (-120), 3) := dX11_lakes_192_a.2.2.2.2.1
theorem dX11_lakes_206 : decode cX11_lakes 206 = .ok (.iload 5, 2) := dX11_lakes_192_a.2.2.2.2.2.1
theorem dX11_lakes_208 : decode cX11_lakes 208 = .ok (.ireturn, 1) := dX11_lakes_192_a.2.2.2.2.2.2
theorem dX11_sheet_0_a : (decode cX11_sheet 0 = .ok (.aload_n 0, 1)) ∧ (decode cX11_sheet 1 = .ok (.iload_n 1, 1)) ∧ (decode cX11_sheet 2 = .ok (.invokevirtual 129, 3)) ∧ (decode cX11_sheet 5 = .ok (.astore 4, 2)) ∧ (decode cX11_sheet 7 = .ok (.aload 4, 2)) ∧ (decode cX11_sheet 9 = .ok (.ifnull 16, 3)) ∧ (decode cX11_sheet 12 = .ok (.iload_n 2, 1)) ∧ (decode cX11_sheet 13 = .ok (.invokestatic 230, 3)) ∧ (decode cX11_sheet 16 = .ok (.ifCond .eq 9, 3)) ∧ (decode cX11_sheet 19 = .ok (.iload_n 3, 1)) ∧ (decode cX11_sheet 20 = .ok (.bipush 60, 2)) ∧ (decode cX11_sheet 22 = .ok (.if_icmp .le 6, 3)) ∧ (decode cX11_sheet 25 = .ok (.bipush (-2), 2)) ∧ (decode cX11_sheet 27 = .ok (.ireturn, 1)) ∧ (decode cX11_sheet 28 = .ok (.iload_n 3, 1)) ∧ (decode cX11_sheet 29 = .ok (.ifCond .ge 9, 3)) := by decide +kernel
theorem dX11_sheet_0 : decode cX11_sheet 0 = .ok (.aload_n 0, 1) := dX11_sheet_0_a.1
theorem dX11_sheet_1 : decode cX11_sheet 1 = .ok (.iload_n 1, 1) := dX11_sheet_0_a.2.1
theorem dX11_sheet_2 : decode cX11_sheet 2 = .ok (.invokevirtual 129, 3) := dX11_sheet_0_a.2.2.1
theorem dX11_sheet_5 : decode cX11_sheet 5 = .ok (.astore 4, 2) := dX11_sheet_0_a.2.2.2.1
theorem dX11_sheet_7 : decode cX11_sheet 7 = .ok (.aload 4, 2) := dX11_sheet_0_a.2.2.2.2.1
theorem dX11_sheet_9 : decode cX11_sheet 9 = .ok (.ifnull 16, 3) := dX11_sheet_0_a.2.2.2.2.2.1
theorem dX11_sheet_12 : decode cX11_sheet 12 = .ok (.iload_n 2, 1) := dX11_sheet_0_a.2.2.2.2.2.2.1
theorem dX11_sheet_13 : decode cX11_sheet 13 = .ok (.invokestatic 230, 3) := dX11_sheet_0_a.2.2.2.2.2.2.2.1
theorem dX11_sheet_16 : decode cX11_sheet 16 = .ok (.ifCond .eq 9, 3) := dX11_sheet_0_a.2.2.2.2.2.2.2.2.1
theorem dX11_sheet_19 : decode cX11_sheet 19 = .ok (.iload_n 3, 1) := dX11_sheet_0_a.2.2.2.2.2.2.2.2.2.1
theorem dX11_sheet_20 : decode cX11_sheet 20 = .ok (.bipush 60, 2) := dX11_sheet_0_a.2.2.2.2.2.2.2.2.2.2.1
theorem dX11_sheet_22 : decode cX11_sheet 22 = .ok (.if_icmp .le 6, 3) := dX11_sheet_0_a.2.2.2.2.2.2.2.2.2.2.2.1
theorem dX11_sheet_25 : decode cX11_sheet 25 = .ok (.bipush (-2), 2) := dX11_sheet_0_a.2.2.2.2.2.2.2.2.2.2.2.2.1
theorem dX11_sheet_27 : decode cX11_sheet 27 = .ok (.ireturn, 1) := dX11_sheet_0_a.2.2.2.2.2.2.2.2.2.2.2.2.2.1
theorem dX11_sheet_28 : decode cX11_sheet 28 = .ok (.iload_n 3, 1) := dX11_sheet_0_a.2.2.2.2.2.2.2.2.2.2.2.2.2.2.1
theorem dX11_sheet_29 : decode cX11_sheet 29 = .ok (.ifCond .ge 9, 3) := dX11_sheet_0_a.2.2.2.2.2.2.2.2.2.2.2.2.2.2.2
theorem dX11_sheet_32_a : (decode cX11_sheet 32 = .ok (.aload_n 0, 1)) ∧ (decode cX11_sheet 33 = .ok (.iconst 5, 1)) ∧ (decode cX11_sheet 34 = .ok (.invokevirtual 137, 3)) ∧ (decode cX11_sheet 37 = .ok (.ireturn, 1)) ∧ (decode cX11_sheet 38 = .ok (.aload 4, 2)) ∧ (decode cX11_sheet 40 = .ok (.iload_n 2, 1)) ∧ (decode cX11_sheet 41 = .ok (.iload_n 3, 1)) ∧ (decode cX11_sheet 42 = .ok (.invokevirtual 233, 3)) ∧ (decode cX11_sheet 45 = .ok (.iload_n 3, 1)) ∧ (decode cX11_sheet 46 = .ok (.ireturn, 1)) := by decide +kernel
theorem dX11_sheet_32 : decode cX11_sheet 32 = .ok (.aload_n 0, 1) := dX11_sheet_32_a.1
theorem dX11_sheet_33 : decode cX11_sheet 33 = .ok (.iconst 5, 1) := dX11_sheet_32_a.2.1
theorem dX11_sheet_34 : decode cX11_sheet 34 = .ok (.invokevirtual 137, 3) := dX11_sheet_32_a.2.2.1
theorem dX11_sheet_37 : decode cX11_sheet 37 = .ok (.ireturn, 1) := dX11_sheet_32_a.2.2.2.1
theorem dX11_sheet_38 : decode cX11_sheet 38 = .ok (.aload 4, 2) := dX11_sheet_32_a.2.2.2.2.1
theorem dX11_sheet_40 : decode cX11_sheet 40 = .ok (.iload_n 2, 1) := dX11_sheet_32_a.2.2.2.2.2.1
theorem dX11_sheet_41 : decode cX11_sheet 41 = .ok (.iload_n 3, 1) := dX11_sheet_32_a.2.2.2.2.2.2.1
theorem dX11_sheet_42 : decode cX11_sheet 42 = .ok (.invokevirtual 233, 3) := dX11_sheet_32_a.2.2.2.2.2.2.2.1
theorem dX11_sheet_45 : decode cX11_sheet 45 = .ok (.iload_n 3, 1) := dX11_sheet_32_a.2.2.2.2.2.2.2.2.1
theorem dX11_sheet_46 : decode cX11_sheet 46 = .ok (.ireturn, 1) := dX11_sheet_32_a.2.2.2.2.2.2.2.2.2
theorem dX11_lose_0_a : (decode cX11_lose 0 = .ok (.aload_n 0, 1)) ∧ (decode cX11_lose 1 = .ok (.iload_n 1, 1)) ∧ (decode cX11_lose 2 = .ok (.invokevirtual 129, 3)) ∧ (decode cX11_lose 5 = .ok (.astore_n 2, 1)) ∧ (decode cX11_lose 6 = .ok (.aload_n 2, 1)) ∧ (decode cX11_lose 7 = .ok (.ifnonnull 6, 3)) ∧ (decode cX11_lose 10 = .ok (.bipush (-2), 2)) ∧ (decode cX11_lose 12 = .ok (.ireturn, 1)) ∧ (decode cX11_lose 13 = .ok (.aload_n 2, 1)) ∧ (decode cX11_lose 14 = .ok (.getfield 133, 3)) ∧ (decode cX11_lose 17 = .ok (.ifCond .eq 9, 3)) ∧ (decode cX11_lose 20 = .ok (.aload_n 0, 1)) ∧ (decode cX11_lose 21 = .ok (.iconst 1, 1)) ∧ (decode cX11_lose 22 = .ok (.invokevirtual 137, 3)) ∧ (decode cX11_lose 25 = .ok (.ireturn, 1)) ∧ (decode cX11_lose 26 = .ok (.aload_n 2, 1)) := by decide +kernel
theorem dX11_lose_0 : decode cX11_lose 0 = .ok (.aload_n 0, 1) := dX11_lose_0_a.1
theorem dX11_lose_1 : decode cX11_lose 1 = .ok (.iload_n 1, 1) := dX11_lose_0_a.2.1
theorem dX11_lose_2 : decode cX11_lose 2 = .ok (.invokevirtual 129, 3) := dX11_lose_0_a.2.2.1
theorem dX11_lose_5 : decode cX11_lose 5 = .ok (.astore_n 2, 1) := dX11_lose_0_a.2.2.2.1
theorem dX11_lose_6 : decode cX11_lose 6 = .ok (.aload_n 2, 1) := dX11_lose_0_a.2.2.2.2.1
theorem dX11_lose_7 : decode cX11_lose 7 = .ok (.ifnonnull 6, 3) := dX11_lose_0_a.2.2.2.2.2.1
theorem dX11_lose_10 : decode cX11_lose 10 = .ok (.bipush (-2), 2) := dX11_lose_0_a.2.2.2.2.2.2.1
theorem dX11_lose_12 : decode cX11_lose 12 = .ok (.ireturn, 1) := dX11_lose_0_a.2.2.2.2.2.2.2.1
theorem dX11_lose_13 : decode cX11_lose 13 = .ok (.aload_n 2, 1) := dX11_lose_0_a.2.2.2.2.2.2.2.2.1
theorem dX11_lose_14 : decode cX11_lose 14 = .ok (.getfield 133, 3) := dX11_lose_0_a.2.2.2.2.2.2.2.2.2.1
theorem dX11_lose_17 : decode cX11_lose 17 = .ok (.ifCond .eq 9, 3) := dX11_lose_0_a.2.2.2.2.2.2.2.2.2.2.1
theorem dX11_lose_20 : decode cX11_lose 20 = .ok (.aload_n 0, 1) := dX11_lose_0_a.2.2.2.2.2.2.2.2.2.2.2.1
theorem dX11_lose_21 : decode cX11_lose 21 = .ok (.iconst 1, 1) := dX11_lose_0_a.2.2.2.2.2.2.2.2.2.2.2.2.1
theorem dX11_lose_22 : decode cX11_lose 22 = .ok (.invokevirtual 137, 3) := dX11_lose_0_a.2.2.2.2.2.2.2.2.2.2.2.2.2.1
theorem dX11_lose_25 : decode cX11_lose 25 = .ok (.ireturn, 1) := dX11_lose_0_a.2.2.2.2.2.2.2.2.2.2.2.2.2.2.1
theorem dX11_lose_26 : decode cX11_lose 26 = .ok (.aload_n 2, 1) := dX11_lose_0_a.2.2.2.2.2.2.2.2.2.2.2.2.2.2.2
theorem dX11_lose_27_a : (decode cX11_lose 27 = .ok (.iconst 1, 1)) ∧ (decode cX11_lose 28 = .ok (.putfield 133, 3)) ∧ (decode cX11_lose 31 = .ok (.aload_n 2, 1)) ∧ (decode cX11_lose 32 = .ok (.getfield 140, 3)) ∧ (decode cX11_lose 35 = .ok (.ireturn, 1)) := by decide +kernel
theorem dX11_lose_27 : decode cX11_lose 27 = .ok (.iconst 1, 1) := dX11_lose_27_a.1
theorem dX11_lose_28 : decode cX11_lose 28 = .ok (.putfield 133, 3) := dX11_lose_27_a.2.1
theorem dX11_lose_31 : decode cX11_lose 31 = .ok (.aload_n 2, 1) := dX11_lose_27_a.2.2.1
theorem dX11_lose_32 : decode cX11_lose 32 = .ok (.getfield 140, 3) := dX11_lose_27_a.2.2.2.1
theorem dX11_lose_35 : decode cX11_lose 35 = .ok (.ireturn, 1) := dX11_lose_27_a.2.2.2.2
theorem dX11_lay_0_a : (decode cX11_lay 0 = .ok (.aload_n 0, 1)) ∧ (decode cX11_lay 1 = .ok (.iload_n 1, 1)) ∧ (decode cX11_lay 2 = .ok (.invokevirtual 129, 3)) ∧ (decode cX11_lay 5 = .ok (.astore 5, 2)) ∧ (decode cX11_lay 7 = .ok (.aload 5, 2)) ∧ (decode cX11_lay 9 = .ok (.ifnull 10, 3)) ∧ (decode cX11_lay 12 = .ok (.iload_n 2, 1)) ∧ (decode cX11_lay 13 = .ok (.invokestatic 230, 3)) ∧ (decode cX11_lay 16 = .ok (.ifCond .ne 6, 3)) ∧ (decode cX11_lay 19 = .ok (.bipush (-2), 2)) ∧ (decode cX11_lay 21 = .ok (.ireturn, 1)) ∧ (decode cX11_lay 22 = .ok (.aload_n 0, 1)) ∧ (decode cX11_lay 23 = .ok (.aload 5, 2)) ∧ (decode cX11_lay 25 = .ok (.iload_n 2, 1)) ∧ (decode cX11_lay 26 = .ok (.iload_n 3, 1)) ∧ (decode cX11_lay 27 = .ok (.invokevirtual 237, 3)) := by decide +kernel
theorem dX11_lay_0 : decode cX11_lay 0 = .ok (.aload_n 0, 1) := dX11_lay_0_a.1
theorem dX11_lay_1 : decode cX11_lay 1 = .ok (.iload_n 1, 1) := dX11_lay_0_a.2.1
theorem dX11_lay_2 : decode cX11_lay 2 = .ok (.invokevirtual 129, 3) := dX11_lay_0_a.2.2.1
theorem dX11_lay_5 : decode cX11_lay 5 = .ok (.astore 5, 2) := dX11_lay_0_a.2.2.2.1
theorem dX11_lay_7 : decode cX11_lay 7 = .ok (.aload 5, 2) := dX11_lay_0_a.2.2.2.2.1
theorem dX11_lay_9 : decode cX11_lay 9 = .ok (.ifnull 10, 3) := dX11_lay_0_a.2.2.2.2.2.1
theorem dX11_lay_12 : decode cX11_lay 12 = .ok (.iload_n 2, 1) := dX11_lay_0_a.2.2.2.2.2.2.1
theorem dX11_lay_13 : decode cX11_lay 13 = .ok (.invokestatic 230, 3) := dX11_lay_0_a.2.2.2.2.2.2.2.1
theorem dX11_lay_16 : decode cX11_lay 16 = .ok (.ifCond .ne 6, 3) := dX11_lay_0_a.2.2.2.2.2.2.2.2.1
theorem dX11_lay_19 : decode cX11_lay 19 = .ok (.bipush (-2), 2) := dX11_lay_0_a.2.2.2.2.2.2.2.2.2.1
theorem dX11_lay_21 : decode cX11_lay 21 = .ok (.ireturn, 1) := dX11_lay_0_a.2.2.2.2.2.2.2.2.2.2.1
theorem dX11_lay_22 : decode cX11_lay 22 = .ok (.aload_n 0, 1) := dX11_lay_0_a.2.2.2.2.2.2.2.2.2.2.2.1
theorem dX11_lay_23 : decode cX11_lay 23 = .ok (.aload 5, 2) := dX11_lay_0_a.2.2.2.2.2.2.2.2.2.2.2.2.1
theorem dX11_lay_25 : decode cX11_lay 25 = .ok (.iload_n 2, 1) := dX11_lay_0_a.2.2.2.2.2.2.2.2.2.2.2.2.2.1
theorem dX11_lay_26 : decode cX11_lay 26 = .ok (.iload_n 3, 1) := dX11_lay_0_a.2.2.2.2.2.2.2.2.2.2.2.2.2.2.1
theorem dX11_lay_27 : decode cX11_lay 27 = .ok (.invokevirtual 237, 3) := dX11_lay_0_a.2.2.2.2.2.2.2.2.2.2.2.2.2.2.2
theorem dX11_lay_30_a : (decode cX11_lay 30 = .ok (.istore 6, 2)) ∧ (decode cX11_lay 32 = .ok (.iload 6, 2)) ∧ (decode cX11_lay 34 = .ok (.ifCond .eq 6, 3)) ∧ (decode cX11_lay 37 = .ok (.iload 6, 2)) ∧ (decode cX11_lay 39 = .ok (.ireturn, 1)) ∧ (decode cX11_lay 40 = .ok (.aload 5, 2)) ∧ (decode cX11_lay 42 = .ok (.iload_n 3, 1)) ∧ (decode cX11_lay 43 = .ok (.iload 4, 2)) ∧ (decode cX11_lay 45 = .ok (.invokevirtual 241, 3)) ∧ (decode cX11_lay 48 = .ok (.iconst 1, 1)) ∧ (decode cX11_lay 49 = .ok (.ireturn, 1)) := by decide +kernel
theorem dX11_lay_30 : decode cX11_lay 30 = .ok (.istore 6, 2) := dX11_lay_30_a.1
theorem dX11_lay_32 : decode cX11_lay 32 = .ok (.iload 6, 2) := dX11_lay_30_a.2.1
theorem dX11_lay_34 : decode cX11_lay 34 = .ok (.ifCond .eq 6, 3) := dX11_lay_30_a.2.2.1
theorem dX11_lay_37 : decode cX11_lay 37 = .ok (.iload 6, 2) := dX11_lay_30_a.2.2.2.1
theorem dX11_lay_39 : decode cX11_lay 39 = .ok (.ireturn, 1) := dX11_lay_30_a.2.2.2.2.1
theorem dX11_lay_40 : decode cX11_lay 40 = .ok (.aload 5, 2) := dX11_lay_30_a.2.2.2.2.2.1
theorem dX11_lay_42 : decode cX11_lay 42 = .ok (.iload_n 3, 1) := dX11_lay_30_a.2.2.2.2.2.2.1
theorem dX11_lay_43 : decode cX11_lay 43 = .ok (.iload 4, 2) := dX11_lay_30_a.2.2.2.2.2.2.2.1
theorem dX11_lay_45 : decode cX11_lay 45 = .ok (.invokevirtual 241, 3) := dX11_lay_30_a.2.2.2.2.2.2.2.2.1
theorem dX11_lay_48 : decode cX11_lay 48 = .ok (.iconst 1, 1) := dX11_lay_30_a.2.2.2.2.2.2.2.2.2.1
theorem dX11_lay_49 : decode cX11_lay 49 = .ok (.ireturn, 1) := dX11_lay_30_a.2.2.2.2.2.2.2.2.2.2
theorem dX11_get_0_a : (decode cX11_get 0 = .ok (.aload_n 0, 1)) ∧ (decode cX11_get 1 = .ok (.iload_n 1, 1)) ∧ (decode cX11_get 2 = .ok (.invokevirtual 129, 3)) ∧ (decode cX11_get 5 = .ok (.astore 4, 2)) ∧ (decode cX11_get 7 = .ok (.aload 4, 2)) ∧ (decode cX11_get 9 = .ok (.ifnull 21, 3)) ∧ (decode cX11_get 12 = .ok (.iload_n 2, 1)) ∧ (decode cX11_get 13 = .ok (.invokestatic 230, 3)) ∧ (decode cX11_get 16 = .ok (.ifCond .eq 14, 3)) ∧ (decode cX11_get 19 = .ok (.aload_n 0, 1)) ∧ (decode cX11_get 20 = .ok (.aload 4, 2)) ∧ (decode cX11_get 22 = .ok (.iload_n 2, 1)) ∧ (decode cX11_get 23 = .ok (.iload_n 3, 1)) ∧ (decode cX11_get 24 = .ok (.invokevirtual 237, 3)) ∧ (decode cX11_get 27 = .ok (.ifCond .eq 6, 3)) ∧ (decode cX11_get 30 = .ok (.ldc 244, 2)) := by decide +kernel
theorem dX11_get_0 : decode cX11_get 0 = .ok (.aload_n 0, 1) := dX11_get_0_a.1
theorem dX11_get_1 : decode cX11_get 1 = .ok (.iload_n 1, 1) := dX11_get_0_a.2.1
theorem dX11_get_2 : decode cX11_get 2 = .ok (.invokevirtual 129, 3) := dX11_get_0_a.2.2.1
theorem dX11_get_5 : decode cX11_get 5 = .ok (.astore 4, 2) := dX11_get_0_a.2.2.2.1
theorem dX11_get_7 : decode cX11_get 7 = .ok (.aload 4, 2) := dX11_get_0_a.2.2.2.2.1
theorem dX11_get_9 : decode cX11_get 9 = .ok (.ifnull 21, 3) := dX11_get_0_a.2.2.2.2.2.1
theorem dX11_get_12 : decode cX11_get 12 = .ok (.iload_n 2, 1) := dX11_get_0_a.2.2.2.2.2.2.1
theorem dX11_get_13 : decode cX11_get 13 = .ok (.invokestatic 230, 3) := dX11_get_0_a.2.2.2.2.2.2.2.1
theorem dX11_get_16 : decode cX11_get 16 = .ok (.ifCond .eq 14, 3) := dX11_get_0_a.2.2.2.2.2.2.2.2.1
theorem dX11_get_19 : decode cX11_get 19 = .ok (.aload_n 0, 1) := dX11_get_0_a.2.2.2.2.2.2.2.2.2.1
theorem dX11_get_20 : decode cX11_get 20 = .ok (.aload 4, 2) := dX11_get_0_a.2.2.2.2.2.2.2.2.2.2.1
theorem dX11_get_22 : decode cX11_get 22 = .ok (.iload_n 2, 1) := dX11_get_0_a.2.2.2.2.2.2.2.2.2.2.2.1
theorem dX11_get_23 : decode cX11_get 23 = .ok (.iload_n 3, 1) := dX11_get_0_a.2.2.2.2.2.2.2.2.2.2.2.2.1
